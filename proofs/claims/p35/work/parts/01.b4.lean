theorem dX12_worlds_72 : decode cX12_worlds 72 = .ok (.aload_n 0, 1) := by decide +kernel
theorem dX12_worlds_73 : decode cX12_worlds 73 = .ok (.getfield 370, 3) := by decide +kernel
theorem dX12_worlds_76 : decode cX12_worlds 76 = .ok (.if_icmp .ge 71, 3) := by decide +kernel
theorem dX12_worlds_79 : decode cX12_worlds 79 = .ok (.aload_n 0, 1) := by decide +kernel
theorem dX12_worlds_80 : decode cX12_worlds 80 = .ok (.getfield 49, 3) := by decide +kernel
theorem dX12_worlds_83 : decode cX12_worlds 83 = .ok (.iload 6, 2) := by decide +kernel
theorem dX12_worlds_85 : decode cX12_worlds 85 = .ok (.iaload, 1) := by decide +kernel
theorem dX12_worlds_86 : decode cX12_worlds 86 = .ok (.invokestatic 326, 3) := by decide +kernel
theorem dX12_worlds_89 : decode cX12_worlds 89 = .ok (.istore 7, 2) := by decide +kernel
theorem dX12_worlds_91 : decode cX12_worlds 91 = .ok (.iload 7, 2) := by decide +kernel
theorem dX12_worlds_93 : decode cX12_worlds 93 = .ok (.iload_n 2, 1) := by decide +kernel
theorem dX12_worlds_94 : decode cX12_worlds 94 = .ok (.if_icmp .ge 8, 3) := by decide +kernel
theorem dX12_worlds_97 : decode cX12_worlds 97 = .ok (.iload 7, 2) := by decide +kernel
theorem dX12_worlds_99 : decode cX12_worlds 99 = .ok (.goto 4, 3) := by decide +kernel
theorem dX12_worlds_102 : decode cX12_worlds 102 = .ok (.iload_n 2, 1) := by decide +kernel
theorem dX12_worlds_103 : decode cX12_worlds 103 = .ok (.istore_n 2, 1) := by decide +kernel
theorem dX12_worlds_104 : decode cX12_worlds 104 = .ok (.iload 7, 2) := by decide +kernel
theorem dX12_worlds_106 : decode cX12_worlds 106 = .ok (.iload_n 3, 1) := by decide +kernel
theorem dX12_worlds_107 : decode cX12_worlds 107 = .ok (.if_icmp .le 8, 3) := by decide +kernel
theorem dX12_worlds_110 : decode cX12_worlds 110 = .ok (.iload 7, 2) := by decide +kernel
theorem dX12_worlds_112 : decode cX12_worlds 112 = .ok (.goto 4, 3) := by decide +kernel
theorem dX12_worlds_115 : decode cX12_worlds 115 = .ok (.iload_n 3, 1) := by decide +kernel
theorem dX12_worlds_116 : decode cX12_worlds 116 = .ok (.istore_n 3, 1) := by decide +kernel
theorem dX12_worlds_117 : decode cX12_worlds 117 = .ok (.iload 4, 2) := by decide +kernel
theorem dX12_worlds_119 : decode cX12_worlds 119 = .ok (.aload_n 0, 1) := by decide +kernel
theorem dX12_worlds_120 : decode cX12_worlds 120 = .ok (.getfield 49, 3) := by decide +kernel
theorem dX12_worlds_123 : decode cX12_worlds 123 = .ok (.iload 6, 2) := by decide +kernel
theorem dX12_worlds_125 : decode cX12_worlds 125 = .ok (.iaload, 1) := by decide +kernel
theorem dX12_worlds_126 : decode cX12_worlds 126 = .ok (.iand, 1) := by decide +kernel
theorem dX12_worlds_127 : decode cX12_worlds 127 = .ok (.istore 4, 2) := by decide +kernel
theorem dX12_worlds_129 : decode cX12_worlds 129 = .ok (.iload 5, 2) := by decide +kernel
theorem dX12_worlds_131 : decode cX12_worlds 131 = .ok (.aload_n 0, 1) := by decide +kernel
theorem dX12_worlds_132 : decode cX12_worlds 132 = .ok (.getfield 49, 3) := by decide +kernel
theorem dX12_worlds_135 : decode cX12_worlds 135 = .ok (.iload 6, 2) := by decide +kernel
theorem dX12_worlds_137 : decode cX12_worlds 137 = .ok (.iaload, 1) := by decide +kernel
theorem dX12_worlds_138 : decode cX12_worlds 138 = .ok (.ior, 1) := by decide +kernel
theorem dX12_worlds_139 : decode cX12_worlds 139 = .ok (.istore 5, 2) := by decide +kernel
theorem dX12_worlds_141 : decode cX12_worlds 141 = .ok (.iinc 6 1, 3) := by decide +kernel
theorem dX12_worlds_144 : decode cX12_worlds 144 = .ok (.goto (-74), 3) := by decide +kernel
theorem dX12_worlds_147 : decode cX12_worlds 147 = .ok (.iload_n 1, 1) := by decide +kernel
theorem dX12_worlds_148 : decode cX12_worlds 148 = .ok (.iconst 1, 1) := by decide +kernel
theorem dX12_worlds_149 : decode cX12_worlds 149 = .ok (.if_icmp .ne 7, 3) := by decide +kernel
theorem dX12_worlds_152 : decode cX12_worlds 152 = .ok (.iload_n 2, 1) := by decide +kernel
theorem dX12_worlds_153 : decode cX12_worlds 153 = .ok (.goto 31, 3) := by decide +kernel
theorem dX12_worlds_156 : decode cX12_worlds 156 = .ok (.iload_n 1, 1) := by decide +kernel
theorem dX12_worlds_157 : decode cX12_worlds 157 = .ok (.iconst 2, 1) := by decide +kernel
theorem dX12_worlds_158 : decode cX12_worlds 158 = .ok (.if_icmp .ne 7, 3) := by decide +kernel
theorem dX12_worlds_161 : decode cX12_worlds 161 = .ok (.iload_n 3, 1) := by decide +kernel
theorem dX12_worlds_162 : decode cX12_worlds 162 = .ok (.goto 22, 3) := by decide +kernel
theorem dX12_worlds_165 : decode cX12_worlds 165 = .ok (.iload_n 1, 1) := by decide +kernel
theorem dX12_worlds_166 : decode cX12_worlds 166 = .ok (.iconst 3, 1) := by decide +kernel
theorem dX12_worlds_167 : decode cX12_worlds 167 = .ok (.if_icmp .ne 8, 3) := by decide +kernel
theorem dX12_worlds_170 : decode cX12_worlds 170 = .ok (.iload 4, 2) := by decide +kernel
theorem dX12_worlds_172 : decode cX12_worlds 172 = .ok (.goto 12, 3) := by decide +kernel
theorem dX12_worlds_175 : decode cX12_worlds 175 = .ok (.aload_n 0, 1) := by decide +kernel
theorem dX12_worlds_176 : decode cX12_worlds 176 = .ok (.invokevirtual 333, 3) := by decide +kernel
theorem dX12_worlds_179 : decode cX12_worlds 179 = .ok (.iload 5, 2) := by decide +kernel
theorem dX12_worlds_181 : decode cX12_worlds 181 = .ok (.iconst (-1), 1) := by decide +kernel
theorem dX12_worlds_182 : decode cX12_worlds 182 = .ok (.ixor, 1) := by decide +kernel
theorem dX12_worlds_183 : decode cX12_worlds 183 = .ok (.iand, 1) := by decide +kernel
theorem dX12_worlds_184 : decode cX12_worlds 184 = .ok (.ireturn, 1) := by decide +kernel
set_option maxRecDepth 20000 in
theorem ggX12_mostAlike_X12_sumOf : GoodIn wsX12_mostAlike wsX12_sumOf := goodIn_r _ [8, 9, 10, 11, 12, 7, 13, 14, 15, 16, 17, 18, 19, 20, 21, 22, 23, 24, 25, 26, 27, 28, 29, 30, 31, 32, 33, 34, 35, 36, 37, 38, 39, 40, 41, 42, 43, 44, 45, 46, 47, 48, 49, 50, 51, 52, 53, 54, 55, 56, 57, 58, 59, 60, 61, 62, 63, 64, 65, 66, 67, 68, 69, 70, 71, 72, 73, 74, 75, 76, 77, 78, 79, 80, 81, 82, 83, 84, 85, 86, 87, 88, 89, 90, 91, 92, 93, 94, 95, 96, 97, 98, 99, 100, 101, 102, 103, 104, 105, 106, 107, 108, 109, 110, 111] (by decide +kernel) (by decide +kernel)
set_option maxRecDepth 20000 in
theorem gX12_mostAlike_X12_sumOf : GoodIn wsX12_mostAlike (wsV RX12 336 RX12 yX12_sumOf wsX12_sumOf) := goodIn_app (goodIn_of _ (by decide +kernel)) ggX12_mostAlike_X12_sumOf
theorem dX12_mostAlike_0 : decode cX12_mostAlike 0 = .ok (.iconst 0, 1) := by decide +kernel
theorem dX12_mostAlike_1 : decode cX12_mostAlike 1 = .ok (.istore_n 3, 1) := by decide +kernel
theorem dX12_mostAlike_2 : decode cX12_mostAlike 2 = .ok (.iconst 0, 1) := by decide +kernel
theorem dX12_mostAlike_3 : decode cX12_mostAlike 3 = .ok (.istore 4, 2) := by decide +kernel
theorem dX12_mostAlike_5 : decode cX12_mostAlike 5 = .ok (.iload 4, 2) := by decide +kernel
theorem dX12_mostAlike_7 : decode cX12_mostAlike 7 = .ok (.aload_n 0, 1) := by decide +kernel
theorem dX12_mostAlike_8 : decode cX12_mostAlike 8 = .ok (.getfield 370, 3) := by decide +kernel
theorem dX12_mostAlike_11 : decode cX12_mostAlike 11 = .ok (.if_icmp .ge 29, 3) := by decide +kernel
theorem dX12_mostAlike_14 : decode cX12_mostAlike 14 = .ok (.aload_n 0, 1) := by decide +kernel
theorem dX12_mostAlike_15 : decode cX12_mostAlike 15 = .ok (.getfield 52, 3) := by decide +kernel
theorem dX12_mostAlike_18 : decode cX12_mostAlike 18 = .ok (.iload 4, 2) := by decide +kernel
theorem dX12_mostAlike_20 : decode cX12_mostAlike 20 = .ok (.aload_n 0, 1) := by decide +kernel
theorem dX12_mostAlike_21 : decode cX12_mostAlike 21 = .ok (.aload_n 0, 1) := by decide +kernel
theorem dX12_mostAlike_22 : decode cX12_mostAlike 22 = .ok (.getfield 49, 3) := by decide +kernel
theorem dX12_mostAlike_25 : decode cX12_mostAlike 25 = .ok (.iload 4, 2) := by decide +kernel
theorem dX12_mostAlike_27 : decode cX12_mostAlike 27 = .ok (.iaload, 1) := by decide +kernel
theorem dX12_mostAlike_28 : decode cX12_mostAlike 28 = .ok (.iload_n 1, 1) := by decide +kernel
theorem dX12_mostAlike_29 : decode cX12_mostAlike 29 = .ok (.iload_n 2, 1) := by decide +kernel
theorem dX12_mostAlike_30 : decode cX12_mostAlike 30 = .ok (.invokevirtual 336, 3) := by decide +kernel
theorem dX12_mostAlike_33 : decode cX12_mostAlike 33 = .ok (.iastore, 1) := by decide +kernel
theorem dX12_mostAlike_34 : decode cX12_mostAlike 34 = .ok (.iinc 4 1, 3) := by decide +kernel
theorem dX12_mostAlike_37 : decode cX12_mostAlike 37 = .ok (.goto (-32), 3) := by decide +kernel
theorem dX12_mostAlike_40 : decode cX12_mostAlike 40 = .ok (.iconst 0, 1) := by decide +kernel
theorem dX12_mostAlike_41 : decode cX12_mostAlike 41 = .ok (.istore 4, 2) := by decide +kernel
theorem dX12_mostAlike_43 : decode cX12_mostAlike 43 = .ok (.iload 4, 2) := by decide +kernel
theorem dX12_mostAlike_45 : decode cX12_mostAlike 45 = .ok (.aload_n 0, 1) := by decide +kernel
theorem dX12_mostAlike_46 : decode cX12_mostAlike 46 = .ok (.getfield 370, 3) := by decide +kernel
theorem dX12_mostAlike_49 : decode cX12_mostAlike 49 = .ok (.if_icmp .ge 70, 3) := by decide +kernel
theorem dX12_mostAlike_52 : decode cX12_mostAlike 52 = .ok (.iconst 0, 1) := by decide +kernel
theorem dX12_mostAlike_53 : decode cX12_mostAlike 53 = .ok (.istore 5, 2) := by decide +kernel
theorem dX12_mostAlike_55 : decode cX12_mostAlike 55 = .ok (.iconst 0, 1) := by decide +kernel
theorem dX12_mostAlike_56 : decode cX12_mostAlike 56 = .ok (.istore 6, 2) := by decide +kernel
theorem dX12_mostAlike_58 : decode cX12_mostAlike 58 = .ok (.iload 6, 2) := by decide +kernel
theorem dX12_mostAlike_60 : decode cX12_mostAlike 60 = .ok (.aload_n 0, 1) := by decide +kernel
theorem dX12_mostAlike_61 : decode cX12_mostAlike 61 = .ok (.getfield 370, 3) := by decide +kernel
theorem dX12_mostAlike_64 : decode cX12_mostAlike 64 = .ok (.if_icmp .ge 36, 3) := by decide +kernel
theorem dX12_mostAlike_67 : decode cX12_mostAlike 67 = .ok (.iload 5, 2) := by decide +kernel
theorem dX12_mostAlike_69 : decode cX12_mostAlike 69 = .ok (.aload_n 0, 1) := by decide +kernel
theorem dX12_mostAlike_70 : decode cX12_mostAlike 70 = .ok (.getfield 52, 3) := by decide +kernel
theorem dX12_mostAlike_73 : decode cX12_mostAlike 73 = .ok (.iload 6, 2) := by decide +kernel
theorem dX12_mostAlike_75 : decode cX12_mostAlike 75 = .ok (.iaload, 1) := by decide +kernel
theorem dX12_mostAlike_76 : decode cX12_mostAlike 76 = .ok (.aload_n 0, 1) := by decide +kernel
theorem dX12_mostAlike_77 : decode cX12_mostAlike 77 = .ok (.getfield 52, 3) := by decide +kernel
theorem dX12_mostAlike_80 : decode cX12_mostAlike 80 = .ok (.iload 4, 2) := by decide +kernel
theorem dX12_mostAlike_82 : decode cX12_mostAlike 82 = .ok (.iaload, 1) := by decide +kernel
theorem dX12_mostAlike_83 : decode cX12_mostAlike 83 = .ok (.if_icmp .ne 7, 3) := by decide +kernel
theorem dX12_mostAlike_86 : decode cX12_mostAlike 86 = .ok (.iconst 1, 1) := by decide +kernel
theorem dX12_mostAlike_87 : decode cX12_mostAlike 87 = .ok (.goto 4, 3) := by decide +kernel
theorem dX12_mostAlike_90 : decode cX12_mostAlike 90 = .ok (.iconst 0, 1) := by decide +kernel
theorem dX12_mostAlike_91 : decode cX12_mostAlike 91 = .ok (.iadd, 1) := by decide +kernel
theorem dX12_mostAlike_92 : decode cX12_mostAlike 92 = .ok (.istore 5, 2) := by decide +kernel
theorem dX12_mostAlike_94 : decode cX12_mostAlike 94 = .ok (.iinc 6 1, 3) := by decide +kernel
theorem dX12_mostAlike_97 : decode cX12_mostAlike 97 = .ok (.goto (-39), 3) := by decide +kernel
theorem dX12_mostAlike_100 : decode cX12_mostAlike 100 = .ok (.iload 5, 2) := by decide +kernel
theorem dX12_mostAlike_102 : decode cX12_mostAlike 102 = .ok (.iload_n 3, 1) := by decide +kernel
theorem dX12_mostAlike_103 : decode cX12_mostAlike 103 = .ok (.if_icmp .le 8, 3) := by decide +kernel
theorem dX12_mostAlike_106 : decode cX12_mostAlike 106 = .ok (.iload 5, 2) := by decide +kernel
theorem dX12_mostAlike_108 : decode cX12_mostAlike 108 = .ok (.goto 4, 3) := by decide +kernel
theorem dX12_mostAlike_111 : decode cX12_mostAlike 111 = .ok (.iload_n 3, 1) := by decide +kernel
theorem dX12_mostAlike_112 : decode cX12_mostAlike 112 = .ok (.istore_n 3, 1) := by decide +kernel
theorem dX12_mostAlike_113 : decode cX12_mostAlike 113 = .ok (.iinc 4 1, 3) := by decide +kernel
theorem dX12_mostAlike_116 : decode cX12_mostAlike 116 = .ok (.goto (-73), 3) := by decide +kernel
theorem dX12_mostAlike_119 : decode cX12_mostAlike 119 = .ok (.iload_n 3, 1) := by decide +kernel
theorem dX12_mostAlike_120 : decode cX12_mostAlike 120 = .ok (.ireturn, 1) := by decide +kernel
set_option maxRecDepth 20000 in
theorem ggX12_ask_X12_isTown : GoodIn wsX12_ask wsX12_isTown := goodIn_r _ [8, 3, 92, 93, 94, 95, 96, 97, 98, 99, 100, 101, 102, 103, 104, 105, 106, 107, 108, 109, 110, 111, 112, 113, 114, 115, 116, 117, 118, 119, 120, 121, 122, 123, 124, 125, 126, 127, 128, 129, 130, 131, 132, 133, 134, 135] (by decide +kernel) (by decide +kernel)
set_option maxRecDepth 20000 in
theorem gX12_ask_X12_isTown : GoodIn wsX12_ask (wsV RX12 360 RX12 yX12_isTown wsX12_isTown) := goodIn_app (goodIn_of _ (by decide +kernel)) ggX12_ask_X12_isTown
set_option maxRecDepth 20000 in
theorem ggX12_ask_X12_in : GoodIn wsX12_ask wsX12_in := goodIn_r _ [11] (by decide +kernel) (by decide +kernel)
set_option maxRecDepth 20000 in
theorem gX12_ask_X12_in : GoodIn wsX12_ask (va_wsS RX12 127 yX12_in wsX12_in) := goodIn_app (goodIn_of _ (by decide +kernel)) ggX12_ask_X12_in
set_option maxRecDepth 20000 in
theorem ggX12_ask_X12_gathersFitting : GoodIn wsX12_ask wsX12_gathersFitting := goodIn_r _ [15, 2, 16, 17, 18, 19, 7, 20, 3, 21, 22, 23, 24, 25, 26, 27, 28, 29, 30, 31, 32, 33, 34, 35, 36, 37, 38, 39, 40, 41, 42, 43, 44, 45, 46, 47, 48, 49, 50, 51, 52, 53, 54, 55, 56, 57, 58, 59, 60, 61, 62, 63, 64, 65, 66, 67, 68, 69, 70, 71, 72, 73, 74, 75, 76, 77, 78, 79, 80, 81, 82, 83, 84, 85, 86, 92, 93, 94, 95, 96, 97, 98, 99, 100, 101, 102, 103, 104, 105, 106, 107, 108, 109, 110, 111, 112, 113, 114, 115, 116, 117, 118, 119, 120, 121, 122, 123, 124, 125, 126, 127, 128, 129, 130, 131, 132, 133, 134, 135] (by decide +kernel) (by decide +kernel)
set_option maxRecDepth 20000 in
theorem gX12_ask_X12_gathersFitting : GoodIn wsX12_ask (wsV RX12 376 RX12 yX12_gathersFitting wsX12_gathersFitting) := goodIn_app (goodIn_of _ (by decide +kernel)) ggX12_ask_X12_gathersFitting
set_option maxRecDepth 20000 in
theorem ggX12_ask_X12_mostAlike : GoodIn wsX12_ask wsX12_mostAlike := goodIn_r _ [90, 2, 91, 16, 25, 26, 27, 7, 28, 3, 29, 30, 31, 32, 33, 34, 35, 36, 37, 38, 39, 40, 41, 42, 43, 44, 45, 46, 47, 48, 49, 50, 51, 52, 53, 54, 55, 56, 57, 58, 59, 60, 61, 62, 63, 64, 65, 66, 67, 68, 69, 70, 71, 72, 73, 74, 75, 76, 77, 78, 79, 80, 81, 82, 83, 84, 85, 86, 92, 93, 94, 95, 96, 97, 98, 99, 100, 101, 102, 103, 104, 105, 106, 107, 108, 109, 110, 111, 112, 113, 114, 115, 116, 117, 118, 119, 120, 121, 122, 123, 124, 125, 126, 127, 128, 129, 130, 131, 132, 133, 134, 135] (by decide +kernel) (by decide +kernel)
set_option maxRecDepth 20000 in
theorem gX12_ask_X12_mostAlike : GoodIn wsX12_ask (wsV RX12 381 RX12 yX12_mostAlike wsX12_mostAlike) := goodIn_app (goodIn_of _ (by decide +kernel)) ggX12_ask_X12_mostAlike
theorem dX12_ask_0 : decode cX12_ask 0 = .ok (.aload_n 0, 1) := by decide +kernel
theorem dX12_ask_1 : decode cX12_ask 1 = .ok (.invokevirtual 360, 3) := by decide +kernel
theorem dX12_ask_4 : decode cX12_ask 4 = .ok (.ifCond .eq 15, 3) := by decide +kernel
theorem dX12_ask_7 : decode cX12_ask 7 = .ok (.iload_n 1, 1) := by decide +kernel
theorem dX12_ask_8 : decode cX12_ask 8 = .ok (.i2l, 1) := by decide +kernel
theorem dX12_ask_9 : decode cX12_ask 9 = .ok (.lconst 0, 1) := by decide +kernel
theorem dX12_ask_10 : decode cX12_ask 10 = .ok (.ldc2_w 379, 3) := by decide +kernel
theorem dX12_ask_13 : decode cX12_ask 13 = .ok (.invokestatic 127, 3) := by decide +kernel
theorem dX12_ask_16 : decode cX12_ask 16 = .ok (.ifCond .ne 5, 3) := by decide +kernel
theorem dX12_ask_19 : decode cX12_ask 19 = .ok (.iconst (-1), 1) := by decide +kernel
theorem dX12_ask_20 : decode cX12_ask 20 = .ok (.ireturn, 1) := by decide +kernel
theorem dX12_ask_21 : decode cX12_ask 21 = .ok (.aload_n 0, 1) := by decide +kernel
theorem dX12_ask_22 : decode cX12_ask 22 = .ok (.invokevirtual 376, 3) := by decide +kernel
theorem dX12_ask_25 : decode cX12_ask 25 = .ok (.aload_n 0, 1) := by decide +kernel
theorem dX12_ask_26 : decode cX12_ask 26 = .ok (.getfield 370, 3) := by decide +kernel
theorem dX12_ask_29 : decode cX12_ask 29 = .ok (.ifCond .ne 6, 3) := by decide +kernel
theorem dX12_ask_32 : decode cX12_ask 32 = .ok (.bipush (-2), 2) := by decide +kernel
theorem dX12_ask_34 : decode cX12_ask 34 = .ok (.ireturn, 1) := by decide +kernel
theorem dX12_ask_35 : decode cX12_ask 35 = .ok (.iconst (-1), 1) := by decide +kernel
theorem dX12_ask_36 : decode cX12_ask 36 = .ok (.istore_n 2, 1) := by decide +kernel
theorem dX12_ask_37 : decode cX12_ask 37 = .ok (.iconst 0, 1) := by decide +kernel
theorem dX12_ask_38 : decode cX12_ask 38 = .ok (.istore_n 3, 1) := by decide +kernel
theorem dX12_ask_39 : decode cX12_ask 39 = .ok (.iconst 0, 1) := by decide +kernel
theorem dX12_ask_40 : decode cX12_ask 40 = .ok (.istore 4, 2) := by decide +kernel
theorem dX12_ask_42 : decode cX12_ask 42 = .ok (.iload 4, 2) := by decide +kernel
theorem dX12_ask_44 : decode cX12_ask 44 = .ok (.aload_n 0, 1) := by decide +kernel
theorem dX12_ask_45 : decode cX12_ask 45 = .ok (.getfield 39, 3) := by decide +kernel
theorem dX12_ask_48 : decode cX12_ask 48 = .ok (.iconst 1, 1) := by decide +kernel
theorem dX12_ask_49 : decode cX12_ask 49 = .ok (.iaload, 1) := by decide +kernel
theorem dX12_ask_50 : decode cX12_ask 50 = .ok (.if_icmp .ge 64, 3) := by decide +kernel
theorem dX12_ask_53 : decode cX12_ask 53 = .ok (.iconst 0, 1) := by decide +kernel
theorem dX12_ask_54 : decode cX12_ask 54 = .ok (.istore 5, 2) := by decide +kernel
theorem dX12_ask_56 : decode cX12_ask 56 = .ok (.iload 5, 2) := by decide +kernel
theorem dX12_ask_58 : decode cX12_ask 58 = .ok (.aload_n 0, 1) := by decide +kernel
theorem dX12_ask_59 : decode cX12_ask 59 = .ok (.getfield 39, 3) := by decide +kernel
theorem dX12_ask_62 : decode cX12_ask 62 = .ok (.iconst 0, 1) := by decide +kernel
theorem dX12_ask_63 : decode cX12_ask 63 = .ok (.iaload, 1) := by decide +kernel
theorem dX12_ask_64 : decode cX12_ask 64 = .ok (.if_icmp .ge 44, 3) := by decide +kernel
theorem dX12_ask_67 : decode cX12_ask 67 = .ok (.aload_n 0, 1) := by decide +kernel
theorem dX12_ask_68 : decode cX12_ask 68 = .ok (.iload 5, 2) := by decide +kernel
theorem dX12_ask_70 : decode cX12_ask 70 = .ok (.iload 4, 2) := by decide +kernel
theorem dX12_ask_72 : decode cX12_ask 72 = .ok (.invokevirtual 381, 3) := by decide +kernel
theorem dX12_ask_75 : decode cX12_ask 75 = .ok (.istore 6, 2) := by decide +kernel
theorem dX12_ask_77 : decode cX12_ask 77 = .ok (.iload_n 2, 1) := by decide +kernel
theorem dX12_ask_78 : decode cX12_ask 78 = .ok (.ifCond .lt 12, 3) := by decide +kernel
theorem dX12_ask_81 : decode cX12_ask 81 = .ok (.iload 6, 2) := by decide +kernel
theorem dX12_ask_83 : decode cX12_ask 83 = .ok (.iload_n 3, 1) := by decide +kernel
theorem dX12_ask_84 : decode cX12_ask 84 = .ok (.if_icmp .lt 6, 3) := by decide +kernel
theorem dX12_ask_87 : decode cX12_ask 87 = .ok (.goto 15, 3) := by decide +kernel
theorem dX12_ask_90 : decode cX12_ask 90 = .ok (.bipush 6, 2) := by decide +kernel
theorem dX12_ask_92 : decode cX12_ask 92 = .ok (.iload 4, 2) := by decide +kernel
theorem dX12_ask_94 : decode cX12_ask 94 = .ok (.imul, 1) := by decide +kernel
theorem dX12_ask_95 : decode cX12_ask 95 = .ok (.iload 5, 2) := by decide +kernel
theorem dX12_ask_97 : decode cX12_ask 97 = .ok (.iadd, 1) := by decide +kernel
theorem dX12_ask_98 : decode cX12_ask 98 = .ok (.istore_n 2, 1) := by decide +kernel
theorem dX12_ask_99 : decode cX12_ask 99 = .ok (.iload 6, 2) := by decide +kernel
theorem dX12_ask_101 : decode cX12_ask 101 = .ok (.istore_n 3, 1) := by decide +kernel
theorem dX12_ask_102 : decode cX12_ask 102 = .ok (.iinc 5 1, 3) := by decide +kernel
theorem dX12_ask_105 : decode cX12_ask 105 = .ok (.goto (-49), 3) := by decide +kernel
theorem dX12_ask_108 : decode cX12_ask 108 = .ok (.iinc 4 1, 3) := by decide +kernel
theorem dX12_ask_111 : decode cX12_ask 111 = .ok (.goto (-69), 3) := by decide +kernel
theorem dX12_ask_114 : decode cX12_ask 114 = .ok (.iload_n 1, 1) := by decide +kernel
theorem dX12_ask_115 : decode cX12_ask 115 = .ok (.ifCond .ne 10, 3) := by decide +kernel
theorem dX12_ask_118 : decode cX12_ask 118 = .ok (.iload_n 2, 1) := by decide +kernel
theorem dX12_ask_119 : decode cX12_ask 119 = .ok (.bipush 6, 2) := by decide +kernel
theorem dX12_ask_121 : decode cX12_ask 121 = .ok (.irem, 1) := by decide +kernel
theorem dX12_ask_122 : decode cX12_ask 122 = .ok (.goto 16, 3) := by decide +kernel
theorem dX12_ask_125 : decode cX12_ask 125 = .ok (.iload_n 1, 1) := by decide +kernel
theorem dX12_ask_126 : decode cX12_ask 126 = .ok (.iconst 1, 1) := by decide +kernel
theorem dX12_ask_127 : decode cX12_ask 127 = .ok (.if_icmp .ne 10, 3) := by decide +kernel
theorem dX12_ask_130 : decode cX12_ask 130 = .ok (.iload_n 2, 1) := by decide +kernel
theorem dX12_ask_131 : decode cX12_ask 131 = .ok (.bipush 6, 2) := by decide +kernel
theorem dX12_ask_133 : decode cX12_ask 133 = .ok (.idiv, 1) := by decide +kernel
theorem dX12_ask_134 : decode cX12_ask 134 = .ok (.goto 4, 3) := by decide +kernel
theorem dX12_ask_137 : decode cX12_ask 137 = .ok (.iload_n 3, 1) := by decide +kernel
theorem dX12_ask_138 : decode cX12_ask 138 = .ok (.ireturn, 1) := by decide +kernel
theorem dX12_haveAlike_0 : decode cX12_haveAlike 0 = .ok (.iconst 0, 1) := by decide +kernel
theorem dX12_haveAlike_1 : decode cX12_haveAlike 1 = .ok (.istore_n 3, 1) := by decide +kernel
theorem dX12_haveAlike_2 : decode cX12_haveAlike 2 = .ok (.iload_n 3, 1) := by decide +kernel
theorem dX12_haveAlike_3 : decode cX12_haveAlike 3 = .ok (.aload_n 0, 1) := by decide +kernel
theorem dX12_haveAlike_4 : decode cX12_haveAlike 4 = .ok (.getfield 39, 3) := by decide +kernel
theorem dX12_haveAlike_7 : decode cX12_haveAlike 7 = .ok (.iconst 1, 1) := by decide +kernel
theorem dX12_haveAlike_8 : decode cX12_haveAlike 8 = .ok (.iaload, 1) := by decide +kernel
theorem dX12_haveAlike_9 : decode cX12_haveAlike 9 = .ok (.if_icmp .ge 36, 3) := by decide +kernel
theorem dX12_haveAlike_12 : decode cX12_haveAlike 12 = .ok (.aload_n 0, 1) := by decide +kernel
theorem dX12_haveAlike_13 : decode cX12_haveAlike 13 = .ok (.getfield 58, 3) := by decide +kernel
theorem dX12_haveAlike_16 : decode cX12_haveAlike 16 = .ok (.bipush 12, 2) := by decide +kernel
theorem dX12_haveAlike_18 : decode cX12_haveAlike 18 = .ok (.iload_n 1, 1) := by decide +kernel
theorem dX12_haveAlike_19 : decode cX12_haveAlike 19 = .ok (.imul, 1) := by decide +kernel
theorem dX12_haveAlike_20 : decode cX12_haveAlike 20 = .ok (.iload_n 3, 1) := by decide +kernel
theorem dX12_haveAlike_21 : decode cX12_haveAlike 21 = .ok (.iadd, 1) := by decide +kernel
theorem dX12_haveAlike_22 : decode cX12_haveAlike 22 = .ok (.iaload, 1) := by decide +kernel
theorem dX12_haveAlike_23 : decode cX12_haveAlike 23 = .ok (.aload_n 0, 1) := by decide +kernel
theorem dX12_haveAlike_24 : decode cX12_haveAlike 24 = .ok (.getfield 58, 3) := by decide +kernel
theorem dX12_haveAlike_27 : decode cX12_haveAlike 27 = .ok (.bipush 12, 2) := by decide +kernel
theorem dX12_haveAlike_29 : decode cX12_haveAlike 29 = .ok (.iload_n 2, 1) := by decide +kernel
theorem dX12_haveAlike_30 : decode cX12_haveAlike 30 = .ok (.imul, 1) := by decide +kernel
theorem dX12_haveAlike_31 : decode cX12_haveAlike 31 = .ok (.iload_n 3, 1) := by decide +kernel
theorem dX12_haveAlike_32 : decode cX12_haveAlike 32 = .ok (.iadd, 1) := by decide +kernel
theorem dX12_haveAlike_33 : decode cX12_haveAlike 33 = .ok (.iaload, 1) := by decide +kernel
theorem dX12_haveAlike_34 : decode cX12_haveAlike 34 = .ok (.if_icmp .eq 5, 3) := by decide +kernel
theorem dX12_haveAlike_37 : decode cX12_haveAlike 37 = .ok (.iconst 0, 1) := by decide +kernel
theorem dX12_haveAlike_38 : decode cX12_haveAlike 38 = .ok (.ireturn, 1) := by decide +kernel
theorem dX12_haveAlike_39 : decode cX12_haveAlike 39 = .ok (.iinc 3 1, 3) := by decide +kernel
theorem dX12_haveAlike_42 : decode cX12_haveAlike 42 = .ok (.goto (-40), 3) := by decide +kernel
theorem dX12_haveAlike_45 : decode cX12_haveAlike 45 = .ok (.iconst 1, 1) := by decide +kernel
theorem dX12_haveAlike_46 : decode cX12_haveAlike 46 = .ok (.ireturn, 1) := by decide +kernel
set_option maxRecDepth 20000 in
theorem ggX12_sorts_X12_everybody : GoodIn wsX12_sorts wsX12_everybody := goodIn_r _ [8, 1, 75, 76, 77, 78, 79, 80, 81, 82, 83, 84, 85, 86, 87, 88, 89, 90, 91, 92, 93, 94, 95, 96, 97, 98, 99, 100, 101, 102, 103, 104, 105, 106, 107, 108, 109, 110, 111, 112, 113, 114, 115, 116, 117, 118] (by decide +kernel) (by decide +kernel)
set_option maxRecDepth 20000 in
theorem gX12_sorts_X12_everybody : GoodIn wsX12_sorts (wsV RX12 333 RX12 yX12_everybody wsX12_everybody) := goodIn_app (goodIn_of _ (by decide +kernel)) ggX12_sorts_X12_everybody
set_option maxRecDepth 20000 in
theorem ggX12_sorts_X12_sumOf : GoodIn wsX12_sorts wsX12_sumOf := goodIn_r _ [12, 1, 13, 14, 15, 7, 16, 17, 18, 19, 20, 21, 22, 23, 24, 25, 26, 27, 28, 29, 30, 31, 32, 33, 34, 35, 36, 37, 38, 39, 40, 41, 42, 43, 44, 45, 46, 47, 48, 49, 50, 51, 52, 53, 54, 55, 56, 57, 58, 59, 60, 61, 62, 63, 64, 65, 66, 67, 68, 69, 70, 75, 76, 77, 78, 79, 80, 81, 82, 83, 84, 85, 86, 87, 88, 89, 90, 91, 92, 93, 94, 95, 96, 97, 98, 99, 100, 101, 102, 103, 104, 105, 106, 107, 108, 109, 110, 111, 112, 113, 114, 115, 116, 117, 118] (by decide +kernel) (by decide +kernel)
set_option maxRecDepth 20000 in
theorem gX12_sorts_X12_sumOf : GoodIn wsX12_sorts (wsV RX12 336 RX12 yX12_sumOf wsX12_sumOf) := goodIn_app (goodIn_of _ (by decide +kernel)) ggX12_sorts_X12_sumOf
set_option maxRecDepth 20000 in
theorem ggX12_sorts_X12_haveAlike : GoodIn wsX12_sorts wsX12_haveAlike := goodIn_r _ [74, 1, 2, 75, 76, 77, 78, 79, 80, 81, 82, 83, 84, 85, 86, 87, 88, 89, 90, 91, 92, 93, 94, 95, 96, 97, 98, 99, 100, 101, 102, 103, 104, 105, 106, 107, 108, 109, 110, 111, 112, 113, 114, 115, 116, 117, 118] (by decide +kernel) (by decide +kernel)
set_option maxRecDepth 20000 in
theorem gX12_sorts_X12_haveAlike : GoodIn wsX12_sorts (wsV RX12 384 RX12 yX12_haveAlike wsX12_haveAlike) := goodIn_app (goodIn_of _ (by decide +kernel)) ggX12_sorts_X12_haveAlike
theorem dX12_sorts_0 : decode cX12_sorts 0 = .ok (.aload_n 0, 1) := by decide +kernel
theorem dX12_sorts_1 : decode cX12_sorts 1 = .ok (.invokevirtual 333, 3) := by decide +kernel
theorem dX12_sorts_4 : decode cX12_sorts 4 = .ok (.iconst 1, 1) := by decide +kernel
theorem dX12_sorts_5 : decode cX12_sorts 5 = .ok (.iadd, 1) := by decide +kernel
theorem dX12_sorts_6 : decode cX12_sorts 6 = .ok (.istore_n 2, 1) := by decide +kernel
theorem dX12_sorts_7 : decode cX12_sorts 7 = .ok (.iconst 0, 1) := by decide +kernel
theorem dX12_sorts_8 : decode cX12_sorts 8 = .ok (.istore_n 3, 1) := by decide +kernel
theorem dX12_sorts_9 : decode cX12_sorts 9 = .ok (.iload_n 3, 1) := by decide +kernel
theorem dX12_sorts_10 : decode cX12_sorts 10 = .ok (.iload_n 2, 1) := by decide +kernel
theorem dX12_sorts_11 : decode cX12_sorts 11 = .ok (.if_icmp .ge 49, 3) := by decide +kernel
theorem dX12_sorts_14 : decode cX12_sorts 14 = .ok (.iconst 0, 1) := by decide +kernel
theorem dX12_sorts_15 : decode cX12_sorts 15 = .ok (.istore 4, 2) := by decide +kernel
theorem dX12_sorts_17 : decode cX12_sorts 17 = .ok (.iload 4, 2) := by decide +kernel
theorem dX12_sorts_19 : decode cX12_sorts 19 = .ok (.aload_n 0, 1) := by decide +kernel
theorem dX12_sorts_20 : decode cX12_sorts 20 = .ok (.getfield 39, 3) := by decide +kernel
theorem dX12_sorts_23 : decode cX12_sorts 23 = .ok (.iconst 1, 1) := by decide +kernel
theorem dX12_sorts_24 : decode cX12_sorts 24 = .ok (.iaload, 1) := by decide +kernel
theorem dX12_sorts_25 : decode cX12_sorts 25 = .ok (.if_icmp .ge 29, 3) := by decide +kernel
theorem dX12_sorts_28 : decode cX12_sorts 28 = .ok (.aload_n 0, 1) := by decide +kernel
theorem dX12_sorts_29 : decode cX12_sorts 29 = .ok (.getfield 58, 3) := by decide +kernel
theorem dX12_sorts_32 : decode cX12_sorts 32 = .ok (.bipush 12, 2) := by decide +kernel
theorem dX12_sorts_34 : decode cX12_sorts 34 = .ok (.iload_n 3, 1) := by decide +kernel
theorem dX12_sorts_35 : decode cX12_sorts 35 = .ok (.imul, 1) := by decide +kernel
theorem dX12_sorts_36 : decode cX12_sorts 36 = .ok (.iload 4, 2) := by decide +kernel
theorem dX12_sorts_38 : decode cX12_sorts 38 = .ok (.iadd, 1) := by decide +kernel
theorem dX12_sorts_39 : decode cX12_sorts 39 = .ok (.aload_n 0, 1) := by decide +kernel
theorem dX12_sorts_40 : decode cX12_sorts 40 = .ok (.iload_n 3, 1) := by decide +kernel
theorem dX12_sorts_41 : decode cX12_sorts 41 = .ok (.iload_n 1, 1) := by decide +kernel
theorem dX12_sorts_42 : decode cX12_sorts 42 = .ok (.iload 4, 2) := by decide +kernel
theorem dX12_sorts_44 : decode cX12_sorts 44 = .ok (.invokevirtual 336, 3) := by decide +kernel
theorem dX12_sorts_47 : decode cX12_sorts 47 = .ok (.iastore, 1) := by decide +kernel
theorem dX12_sorts_48 : decode cX12_sorts 48 = .ok (.iinc 4 1, 3) := by decide +kernel
theorem dX12_sorts_51 : decode cX12_sorts 51 = .ok (.goto (-34), 3) := by decide +kernel
theorem dX12_sorts_54 : decode cX12_sorts 54 = .ok (.iinc 3 1, 3) := by decide +kernel
theorem dX12_sorts_57 : decode cX12_sorts 57 = .ok (.goto (-48), 3) := by decide +kernel
theorem dX12_sorts_60 : decode cX12_sorts 60 = .ok (.iconst 0, 1) := by decide +kernel
theorem dX12_sorts_61 : decode cX12_sorts 61 = .ok (.istore_n 3, 1) := by decide +kernel
theorem dX12_sorts_62 : decode cX12_sorts 62 = .ok (.iload_n 3, 1) := by decide +kernel
theorem dX12_sorts_63 : decode cX12_sorts 63 = .ok (.iload_n 2, 1) := by decide +kernel
theorem dX12_sorts_64 : decode cX12_sorts 64 = .ok (.if_icmp .ge 42, 3) := by decide +kernel
theorem dX12_sorts_67 : decode cX12_sorts 67 = .ok (.iconst 0, 1) := by decide +kernel
theorem dX12_sorts_68 : decode cX12_sorts 68 = .ok (.istore 4, 2) := by decide +kernel
theorem dX12_sorts_70 : decode cX12_sorts 70 = .ok (.aload_n 0, 1) := by decide +kernel
theorem dX12_sorts_71 : decode cX12_sorts 71 = .ok (.iload 4, 2) := by decide +kernel
theorem dX12_sorts_73 : decode cX12_sorts 73 = .ok (.iload_n 3, 1) := by decide +kernel
theorem dX12_sorts_74 : decode cX12_sorts 74 = .ok (.invokevirtual 384, 3) := by decide +kernel
theorem dX12_sorts_77 : decode cX12_sorts 77 = .ok (.ifCond .ne 9, 3) := by decide +kernel
theorem dX12_sorts_80 : decode cX12_sorts 80 = .ok (.iinc 4 1, 3) := by decide +kernel
theorem dX12_sorts_83 : decode cX12_sorts 83 = .ok (.goto (-13), 3) := by decide +kernel
theorem dX12_sorts_86 : decode cX12_sorts 86 = .ok (.aload_n 0, 1) := by decide +kernel
theorem dX12_sorts_87 : decode cX12_sorts 87 = .ok (.getfield 55, 3) := by decide +kernel
theorem dX12_sorts_90 : decode cX12_sorts 90 = .ok (.sipush 256, 3) := by decide +kernel
theorem dX12_sorts_93 : decode cX12_sorts 93 = .ok (.iload_n 1, 1) := by decide +kernel
theorem dX12_sorts_94 : decode cX12_sorts 94 = .ok (.imul, 1) := by decide +kernel
theorem dX12_sorts_95 : decode cX12_sorts 95 = .ok (.iload_n 3, 1) := by decide +kernel
theorem dX12_sorts_96 : decode cX12_sorts 96 = .ok (.iadd, 1) := by decide +kernel
theorem dX12_sorts_97 : decode cX12_sorts 97 = .ok (.iload 4, 2) := by decide +kernel
theorem dX12_sorts_99 : decode cX12_sorts 99 = .ok (.iastore, 1) := by decide +kernel
theorem dX12_sorts_100 : decode cX12_sorts 100 = .ok (.iinc 3 1, 3) := by decide +kernel
theorem dX12_sorts_103 : decode cX12_sorts 103 = .ok (.goto (-41), 3) := by decide +kernel
theorem dX12_sorts_106 : decode cX12_sorts 106 = .ok (.return_, 1) := by decide +kernel
set_option maxRecDepth 20000 in
theorem ggX12_areAlikeAt_X12_isOf : GoodIn wsX12_areAlikeAt wsX12_isOf := goodIn_r _ [6] (by decide +kernel) (by decide +kernel)
set_option maxRecDepth 20000 in
theorem gX12_areAlikeAt_X12_isOf : GoodIn wsX12_areAlikeAt (va_wsS RX12 299 yX12_isOf wsX12_isOf) := goodIn_app (goodIn_of _ (by decide +kernel)) ggX12_areAlikeAt_X12_isOf
theorem dX12_areAlikeAt_0 : decode cX12_areAlikeAt 0 = .ok (.iconst 0, 1) := by decide +kernel
theorem dX12_areAlikeAt_1 : decode cX12_areAlikeAt 1 = .ok (.istore 4, 2) := by decide +kernel
theorem dX12_areAlikeAt_3 : decode cX12_areAlikeAt 3 = .ok (.iload 4, 2) := by decide +kernel
theorem dX12_areAlikeAt_5 : decode cX12_areAlikeAt 5 = .ok (.aload_n 0, 1) := by decide +kernel
theorem dX12_areAlikeAt_6 : decode cX12_areAlikeAt 6 = .ok (.getfield 39, 3) := by decide +kernel
theorem dX12_areAlikeAt_9 : decode cX12_areAlikeAt 9 = .ok (.iconst 0, 1) := by decide +kernel
theorem dX12_areAlikeAt_10 : decode cX12_areAlikeAt 10 = .ok (.iaload, 1) := by decide +kernel
theorem dX12_areAlikeAt_11 : decode cX12_areAlikeAt 11 = .ok (.if_icmp .ge 49, 3) := by decide +kernel
theorem dX12_areAlikeAt_14 : decode cX12_areAlikeAt 14 = .ok (.iload_n 3, 1) := by decide +kernel
theorem dX12_areAlikeAt_15 : decode cX12_areAlikeAt 15 = .ok (.iload 4, 2) := by decide +kernel
theorem dX12_areAlikeAt_17 : decode cX12_areAlikeAt 17 = .ok (.invokestatic 299, 3) := by decide +kernel
theorem dX12_areAlikeAt_20 : decode cX12_areAlikeAt 20 = .ok (.ifCond .eq 34, 3) := by decide +kernel
theorem dX12_areAlikeAt_23 : decode cX12_areAlikeAt 23 = .ok (.aload_n 0, 1) := by decide +kernel
theorem dX12_areAlikeAt_24 : decode cX12_areAlikeAt 24 = .ok (.getfield 55, 3) := by decide +kernel
theorem dX12_areAlikeAt_27 : decode cX12_areAlikeAt 27 = .ok (.sipush 256, 3) := by decide +kernel
theorem dX12_areAlikeAt_30 : decode cX12_areAlikeAt 30 = .ok (.iload 4, 2) := by decide +kernel
theorem dX12_areAlikeAt_32 : decode cX12_areAlikeAt 32 = .ok (.imul, 1) := by decide +kernel
theorem dX12_areAlikeAt_33 : decode cX12_areAlikeAt 33 = .ok (.iload_n 1, 1) := by decide +kernel
theorem dX12_areAlikeAt_34 : decode cX12_areAlikeAt 34 = .ok (.iadd, 1) := by decide +kernel
theorem dX12_areAlikeAt_35 : decode cX12_areAlikeAt 35 = .ok (.iaload, 1) := by decide +kernel
theorem dX12_areAlikeAt_36 : decode cX12_areAlikeAt 36 = .ok (.aload_n 0, 1) := by decide +kernel
theorem dX12_areAlikeAt_37 : decode cX12_areAlikeAt 37 = .ok (.getfield 55, 3) := by decide +kernel
theorem dX12_areAlikeAt_40 : decode cX12_areAlikeAt 40 = .ok (.sipush 256, 3) := by decide +kernel
theorem dX12_areAlikeAt_43 : decode cX12_areAlikeAt 43 = .ok (.iload 4, 2) := by decide +kernel
theorem dX12_areAlikeAt_45 : decode cX12_areAlikeAt 45 = .ok (.imul, 1) := by decide +kernel
theorem dX12_areAlikeAt_46 : decode cX12_areAlikeAt 46 = .ok (.iload_n 2, 1) := by decide +kernel
theorem dX12_areAlikeAt_47 : decode cX12_areAlikeAt 47 = .ok (.iadd, 1) := by decide +kernel
theorem dX12_areAlikeAt_48 : decode cX12_areAlikeAt 48 = .ok (.iaload, 1) := by decide +kernel
theorem dX12_areAlikeAt_49 : decode cX12_areAlikeAt 49 = .ok (.if_icmp .eq 5, 3) := by decide +kernel
theorem dX12_areAlikeAt_52 : decode cX12_areAlikeAt 52 = .ok (.iconst 0, 1) := by decide +kernel
theorem dX12_areAlikeAt_53 : decode cX12_areAlikeAt 53 = .ok (.ireturn, 1) := by decide +kernel
theorem dX12_areAlikeAt_54 : decode cX12_areAlikeAt 54 = .ok (.iinc 4 1, 3) := by decide +kernel
theorem dX12_areAlikeAt_57 : decode cX12_areAlikeAt 57 = .ok (.goto (-54), 3) := by decide +kernel
theorem dX12_areAlikeAt_60 : decode cX12_areAlikeAt 60 = .ok (.iconst 1, 1) := by decide +kernel
theorem dX12_areAlikeAt_61 : decode cX12_areAlikeAt 61 = .ok (.ireturn, 1) := by decide +kernel
set_option maxRecDepth 20000 in
theorem ggX12_isSureBy_X12_everybody : GoodIn wsX12_isSureBy wsX12_everybody := goodIn_r _ [5, 6, 18, 19, 20, 21, 22, 23, 24, 25, 26, 27, 28, 29, 30, 31, 32, 33, 34, 35, 36, 37, 38, 39, 40, 41, 42, 43, 44, 45, 46, 47, 48, 49, 50, 51, 52, 53, 54, 55, 56, 57, 58, 59, 60, 61] (by decide +kernel) (by decide +kernel)
set_option maxRecDepth 20000 in
theorem gX12_isSureBy_X12_everybody : GoodIn wsX12_isSureBy (wsV RX12 333 RX12 yX12_everybody wsX12_everybody) := goodIn_app (goodIn_of _ (by decide +kernel)) ggX12_isSureBy_X12_everybody
set_option maxRecDepth 20000 in
theorem ggX12_isSureBy_X12_bits : GoodIn wsX12_isSureBy wsX12_bits := goodIn_r _ [9] (by decide +kernel) (by decide +kernel)
set_option maxRecDepth 20000 in
theorem gX12_isSureBy_X12_bits : GoodIn wsX12_isSureBy (va_wsS RX12 326 yX12_bits wsX12_bits) := goodIn_app (goodIn_of _ (by decide +kernel)) ggX12_isSureBy_X12_bits
set_option maxRecDepth 20000 in
theorem ggX12_isSureBy_X12_areAlikeAt : GoodIn wsX12_isSureBy wsX12_areAlikeAt := goodIn_r _ [13, 6, 14, 15, 16, 4, 17, 18, 19, 20, 21, 22, 23, 24, 25, 26, 27, 28, 29, 30, 31, 32, 33, 34, 35, 36, 37, 38, 39, 40, 41, 42, 43, 44, 45, 46, 47, 48, 49, 50, 51, 52, 53, 54, 55, 56, 57, 58, 59, 60, 61] (by decide +kernel) (by decide +kernel)
set_option maxRecDepth 20000 in
theorem gX12_isSureBy_X12_areAlikeAt : GoodIn wsX12_isSureBy (wsV RX12 387 RX12 yX12_areAlikeAt wsX12_areAlikeAt) := goodIn_app (goodIn_of _ (by decide +kernel)) ggX12_isSureBy_X12_areAlikeAt
theorem dX12_isSureBy_0 : decode cX12_isSureBy 0 = .ok (.iconst 0, 1) := by decide +kernel
theorem dX12_isSureBy_1 : decode cX12_isSureBy 1 = .ok (.istore_n 2, 1) := by decide +kernel
theorem dX12_isSureBy_2 : decode cX12_isSureBy 2 = .ok (.iload_n 2, 1) := by decide +kernel
theorem dX12_isSureBy_3 : decode cX12_isSureBy 3 = .ok (.aload_n 0, 1) := by decide +kernel
theorem dX12_isSureBy_4 : decode cX12_isSureBy 4 = .ok (.invokevirtual 333, 3) := by decide +kernel
theorem dX12_isSureBy_7 : decode cX12_isSureBy 7 = .ok (.if_icmp .gt 50, 3) := by decide +kernel
theorem dX12_isSureBy_10 : decode cX12_isSureBy 10 = .ok (.iload_n 2, 1) := by decide +kernel
theorem dX12_isSureBy_11 : decode cX12_isSureBy 11 = .ok (.iconst 1, 1) := by decide +kernel
theorem dX12_isSureBy_12 : decode cX12_isSureBy 12 = .ok (.iadd, 1) := by decide +kernel
theorem dX12_isSureBy_13 : decode cX12_isSureBy 13 = .ok (.istore_n 3, 1) := by decide +kernel
theorem dX12_isSureBy_14 : decode cX12_isSureBy 14 = .ok (.iload_n 3, 1) := by decide +kernel
theorem dX12_isSureBy_15 : decode cX12_isSureBy 15 = .ok (.aload_n 0, 1) := by decide +kernel
theorem dX12_isSureBy_16 : decode cX12_isSureBy 16 = .ok (.invokevirtual 333, 3) := by decide +kernel
theorem dX12_isSureBy_19 : decode cX12_isSureBy 19 = .ok (.if_icmp .gt 32, 3) := by decide +kernel
theorem dX12_isSureBy_22 : decode cX12_isSureBy 22 = .ok (.iload_n 2, 1) := by decide +kernel
theorem dX12_isSureBy_23 : decode cX12_isSureBy 23 = .ok (.invokestatic 326, 3) := by decide +kernel
theorem dX12_isSureBy_26 : decode cX12_isSureBy 26 = .ok (.iload_n 3, 1) := by decide +kernel
theorem dX12_isSureBy_27 : decode cX12_isSureBy 27 = .ok (.invokestatic 326, 3) := by decide +kernel
theorem dX12_isSureBy_30 : decode cX12_isSureBy 30 = .ok (.if_icmp .eq 15, 3) := by decide +kernel
theorem dX12_isSureBy_33 : decode cX12_isSureBy 33 = .ok (.aload_n 0, 1) := by decide +kernel
theorem dX12_isSureBy_34 : decode cX12_isSureBy 34 = .ok (.iload_n 2, 1) := by decide +kernel
theorem dX12_isSureBy_35 : decode cX12_isSureBy 35 = .ok (.iload_n 3, 1) := by decide +kernel
theorem dX12_isSureBy_36 : decode cX12_isSureBy 36 = .ok (.iload_n 1, 1) := by decide +kernel
theorem dX12_isSureBy_37 : decode cX12_isSureBy 37 = .ok (.invokevirtual 387, 3) := by decide +kernel
theorem dX12_isSureBy_40 : decode cX12_isSureBy 40 = .ok (.ifCond .eq 5, 3) := by decide +kernel
theorem dX12_isSureBy_43 : decode cX12_isSureBy 43 = .ok (.iconst 0, 1) := by decide +kernel
theorem dX12_isSureBy_44 : decode cX12_isSureBy 44 = .ok (.ireturn, 1) := by decide +kernel
theorem dX12_isSureBy_45 : decode cX12_isSureBy 45 = .ok (.iinc 3 1, 3) := by decide +kernel
theorem dX12_isSureBy_48 : decode cX12_isSureBy 48 = .ok (.goto (-34), 3) := by decide +kernel
theorem dX12_isSureBy_51 : decode cX12_isSureBy 51 = .ok (.iinc 2 1, 3) := by decide +kernel
theorem dX12_isSureBy_54 : decode cX12_isSureBy 54 = .ok (.goto (-52), 3) := by decide +kernel
theorem dX12_isSureBy_57 : decode cX12_isSureBy 57 = .ok (.iconst 1, 1) := by decide +kernel
theorem dX12_isSureBy_58 : decode cX12_isSureBy 58 = .ok (.ireturn, 1) := by decide +kernel
set_option maxRecDepth 20000 in
theorem ggX12_gates_X12_isTown : GoodIn wsX12_gates wsX12_isTown := goodIn_r _ [6, 1, 94, 95, 96, 97, 98, 99, 100, 101, 102, 103, 104, 105, 106, 107, 108, 109, 110, 111, 112, 113, 114, 115, 116, 117, 118, 119, 120, 121, 122, 123, 124, 125, 126, 127, 128, 129, 130, 131, 132, 133, 134, 135, 136, 137] (by decide +kernel) (by decide +kernel)
set_option maxRecDepth 20000 in
theorem gX12_gates_X12_isTown : GoodIn wsX12_gates (wsV RX12 360 RX12 yX12_isTown wsX12_isTown) := goodIn_app (goodIn_of _ (by decide +kernel)) ggX12_gates_X12_isTown
set_option maxRecDepth 20000 in
theorem ggX12_gates_X12_in : GoodIn wsX12_gates wsX12_in := goodIn_r _ [9] (by decide +kernel) (by decide +kernel)
set_option maxRecDepth 20000 in
theorem gX12_gates_X12_in : GoodIn wsX12_gates (va_wsS RX12 127 yX12_in wsX12_in) := goodIn_app (goodIn_of _ (by decide +kernel)) ggX12_gates_X12_in
set_option maxRecDepth 20000 in
theorem ggX12_gates_X12_sorts : GoodIn wsX12_gates wsX12_sorts := goodIn_r _ [13, 1, 14, 15, 16, 17, 18, 5, 19, 20, 21, 22, 23, 24, 25, 26, 27, 28, 29, 30, 31, 32, 33, 34, 35, 36, 37, 38, 39, 40, 41, 42, 43, 44, 45, 46, 47, 48, 49, 50, 51, 52, 53, 54, 55, 56, 57, 58, 59, 60, 61, 62, 63, 64, 65, 66, 67, 68, 69, 70, 71, 72, 73, 74, 75, 76, 77, 78, 79, 80, 81, 82, 83, 84, 85, 94, 95, 96, 97, 98, 99, 100, 101, 102, 103, 104, 105, 106, 107, 108, 109, 110, 111, 112, 113, 114, 115, 116, 117, 118, 119, 120, 121, 122, 123, 124, 125, 126, 127, 128, 129, 130, 131, 132, 133, 134, 135, 136, 137] (by decide +kernel) (by decide +kernel)
set_option maxRecDepth 20000 in
theorem gX12_gates_X12_sorts : GoodIn wsX12_gates (wsV RX12 390 RX12 yX12_sorts wsX12_sorts) := goodIn_app (goodIn_of _ (by decide +kernel)) ggX12_gates_X12_sorts
set_option maxRecDepth 20000 in
theorem ggX12_gates_X12_bits : GoodIn wsX12_gates wsX12_bits := goodIn_r _ [37] (by decide +kernel) (by decide +kernel)
set_option maxRecDepth 20000 in
theorem gX12_gates_X12_bits : GoodIn wsX12_gates (va_wsS RX12 326 yX12_bits wsX12_bits) := goodIn_app (goodIn_of _ (by decide +kernel)) ggX12_gates_X12_bits
set_option maxRecDepth 20000 in
theorem ggX12_gates_X12_isSureBy : GoodIn wsX12_gates wsX12_isSureBy := goodIn_r _ [89, 16, 17, 18, 5, 19, 1, 35, 36, 37, 90, 91, 92, 93, 15, 28, 29, 30, 94, 95, 96, 97, 98, 99, 100, 101, 102, 103, 104, 105, 106, 107, 108, 109, 110, 111, 112, 113, 114, 115, 116, 117, 118, 119, 120, 121, 122, 123, 124, 125, 126, 127, 128, 129, 130, 131, 132, 133, 134, 135, 136, 137] (by decide +kernel) (by decide +kernel)
set_option maxRecDepth 20000 in
theorem gX12_gates_X12_isSureBy : GoodIn wsX12_gates (wsV RX12 393 RX12 yX12_isSureBy wsX12_isSureBy) := goodIn_app (goodIn_of _ (by decide +kernel)) ggX12_gates_X12_isSureBy
theorem dX12_gates_0 : decode cX12_gates 0 = .ok (.aload_n 0, 1) := by decide +kernel
theorem dX12_gates_1 : decode cX12_gates 1 = .ok (.invokevirtual 360, 3) := by decide +kernel
theorem dX12_gates_4 : decode cX12_gates 4 = .ok (.ifCond .eq 13, 3) := by decide +kernel
theorem dX12_gates_7 : decode cX12_gates 7 = .ok (.iload_n 1, 1) := by decide +kernel
theorem dX12_gates_8 : decode cX12_gates 8 = .ok (.i2l, 1) := by decide +kernel
theorem dX12_gates_9 : decode cX12_gates 9 = .ok (.lconst 0, 1) := by decide +kernel
theorem dX12_gates_10 : decode cX12_gates 10 = .ok (.lconst 1, 1) := by decide +kernel
theorem dX12_gates_11 : decode cX12_gates 11 = .ok (.invokestatic 127, 3) := by decide +kernel
theorem dX12_gates_14 : decode cX12_gates 14 = .ok (.ifCond .ne 5, 3) := by decide +kernel
theorem dX12_gates_17 : decode cX12_gates 17 = .ok (.iconst (-1), 1) := by decide +kernel
theorem dX12_gates_18 : decode cX12_gates 18 = .ok (.ireturn, 1) := by decide +kernel
theorem dX12_gates_19 : decode cX12_gates 19 = .ok (.aload_n 0, 1) := by decide +kernel
theorem dX12_gates_20 : decode cX12_gates 20 = .ok (.getfield 39, 3) := by decide +kernel
theorem dX12_gates_23 : decode cX12_gates 23 = .ok (.iconst 2, 1) := by decide +kernel
theorem dX12_gates_24 : decode cX12_gates 24 = .ok (.iaload, 1) := by decide +kernel
theorem dX12_gates_25 : decode cX12_gates 25 = .ok (.bipush 8, 2) := by decide +kernel
theorem dX12_gates_27 : decode cX12_gates 27 = .ok (.if_icmp .le 6, 3) := by decide +kernel
theorem dX12_gates_30 : decode cX12_gates 30 = .ok (.bipush (-3), 2) := by decide +kernel
theorem dX12_gates_32 : decode cX12_gates 32 = .ok (.ireturn, 1) := by decide +kernel
theorem dX12_gates_33 : decode cX12_gates 33 = .ok (.iconst 0, 1) := by decide +kernel
theorem dX12_gates_34 : decode cX12_gates 34 = .ok (.istore_n 2, 1) := by decide +kernel
theorem dX12_gates_35 : decode cX12_gates 35 = .ok (.iload_n 2, 1) := by decide +kernel
theorem dX12_gates_36 : decode cX12_gates 36 = .ok (.aload_n 0, 1) := by decide +kernel
theorem dX12_gates_37 : decode cX12_gates 37 = .ok (.getfield 39, 3) := by decide +kernel
theorem dX12_gates_40 : decode cX12_gates 40 = .ok (.iconst 0, 1) := by decide +kernel
theorem dX12_gates_41 : decode cX12_gates 41 = .ok (.iaload, 1) := by decide +kernel
theorem dX12_gates_42 : decode cX12_gates 42 = .ok (.if_icmp .ge 14, 3) := by decide +kernel
theorem dX12_gates_45 : decode cX12_gates 45 = .ok (.aload_n 0, 1) := by decide +kernel
theorem dX12_gates_46 : decode cX12_gates 46 = .ok (.iload_n 2, 1) := by decide +kernel
theorem dX12_gates_47 : decode cX12_gates 47 = .ok (.invokevirtual 390, 3) := by decide +kernel
theorem dX12_gates_50 : decode cX12_gates 50 = .ok (.iinc 2 1, 3) := by decide +kernel
theorem dX12_gates_53 : decode cX12_gates 53 = .ok (.goto (-18), 3) := by decide +kernel
theorem dX12_gates_56 : decode cX12_gates 56 = .ok (.bipush (-2), 2) := by decide +kernel
theorem dX12_gates_58 : decode cX12_gates 58 = .ok (.istore_n 2, 1) := by decide +kernel
theorem dX12_gates_59 : decode cX12_gates 59 = .ok (.iconst 0, 1) := by decide +kernel
theorem dX12_gates_60 : decode cX12_gates 60 = .ok (.istore_n 3, 1) := by decide +kernel
theorem dX12_gates_61 : decode cX12_gates 61 = .ok (.iload_n 3, 1) := by decide +kernel
theorem dX12_gates_62 : decode cX12_gates 62 = .ok (.iconst 1, 1) := by decide +kernel
theorem dX12_gates_63 : decode cX12_gates 63 = .ok (.aload_n 0, 1) := by decide +kernel
theorem dX12_gates_64 : decode cX12_gates 64 = .ok (.getfield 39, 3) := by decide +kernel
theorem dX12_gates_67 : decode cX12_gates 67 = .ok (.iconst 0, 1) := by decide +kernel
theorem dX12_gates_68 : decode cX12_gates 68 = .ok (.iaload, 1) := by decide +kernel
theorem dX12_gates_69 : decode cX12_gates 69 = .ok (.ishl, 1) := by decide +kernel
theorem dX12_gates_70 : decode cX12_gates 70 = .ok (.if_icmp .ge 34, 3) := by decide +kernel
theorem dX12_gates_73 : decode cX12_gates 73 = .ok (.iload_n 2, 1) := by decide +kernel
theorem dX12_gates_74 : decode cX12_gates 74 = .ok (.ifCond .lt 14, 3) := by decide +kernel
theorem dX12_gates_77 : decode cX12_gates 77 = .ok (.iload_n 3, 1) := by decide +kernel
theorem dX12_gates_78 : decode cX12_gates 78 = .ok (.invokestatic 326, 3) := by decide +kernel
theorem dX12_gates_81 : decode cX12_gates 81 = .ok (.iload_n 2, 1) := by decide +kernel
theorem dX12_gates_82 : decode cX12_gates 82 = .ok (.invokestatic 326, 3) := by decide +kernel
theorem dX12_gates_85 : decode cX12_gates 85 = .ok (.if_icmp .ge 13, 3) := by decide +kernel
theorem dX12_gates_88 : decode cX12_gates 88 = .ok (.aload_n 0, 1) := by decide +kernel
theorem dX12_gates_89 : decode cX12_gates 89 = .ok (.iload_n 3, 1) := by decide +kernel
theorem dX12_gates_90 : decode cX12_gates 90 = .ok (.invokevirtual 393, 3) := by decide +kernel
theorem dX12_gates_93 : decode cX12_gates 93 = .ok (.ifCond .eq 5, 3) := by decide +kernel
theorem dX12_gates_96 : decode cX12_gates 96 = .ok (.iload_n 3, 1) := by decide +kernel
theorem dX12_gates_97 : decode cX12_gates 97 = .ok (.istore_n 2, 1) := by decide +kernel
theorem dX12_gates_98 : decode cX12_gates 98 = .ok (.iinc 3 1, 3) := by decide +kernel
theorem dX12_gates_101 : decode cX12_gates 101 = .ok (.goto (-40), 3) := by decide +kernel
theorem dX12_gates_104 : decode cX12_gates 104 = .ok (.iload_n 2, 1) := by decide +kernel
theorem dX12_gates_105 : decode cX12_gates 105 = .ok (.ifCond .ge 8, 3) := by decide +kernel
theorem dX12_gates_108 : decode cX12_gates 108 = .ok (.bipush (-2), 2) := by decide +kernel
theorem dX12_gates_110 : decode cX12_gates 110 = .ok (.goto 15, 3) := by decide +kernel
theorem dX12_gates_113 : decode cX12_gates 113 = .ok (.iload_n 1, 1) := by decide +kernel
theorem dX12_gates_114 : decode cX12_gates 114 = .ok (.ifCond .ne 10, 3) := by decide +kernel
theorem dX12_gates_117 : decode cX12_gates 117 = .ok (.iload_n 2, 1) := by decide +kernel
theorem dX12_gates_118 : decode cX12_gates 118 = .ok (.invokestatic 326, 3) := by decide +kernel
theorem dX12_gates_121 : decode cX12_gates 121 = .ok (.goto 4, 3) := by decide +kernel
theorem dX12_gates_124 : decode cX12_gates 124 = .ok (.iload_n 2, 1) := by decide +kernel
theorem dX12_gates_125 : decode cX12_gates 125 = .ok (.ireturn, 1) := by decide +kernel
set_option maxRecDepth 20000 in
theorem ggX12_cheat_X12_isPerson : GoodIn wsX12_cheat wsX12_isPerson := goodIn_r _ [8, 3, 82, 83, 84, 85, 86, 87, 88, 89, 90, 91, 92, 93, 94, 95, 96, 97, 98, 99, 100, 101, 102, 103, 104, 105, 106, 107, 108, 109, 110, 111, 112, 113, 114, 115, 116, 117, 118, 119, 120, 121, 122, 123, 124, 125] (by decide +kernel) (by decide +kernel)
set_option maxRecDepth 20000 in
theorem gX12_cheat_X12_isPerson : GoodIn wsX12_cheat (wsV RX12 339 RX12 yX12_isPerson wsX12_isPerson) := goodIn_app (goodIn_of _ (by decide +kernel)) ggX12_cheat_X12_isPerson
set_option maxRecDepth 20000 in
theorem ggX12_cheat_X12_in : GoodIn wsX12_cheat wsX12_in := goodIn_r _ [11] (by decide +kernel) (by decide +kernel)
set_option maxRecDepth 20000 in
theorem gX12_cheat_X12_in : GoodIn wsX12_cheat (va_wsS RX12 127 yX12_in wsX12_in) := goodIn_app (goodIn_of _ (by decide +kernel)) ggX12_cheat_X12_in
set_option maxRecDepth 20000 in
theorem ggX12_cheat_X12_placeOf : GoodIn wsX12_cheat wsX12_placeOf := goodIn_r _ [15, 3, 82, 83, 84, 85, 86, 87, 88, 89, 90, 91, 92, 93, 94, 95, 96, 97, 98, 99, 100, 101, 102, 103, 104, 105, 106, 107, 108, 109, 110, 111, 112, 113, 114, 115, 116, 117, 118, 119, 120, 121, 122, 123, 124, 125] (by decide +kernel) (by decide +kernel)
set_option maxRecDepth 20000 in
theorem gX12_cheat_X12_placeOf : GoodIn wsX12_cheat (wsV RX12 291 RX12 yX12_placeOf wsX12_placeOf) := goodIn_app (goodIn_of _ (by decide +kernel)) ggX12_cheat_X12_placeOf
set_option maxRecDepth 20000 in
theorem ggX12_cheat_X12_totalOf : GoodIn wsX12_cheat wsX12_totalOf := goodIn_r _ [19, 3, 20, 21, 22, 7, 23, 24, 25, 26, 27, 28, 29, 30, 31, 32, 33, 34, 12, 13, 14, 15, 35, 36, 37, 38, 39, 40, 41, 42, 43, 44, 45, 46, 47, 48, 49, 50, 51, 52, 53, 54, 55, 56, 57, 58, 59, 60, 61, 62, 63, 64, 65, 66, 67, 68, 69, 70, 71, 72, 73, 74, 75, 76, 77, 78, 79, 80, 81, 82, 83, 84, 85, 86, 87, 88, 89, 90, 91, 92, 93, 94, 95, 96, 97, 98, 99, 100, 101, 102, 103, 104, 105, 106, 107, 108, 109, 110, 111, 112, 113, 114, 115, 116, 117, 118, 119, 120, 121, 122, 123, 124, 125] (by decide +kernel) (by decide +kernel)
set_option maxRecDepth 20000 in
theorem gX12_cheat_X12_totalOf : GoodIn wsX12_cheat (wsV RX12 357 RX12 yX12_totalOf wsX12_totalOf) := goodIn_app (goodIn_of _ (by decide +kernel)) ggX12_cheat_X12_totalOf
theorem dX12_cheat_0 : decode cX12_cheat 0 = .ok (.aload_n 0, 1) := by decide +kernel
theorem dX12_cheat_1 : decode cX12_cheat 1 = .ok (.iload_n 1, 1) := by decide +kernel
theorem dX12_cheat_2 : decode cX12_cheat 2 = .ok (.invokevirtual 339, 3) := by decide +kernel
theorem dX12_cheat_5 : decode cX12_cheat 5 = .ok (.ifCond .eq 15, 3) := by decide +kernel
theorem dX12_cheat_8 : decode cX12_cheat 8 = .ok (.iload_n 2, 1) := by decide +kernel
theorem dX12_cheat_9 : decode cX12_cheat 9 = .ok (.i2l, 1) := by decide +kernel
theorem dX12_cheat_10 : decode cX12_cheat 10 = .ok (.lconst 0, 1) := by decide +kernel
theorem dX12_cheat_11 : decode cX12_cheat 11 = .ok (.ldc2_w 379, 3) := by decide +kernel
theorem dX12_cheat_14 : decode cX12_cheat 14 = .ok (.invokestatic 127, 3) := by decide +kernel
theorem dX12_cheat_17 : decode cX12_cheat 17 = .ok (.ifCond .ne 7, 3) := by decide +kernel
theorem dX12_cheat_20 : decode cX12_cheat 20 = .ok (.ldc_w 356, 3) := by decide +kernel
theorem dX12_cheat_23 : decode cX12_cheat 23 = .ok (.ireturn, 1) := by decide +kernel
theorem dX12_cheat_24 : decode cX12_cheat 24 = .ok (.iconst (-1), 1) := by decide +kernel
theorem dX12_cheat_25 : decode cX12_cheat 25 = .ok (.istore_n 3, 1) := by decide +kernel
theorem dX12_cheat_26 : decode cX12_cheat 26 = .ok (.iconst (-1), 1) := by decide +kernel
theorem dX12_cheat_27 : decode cX12_cheat 27 = .ok (.istore 4, 2) := by decide +kernel
theorem dX12_cheat_29 : decode cX12_cheat 29 = .ok (.iconst 0, 1) := by decide +kernel
theorem dX12_cheat_30 : decode cX12_cheat 30 = .ok (.istore 5, 2) := by decide +kernel
theorem dX12_cheat_32 : decode cX12_cheat 32 = .ok (.iconst 0, 1) := by decide +kernel
theorem dX12_cheat_33 : decode cX12_cheat 33 = .ok (.istore 6, 2) := by decide +kernel
theorem dX12_cheat_35 : decode cX12_cheat 35 = .ok (.iload 6, 2) := by decide +kernel
theorem dX12_cheat_37 : decode cX12_cheat 37 = .ok (.aload_n 0, 1) := by decide +kernel
theorem dX12_cheat_38 : decode cX12_cheat 38 = .ok (.getfield 39, 3) := by decide +kernel
theorem dX12_cheat_41 : decode cX12_cheat 41 = .ok (.iconst 1, 1) := by decide +kernel
theorem dX12_cheat_42 : decode cX12_cheat 42 = .ok (.iaload, 1) := by decide +kernel
theorem dX12_cheat_43 : decode cX12_cheat 43 = .ok (.if_icmp .ge 127, 3) := by decide +kernel
theorem dX12_cheat_46 : decode cX12_cheat 46 = .ok (.aload_n 0, 1) := by decide +kernel
theorem dX12_cheat_47 : decode cX12_cheat 47 = .ok (.iload_n 1, 1) := by decide +kernel
theorem dX12_cheat_48 : decode cX12_cheat 48 = .ok (.iload 6, 2) := by decide +kernel
theorem dX12_cheat_50 : decode cX12_cheat 50 = .ok (.invokevirtual 291, 3) := by decide +kernel
theorem dX12_cheat_53 : decode cX12_cheat 53 = .ok (.istore 7, 2) := by decide +kernel
theorem dX12_cheat_55 : decode cX12_cheat 55 = .ok (.iconst (-1), 1) := by decide +kernel
theorem dX12_cheat_56 : decode cX12_cheat 56 = .ok (.istore 8, 2) := by decide +kernel
theorem dX12_cheat_58 : decode cX12_cheat 58 = .ok (.iload 8, 2) := by decide +kernel
theorem dX12_cheat_60 : decode cX12_cheat 60 = .ok (.aload_n 0, 1) := by decide +kernel
theorem dX12_cheat_61 : decode cX12_cheat 61 = .ok (.getfield 39, 3) := by decide +kernel
theorem dX12_cheat_64 : decode cX12_cheat 64 = .ok (.iconst 0, 1) := by decide +kernel
theorem dX12_cheat_65 : decode cX12_cheat 65 = .ok (.iaload, 1) := by decide +kernel
theorem dX12_cheat_66 : decode cX12_cheat 66 = .ok (.if_icmp .ge 81, 3) := by decide +kernel
theorem dX12_cheat_69 : decode cX12_cheat 69 = .ok (.iload 8, 2) := by decide +kernel
theorem dX12_cheat_71 : decode cX12_cheat 71 = .ok (.ifCond .ge 8, 3) := by decide +kernel
theorem dX12_cheat_74 : decode cX12_cheat 74 = .ok (.bipush 99, 2) := by decide +kernel
theorem dX12_cheat_76 : decode cX12_cheat 76 = .ok (.goto 5, 3) := by decide +kernel
theorem dX12_cheat_79 : decode cX12_cheat 79 = .ok (.iload 8, 2) := by decide +kernel
theorem dX12_cheat_81 : decode cX12_cheat 81 = .ok (.istore 9, 2) := by decide +kernel
theorem dX12_cheat_83 : decode cX12_cheat 83 = .ok (.iload 9, 2) := by decide +kernel
theorem dX12_cheat_85 : decode cX12_cheat 85 = .ok (.iload 7, 2) := by decide +kernel
theorem dX12_cheat_87 : decode cX12_cheat 87 = .ok (.if_icmp .ne 6, 3) := by decide +kernel
theorem dX12_cheat_90 : decode cX12_cheat 90 = .ok (.goto 51, 3) := by decide +kernel
theorem dX12_cheat_93 : decode cX12_cheat 93 = .ok (.aload_n 0, 1) := by decide +kernel
theorem dX12_cheat_94 : decode cX12_cheat 94 = .ok (.getfield 39, 3) := by decide +kernel
theorem dX12_cheat_97 : decode cX12_cheat 97 = .ok (.bipush 10, 2) := by decide +kernel
theorem dX12_cheat_99 : decode cX12_cheat 99 = .ok (.bipush 12, 2) := by decide +kernel
theorem dX12_cheat_101 : decode cX12_cheat 101 = .ok (.iload_n 1, 1) := by decide +kernel
theorem dX12_cheat_102 : decode cX12_cheat 102 = .ok (.imul, 1) := by decide +kernel
theorem dX12_cheat_103 : decode cX12_cheat 103 = .ok (.iadd, 1) := by decide +kernel
theorem dX12_cheat_104 : decode cX12_cheat 104 = .ok (.iload 6, 2) := by decide +kernel
theorem dX12_cheat_106 : decode cX12_cheat 106 = .ok (.iadd, 1) := by decide +kernel
theorem dX12_cheat_107 : decode cX12_cheat 107 = .ok (.iload 9, 2) := by decide +kernel
theorem dX12_cheat_109 : decode cX12_cheat 109 = .ok (.iastore, 1) := by decide +kernel
theorem dX12_cheat_110 : decode cX12_cheat 110 = .ok (.aload_n 0, 1) := by decide +kernel
theorem dX12_cheat_111 : decode cX12_cheat 111 = .ok (.invokevirtual 357, 3) := by decide +kernel
theorem dX12_cheat_114 : decode cX12_cheat 114 = .ok (.istore 10, 2) := by decide +kernel
theorem dX12_cheat_116 : decode cX12_cheat 116 = .ok (.iload_n 3, 1) := by decide +kernel
theorem dX12_cheat_117 : decode cX12_cheat 117 = .ok (.ifCond .lt 13, 3) := by decide +kernel
theorem dX12_cheat_120 : decode cX12_cheat 120 = .ok (.iload 10, 2) := by decide +kernel
theorem dX12_cheat_122 : decode cX12_cheat 122 = .ok (.iload 5, 2) := by decide +kernel
theorem dX12_cheat_124 : decode cX12_cheat 124 = .ok (.if_icmp .gt 6, 3) := by decide +kernel
theorem dX12_cheat_127 : decode cX12_cheat 127 = .ok (.goto 14, 3) := by decide +kernel
theorem dX12_cheat_130 : decode cX12_cheat 130 = .ok (.iload 6, 2) := by decide +kernel
theorem dX12_cheat_132 : decode cX12_cheat 132 = .ok (.istore_n 3, 1) := by decide +kernel
theorem dX12_cheat_133 : decode cX12_cheat 133 = .ok (.iload 9, 2) := by decide +kernel
theorem dX12_cheat_135 : decode cX12_cheat 135 = .ok (.istore 4, 2) := by decide +kernel
theorem dX12_cheat_137 : decode cX12_cheat 137 = .ok (.iload 10, 2) := by decide +kernel
theorem dX12_cheat_139 : decode cX12_cheat 139 = .ok (.istore 5, 2) := by decide +kernel
theorem dX12_cheat_141 : decode cX12_cheat 141 = .ok (.iinc 8 1, 3) := by decide +kernel
theorem dX12_cheat_144 : decode cX12_cheat 144 = .ok (.goto (-86), 3) := by decide +kernel
theorem dX12_cheat_147 : decode cX12_cheat 147 = .ok (.aload_n 0, 1) := by decide +kernel
theorem dX12_cheat_148 : decode cX12_cheat 148 = .ok (.getfield 39, 3) := by decide +kernel
theorem dX12_cheat_151 : decode cX12_cheat 151 = .ok (.bipush 10, 2) := by decide +kernel
theorem dX12_cheat_153 : decode cX12_cheat 153 = .ok (.bipush 12, 2) := by decide +kernel
theorem dX12_cheat_155 : decode cX12_cheat 155 = .ok (.iload_n 1, 1) := by decide +kernel
theorem dX12_cheat_156 : decode cX12_cheat 156 = .ok (.imul, 1) := by decide +kernel
theorem dX12_cheat_157 : decode cX12_cheat 157 = .ok (.iadd, 1) := by decide +kernel
theorem dX12_cheat_158 : decode cX12_cheat 158 = .ok (.iload 6, 2) := by decide +kernel
theorem dX12_cheat_160 : decode cX12_cheat 160 = .ok (.iadd, 1) := by decide +kernel
theorem dX12_cheat_161 : decode cX12_cheat 161 = .ok (.iload 7, 2) := by decide +kernel
theorem dX12_cheat_163 : decode cX12_cheat 163 = .ok (.iastore, 1) := by decide +kernel
theorem dX12_cheat_164 : decode cX12_cheat 164 = .ok (.iinc 6 1, 3) := by decide +kernel
theorem dX12_cheat_167 : decode cX12_cheat 167 = .ok (.goto (-132), 3) := by decide +kernel
theorem dX12_cheat_170 : decode cX12_cheat 170 = .ok (.iload_n 2, 1) := by decide +kernel
theorem dX12_cheat_171 : decode cX12_cheat 171 = .ok (.ifCond .ne 8, 3) := by decide +kernel
theorem dX12_cheat_174 : decode cX12_cheat 174 = .ok (.iload 5, 2) := by decide +kernel
theorem dX12_cheat_176 : decode cX12_cheat 176 = .ok (.goto 14, 3) := by decide +kernel
theorem dX12_cheat_179 : decode cX12_cheat 179 = .ok (.iload_n 2, 1) := by decide +kernel
theorem dX12_cheat_180 : decode cX12_cheat 180 = .ok (.iconst 1, 1) := by decide +kernel
theorem dX12_cheat_181 : decode cX12_cheat 181 = .ok (.if_icmp .ne 7, 3) := by decide +kernel
theorem dX12_cheat_184 : decode cX12_cheat 184 = .ok (.iload_n 3, 1) := by decide +kernel
theorem dX12_cheat_185 : decode cX12_cheat 185 = .ok (.goto 5, 3) := by decide +kernel
theorem dX12_cheat_188 : decode cX12_cheat 188 = .ok (.iload 4, 2) := by decide +kernel
theorem dX12_cheat_190 : decode cX12_cheat 190 = .ok (.ireturn, 1) := by decide +kernel
set_option maxRecDepth 20000 in
theorem ggX12_turnsGloves_X12_isOf : GoodIn wsX12_turnsGloves wsX12_isOf := goodIn_r _ [5] (by decide +kernel) (by decide +kernel)
set_option maxRecDepth 20000 in
theorem gX12_turnsGloves_X12_isOf : GoodIn wsX12_turnsGloves (va_wsS RX12 299 yX12_isOf wsX12_isOf) := goodIn_app (goodIn_of _ (by decide +kernel)) ggX12_turnsGloves_X12_isOf
set_option maxRecDepth 20000 in
theorem ggX12_turnsGloves_X12_personOf : GoodIn wsX12_turnsGloves wsX12_personOf := goodIn_r _ [9, 1, 10, 11, 12, 13, 14, 15, 16, 17, 18, 19, 20, 21, 22, 23, 24, 25, 26, 27, 28, 29, 30, 31, 32, 33, 34, 35, 36, 37, 38, 39, 40, 41, 42, 43, 44, 45, 46, 47, 48, 49, 50, 51, 52, 53] (by decide +kernel) (by decide +kernel)
set_option maxRecDepth 20000 in
theorem gX12_turnsGloves_X12_personOf : GoodIn wsX12_turnsGloves (wsV RX12 305 RX12 yX12_personOf wsX12_personOf) := goodIn_app (goodIn_of _ (by decide +kernel)) ggX12_turnsGloves_X12_personOf
theorem dX12_turnsGloves_0 : decode cX12_turnsGloves 0 = .ok (.iconst 0, 1) := by decide +kernel
theorem dX12_turnsGloves_1 : decode cX12_turnsGloves 1 = .ok (.istore_n 2, 1) := by decide +kernel
theorem dX12_turnsGloves_2 : decode cX12_turnsGloves 2 = .ok (.iload_n 2, 1) := by decide +kernel
theorem dX12_turnsGloves_3 : decode cX12_turnsGloves 3 = .ok (.aload_n 0, 1) := by decide +kernel
theorem dX12_turnsGloves_4 : decode cX12_turnsGloves 4 = .ok (.getfield 39, 3) := by decide +kernel
theorem dX12_turnsGloves_7 : decode cX12_turnsGloves 7 = .ok (.iconst 2, 1) := by decide +kernel
theorem dX12_turnsGloves_8 : decode cX12_turnsGloves 8 = .ok (.iaload, 1) := by decide +kernel
theorem dX12_turnsGloves_9 : decode cX12_turnsGloves 9 = .ok (.if_icmp .ge 39, 3) := by decide +kernel
theorem dX12_turnsGloves_12 : decode cX12_turnsGloves 12 = .ok (.iload_n 1, 1) := by decide +kernel
theorem dX12_turnsGloves_13 : decode cX12_turnsGloves 13 = .ok (.iload_n 2, 1) := by decide +kernel
theorem dX12_turnsGloves_14 : decode cX12_turnsGloves 14 = .ok (.invokestatic 299, 3) := by decide +kernel
theorem dX12_turnsGloves_17 : decode cX12_turnsGloves 17 = .ok (.ifCond .eq 25, 3) := by decide +kernel
theorem dX12_turnsGloves_20 : decode cX12_turnsGloves 20 = .ok (.aload_n 0, 1) := by decide +kernel
theorem dX12_turnsGloves_21 : decode cX12_turnsGloves 21 = .ok (.getfield 39, 3) := by decide +kernel
theorem dX12_turnsGloves_24 : decode cX12_turnsGloves 24 = .ok (.sipush 130, 3) := by decide +kernel
theorem dX12_turnsGloves_27 : decode cX12_turnsGloves 27 = .ok (.iconst 4, 1) := by decide +kernel
theorem dX12_turnsGloves_28 : decode cX12_turnsGloves 28 = .ok (.iload_n 2, 1) := by decide +kernel
theorem dX12_turnsGloves_29 : decode cX12_turnsGloves 29 = .ok (.imul, 1) := by decide +kernel
theorem dX12_turnsGloves_30 : decode cX12_turnsGloves 30 = .ok (.iadd, 1) := by decide +kernel
theorem dX12_turnsGloves_31 : decode cX12_turnsGloves 31 = .ok (.iconst 1, 1) := by decide +kernel
theorem dX12_turnsGloves_32 : decode cX12_turnsGloves 32 = .ok (.iadd, 1) := by decide +kernel
theorem dX12_turnsGloves_33 : decode cX12_turnsGloves 33 = .ok (.iconst 1, 1) := by decide +kernel
theorem dX12_turnsGloves_34 : decode cX12_turnsGloves 34 = .ok (.aload_n 0, 1) := by decide +kernel
theorem dX12_turnsGloves_35 : decode cX12_turnsGloves 35 = .ok (.iload_n 2, 1) := by decide +kernel
theorem dX12_turnsGloves_36 : decode cX12_turnsGloves 36 = .ok (.iconst 1, 1) := by decide +kernel
theorem dX12_turnsGloves_37 : decode cX12_turnsGloves 37 = .ok (.invokevirtual 305, 3) := by decide +kernel
theorem dX12_turnsGloves_40 : decode cX12_turnsGloves 40 = .ok (.isub, 1) := by decide +kernel
theorem dX12_turnsGloves_41 : decode cX12_turnsGloves 41 = .ok (.iastore, 1) := by decide +kernel
theorem dX12_turnsGloves_42 : decode cX12_turnsGloves 42 = .ok (.iinc 2 1, 3) := by decide +kernel
theorem dX12_turnsGloves_45 : decode cX12_turnsGloves 45 = .ok (.goto (-43), 3) := by decide +kernel
theorem dX12_turnsGloves_48 : decode cX12_turnsGloves 48 = .ok (.return_, 1) := by decide +kernel
set_option maxRecDepth 20000 in
theorem ggX12_odd_X12_isTown : GoodIn wsX12_odd wsX12_isTown := goodIn_r _ [5, 6, 84, 85, 86, 87, 88, 89, 90, 91, 92, 93, 94, 95, 96, 97, 98, 99, 100, 101, 102, 103, 104, 105, 106, 107, 108, 109, 110, 111, 112, 113, 114, 115, 116, 117, 118, 119, 120, 121, 122, 123, 124, 125, 126, 127] (by decide +kernel) (by decide +kernel)
set_option maxRecDepth 20000 in
theorem gX12_odd_X12_isTown : GoodIn wsX12_odd (wsV RX12 360 RX12 yX12_isTown wsX12_isTown) := goodIn_app (goodIn_of _ (by decide +kernel)) ggX12_odd_X12_isTown
set_option maxRecDepth 20000 in
theorem ggX12_odd_X12_in : GoodIn wsX12_odd wsX12_in := goodIn_r _ [9] (by decide +kernel) (by decide +kernel)
set_option maxRecDepth 20000 in
theorem gX12_odd_X12_in : GoodIn wsX12_odd (va_wsS RX12 127 yX12_in wsX12_in) := goodIn_app (goodIn_of _ (by decide +kernel)) ggX12_odd_X12_in
set_option maxRecDepth 20000 in
theorem ggX12_odd_X12_everybody : GoodIn wsX12_odd wsX12_everybody := goodIn_r _ [13, 6, 84, 85, 86, 87, 88, 89, 90, 91, 92, 93, 94, 95, 96, 97, 98, 99, 100, 101, 102, 103, 104, 105, 106, 107, 108, 109, 110, 111, 112, 113, 114, 115, 116, 117, 118, 119, 120, 121, 122, 123, 124, 125, 126, 127] (by decide +kernel) (by decide +kernel)
set_option maxRecDepth 20000 in
theorem gX12_odd_X12_everybody : GoodIn wsX12_odd (wsV RX12 333 RX12 yX12_everybody wsX12_everybody) := goodIn_app (goodIn_of _ (by decide +kernel)) ggX12_odd_X12_everybody
set_option maxRecDepth 20000 in
theorem ggX12_odd_X12_bits : GoodIn wsX12_odd wsX12_bits := goodIn_r _ [16] (by decide +kernel) (by decide +kernel)
set_option maxRecDepth 20000 in
theorem gX12_odd_X12_bits : GoodIn wsX12_odd (va_wsS RX12 326 yX12_bits wsX12_bits) := goodIn_app (goodIn_of _ (by decide +kernel)) ggX12_odd_X12_bits
set_option maxRecDepth 20000 in
theorem ggX12_odd_X12_turnsGloves : GoodIn wsX12_odd wsX12_turnsGloves := goodIn_r _ [20, 6, 21, 22, 4, 23, 24, 25, 26, 27, 84, 85, 86, 87, 88, 89, 90, 91, 92, 93, 94, 95, 96, 97, 98, 99, 100, 101, 102, 103, 104, 105, 106, 107, 108, 109, 110, 111, 112, 113, 114, 115, 116, 117, 118, 119, 120, 121, 122, 123, 124, 125, 126, 127] (by decide +kernel) (by decide +kernel)
set_option maxRecDepth 20000 in
theorem gX12_odd_X12_turnsGloves : GoodIn wsX12_odd (wsV RX12 396 RX12 yX12_turnsGloves wsX12_turnsGloves) := goodIn_app (goodIn_of _ (by decide +kernel)) ggX12_odd_X12_turnsGloves
set_option maxRecDepth 20000 in
theorem ggX12_odd_X12_totalOf : GoodIn wsX12_odd wsX12_totalOf := goodIn_r _ [31, 6, 10, 11, 12, 4, 13, 32, 33, 34, 35, 36, 37, 38, 39, 21, 22, 23, 40, 41, 42, 43, 14, 15, 16, 44, 45, 46, 47, 48, 49, 50, 51, 52, 53, 54, 55, 56, 57, 58, 59, 60, 61, 24, 25, 26, 27, 62, 63, 64, 65, 66, 67, 68, 69, 70, 71, 72, 73, 74, 75, 76, 77, 78, 79, 80, 81, 82, 83, 84, 85, 86, 87, 88, 89, 90, 91, 92, 93, 94, 95, 96, 97, 98, 99, 100, 101, 102, 103, 104, 105, 106, 107, 108, 109, 110, 111, 112, 113, 114, 115, 116, 117, 118, 119, 120, 121, 122, 123, 124, 125, 126, 127] (by decide +kernel) (by decide +kernel)
set_option maxRecDepth 20000 in
theorem gX12_odd_X12_totalOf : GoodIn wsX12_odd (wsV RX12 357 RX12 yX12_totalOf wsX12_totalOf) := goodIn_app (goodIn_of _ (by decide +kernel)) ggX12_odd_X12_totalOf
theorem dX12_odd_0 : decode cX12_odd 0 = .ok (.aload_n 0, 1) := by decide +kernel
theorem dX12_odd_1 : decode cX12_odd 1 = .ok (.invokevirtual 360, 3) := by decide +kernel
theorem dX12_odd_4 : decode cX12_odd 4 = .ok (.ifCond .eq 13, 3) := by decide +kernel
theorem dX12_odd_7 : decode cX12_odd 7 = .ok (.iload_n 1, 1) := by decide +kernel
theorem dX12_odd_8 : decode cX12_odd 8 = .ok (.i2l, 1) := by decide +kernel
theorem dX12_odd_9 : decode cX12_odd 9 = .ok (.lconst 0, 1) := by decide +kernel
theorem dX12_odd_10 : decode cX12_odd 10 = .ok (.lconst 1, 1) := by decide +kernel
theorem dX12_odd_11 : decode cX12_odd 11 = .ok (.invokestatic 127, 3) := by decide +kernel
theorem dX12_odd_14 : decode cX12_odd 14 = .ok (.ifCond .ne 5, 3) := by decide +kernel
theorem dX12_odd_17 : decode cX12_odd 17 = .ok (.iconst (-1), 1) := by decide +kernel
theorem dX12_odd_18 : decode cX12_odd 18 = .ok (.ireturn, 1) := by decide +kernel
theorem dX12_odd_19 : decode cX12_odd 19 = .ok (.bipush (-2), 2) := by decide +kernel
theorem dX12_odd_21 : decode cX12_odd 21 = .ok (.istore_n 2, 1) := by decide +kernel
theorem dX12_odd_22 : decode cX12_odd 22 = .ok (.iconst 0, 1) := by decide +kernel
theorem dX12_odd_23 : decode cX12_odd 23 = .ok (.istore_n 3, 1) := by decide +kernel
theorem dX12_odd_24 : decode cX12_odd 24 = .ok (.iload_n 3, 1) := by decide +kernel
theorem dX12_odd_25 : decode cX12_odd 25 = .ok (.aload_n 0, 1) := by decide +kernel
theorem dX12_odd_26 : decode cX12_odd 26 = .ok (.invokevirtual 333, 3) := by decide +kernel
theorem dX12_odd_29 : decode cX12_odd 29 = .ok (.if_icmp .gt 52, 3) := by decide +kernel
theorem dX12_odd_32 : decode cX12_odd 32 = .ok (.iload_n 2, 1) := by decide +kernel
theorem dX12_odd_33 : decode cX12_odd 33 = .ok (.ifCond .lt 17, 3) := by decide +kernel
theorem dX12_odd_36 : decode cX12_odd 36 = .ok (.iload_n 3, 1) := by decide +kernel
theorem dX12_odd_37 : decode cX12_odd 37 = .ok (.invokestatic 326, 3) := by decide +kernel
theorem dX12_odd_40 : decode cX12_odd 40 = .ok (.iload_n 2, 1) := by decide +kernel
theorem dX12_odd_41 : decode cX12_odd 41 = .ok (.invokestatic 326, 3) := by decide +kernel
theorem dX12_odd_44 : decode cX12_odd 44 = .ok (.if_icmp .lt 6, 3) := by decide +kernel
theorem dX12_odd_47 : decode cX12_odd 47 = .ok (.goto 28, 3) := by decide +kernel
theorem dX12_odd_50 : decode cX12_odd 50 = .ok (.aload_n 0, 1) := by decide +kernel
theorem dX12_odd_51 : decode cX12_odd 51 = .ok (.iload_n 3, 1) := by decide +kernel
theorem dX12_odd_52 : decode cX12_odd 52 = .ok (.invokevirtual 396, 3) := by decide +kernel
theorem dX12_odd_55 : decode cX12_odd 55 = .ok (.aload_n 0, 1) := by decide +kernel
theorem dX12_odd_56 : decode cX12_odd 56 = .ok (.invokevirtual 357, 3) := by decide +kernel
theorem dX12_odd_59 : decode cX12_odd 59 = .ok (.istore 4, 2) := by decide +kernel
theorem dX12_odd_61 : decode cX12_odd 61 = .ok (.aload_n 0, 1) := by decide +kernel
theorem dX12_odd_62 : decode cX12_odd 62 = .ok (.iload_n 3, 1) := by decide +kernel
theorem dX12_odd_63 : decode cX12_odd 63 = .ok (.invokevirtual 396, 3) := by decide +kernel
theorem dX12_odd_66 : decode cX12_odd 66 = .ok (.iload 4, 2) := by decide +kernel
theorem dX12_odd_68 : decode cX12_odd 68 = .ok (.iconst 2, 1) := by decide +kernel
theorem dX12_odd_69 : decode cX12_odd 69 = .ok (.irem, 1) := by decide +kernel
theorem dX12_odd_70 : decode cX12_odd 70 = .ok (.ifCond .eq 5, 3) := by decide +kernel
theorem dX12_odd_73 : decode cX12_odd 73 = .ok (.iload_n 3, 1) := by decide +kernel
theorem dX12_odd_74 : decode cX12_odd 74 = .ok (.istore_n 2, 1) := by decide +kernel
theorem dX12_odd_75 : decode cX12_odd 75 = .ok (.iinc 3 1, 3) := by decide +kernel
theorem dX12_odd_78 : decode cX12_odd 78 = .ok (.goto (-54), 3) := by decide +kernel
theorem dX12_odd_81 : decode cX12_odd 81 = .ok (.iload_n 2, 1) := by decide +kernel
theorem dX12_odd_82 : decode cX12_odd 82 = .ok (.ifCond .ge 8, 3) := by decide +kernel
theorem dX12_odd_85 : decode cX12_odd 85 = .ok (.bipush (-2), 2) := by decide +kernel
theorem dX12_odd_87 : decode cX12_odd 87 = .ok (.goto 15, 3) := by decide +kernel
theorem dX12_odd_90 : decode cX12_odd 90 = .ok (.iload_n 1, 1) := by decide +kernel
theorem dX12_odd_91 : decode cX12_odd 91 = .ok (.ifCond .ne 10, 3) := by decide +kernel
theorem dX12_odd_94 : decode cX12_odd 94 = .ok (.iload_n 2, 1) := by decide +kernel
theorem dX12_odd_95 : decode cX12_odd 95 = .ok (.invokestatic 326, 3) := by decide +kernel
theorem dX12_odd_98 : decode cX12_odd 98 = .ok (.goto 4, 3) := by decide +kernel
theorem dX12_odd_101 : decode cX12_odd 101 = .ok (.iload_n 2, 1) := by decide +kernel
theorem dX12_odd_102 : decode cX12_odd 102 = .ok (.ireturn, 1) := by decide +kernel
set_option maxRecDepth 20000 in
theorem ggX12_palms_X12_isPerson : GoodIn wsX12_palms wsX12_isPerson := goodIn_r _ [8, 3, 12, 13, 14, 15, 16, 17, 18, 19, 20, 21, 22, 23, 24, 25, 26, 27, 28, 29, 30, 31, 32, 33, 34, 35, 36, 37, 38, 39, 40, 41, 42, 43, 44, 45, 46, 47, 48, 49, 50, 51, 52, 53, 54, 55] (by decide +kernel) (by decide +kernel)
set_option maxRecDepth 20000 in
theorem gX12_palms_X12_isPerson : GoodIn wsX12_palms (wsV RX12 339 RX12 yX12_isPerson wsX12_isPerson) := goodIn_app (goodIn_of _ (by decide +kernel)) ggX12_palms_X12_isPerson
set_option maxRecDepth 20000 in
theorem ggX12_palms_X12_in : GoodIn wsX12_palms wsX12_in := goodIn_r _ [11] (by decide +kernel) (by decide +kernel)
set_option maxRecDepth 20000 in
theorem gX12_palms_X12_in : GoodIn wsX12_palms (va_wsS RX12 127 yX12_in wsX12_in) := goodIn_app (goodIn_of _ (by decide +kernel)) ggX12_palms_X12_in
theorem dX12_palms_0 : decode cX12_palms 0 = .ok (.aload_n 0, 1) := by decide +kernel
theorem dX12_palms_1 : decode cX12_palms 1 = .ok (.iload_n 1, 1) := by decide +kernel
theorem dX12_palms_2 : decode cX12_palms 2 = .ok (.invokevirtual 339, 3) := by decide +kernel
theorem dX12_palms_5 : decode cX12_palms 5 = .ok (.ifCond .eq 17, 3) := by decide +kernel
theorem dX12_palms_8 : decode cX12_palms 8 = .ok (.iload_n 2, 1) := by decide +kernel
theorem dX12_palms_9 : decode cX12_palms 9 = .ok (.i2l, 1) := by decide +kernel
theorem dX12_palms_10 : decode cX12_palms 10 = .ok (.ldc2_w 399, 3) := by decide +kernel
theorem dX12_palms_13 : decode cX12_palms 13 = .ok (.ldc2_w 401, 3) := by decide +kernel
theorem dX12_palms_16 : decode cX12_palms 16 = .ok (.invokestatic 127, 3) := by decide +kernel
theorem dX12_palms_19 : decode cX12_palms 19 = .ok (.ifCond .ne 5, 3) := by decide +kernel
theorem dX12_palms_22 : decode cX12_palms 22 = .ok (.iconst 0, 1) := by decide +kernel
theorem dX12_palms_23 : decode cX12_palms 23 = .ok (.ireturn, 1) := by decide +kernel
theorem dX12_palms_24 : decode cX12_palms 24 = .ok (.aload_n 0, 1) := by decide +kernel
theorem dX12_palms_25 : decode cX12_palms 25 = .ok (.getfield 39, 3) := by decide +kernel
theorem dX12_palms_28 : decode cX12_palms 28 = .ok (.sipush 200, 3) := by decide +kernel
theorem dX12_palms_31 : decode cX12_palms 31 = .ok (.iload_n 1, 1) := by decide +kernel
theorem dX12_palms_32 : decode cX12_palms 32 = .ok (.iadd, 1) := by decide +kernel
theorem dX12_palms_33 : decode cX12_palms 33 = .ok (.iload_n 2, 1) := by decide +kernel
theorem dX12_palms_34 : decode cX12_palms 34 = .ok (.iastore, 1) := by decide +kernel
theorem dX12_palms_35 : decode cX12_palms 35 = .ok (.iconst 1, 1) := by decide +kernel
theorem dX12_palms_36 : decode cX12_palms 36 = .ok (.ireturn, 1) := by decide +kernel
set_option maxRecDepth 20000 in
theorem ggX12_gathersTwos_X12_meet : GoodIn wsX12_gathersTwos wsX12_meet := goodIn_r _ [9, 2, 10, 11, 12, 8, 13, 14, 15, 16, 17, 18, 19, 20, 21, 22, 23, 24, 25, 26, 27, 28, 29, 30, 31, 32, 33, 34, 35, 36, 37, 38, 39, 40, 41, 42, 43, 44, 45, 46, 47, 48, 49, 50, 51, 52, 53, 54, 55, 56, 57, 58, 59, 60, 61] (by decide +kernel) (by decide +kernel)
set_option maxRecDepth 20000 in
theorem gX12_gathersTwos_X12_meet : GoodIn wsX12_gathersTwos (wsV RX12 345 RX12 yX12_meet wsX12_meet) := goodIn_app (goodIn_of _ (by decide +kernel)) ggX12_gathersTwos_X12_meet
theorem dX12_gathersTwos_0 : decode cX12_gathersTwos 0 = .ok (.aload_n 0, 1) := by decide +kernel
theorem dX12_gathersTwos_1 : decode cX12_gathersTwos 1 = .ok (.iconst 0, 1) := by decide +kernel
theorem dX12_gathersTwos_2 : decode cX12_gathersTwos 2 = .ok (.putfield 403, 3) := by decide +kernel
theorem dX12_gathersTwos_5 : decode cX12_gathersTwos 5 = .ok (.iconst 0, 1) := by decide +kernel
theorem dX12_gathersTwos_6 : decode cX12_gathersTwos 6 = .ok (.istore_n 1, 1) := by decide +kernel
theorem dX12_gathersTwos_7 : decode cX12_gathersTwos 7 = .ok (.iload_n 1, 1) := by decide +kernel
theorem dX12_gathersTwos_8 : decode cX12_gathersTwos 8 = .ok (.aload_n 0, 1) := by decide +kernel
theorem dX12_gathersTwos_9 : decode cX12_gathersTwos 9 = .ok (.getfield 39, 3) := by decide +kernel
theorem dX12_gathersTwos_12 : decode cX12_gathersTwos 12 = .ok (.iconst 2, 1) := by decide +kernel
theorem dX12_gathersTwos_13 : decode cX12_gathersTwos 13 = .ok (.iaload, 1) := by decide +kernel
theorem dX12_gathersTwos_14 : decode cX12_gathersTwos 14 = .ok (.if_icmp .ge 71, 3) := by decide +kernel
theorem dX12_gathersTwos_17 : decode cX12_gathersTwos 17 = .ok (.iload_n 1, 1) := by decide +kernel
theorem dX12_gathersTwos_18 : decode cX12_gathersTwos 18 = .ok (.iconst 1, 1) := by decide +kernel
theorem dX12_gathersTwos_19 : decode cX12_gathersTwos 19 = .ok (.iadd, 1) := by decide +kernel
theorem dX12_gathersTwos_20 : decode cX12_gathersTwos 20 = .ok (.istore_n 2, 1) := by decide +kernel
theorem dX12_gathersTwos_21 : decode cX12_gathersTwos 21 = .ok (.iload_n 2, 1) := by decide +kernel
theorem dX12_gathersTwos_22 : decode cX12_gathersTwos 22 = .ok (.aload_n 0, 1) := by decide +kernel
theorem dX12_gathersTwos_23 : decode cX12_gathersTwos 23 = .ok (.getfield 39, 3) := by decide +kernel
theorem dX12_gathersTwos_26 : decode cX12_gathersTwos 26 = .ok (.iconst 2, 1) := by decide +kernel
theorem dX12_gathersTwos_27 : decode cX12_gathersTwos 27 = .ok (.iaload, 1) := by decide +kernel
theorem dX12_gathersTwos_28 : decode cX12_gathersTwos 28 = .ok (.if_icmp .ge 51, 3) := by decide +kernel
theorem dX12_gathersTwos_31 : decode cX12_gathersTwos 31 = .ok (.aload_n 0, 1) := by decide +kernel
theorem dX12_gathersTwos_32 : decode cX12_gathersTwos 32 = .ok (.iload_n 1, 1) := by decide +kernel
theorem dX12_gathersTwos_33 : decode cX12_gathersTwos 33 = .ok (.iload_n 2, 1) := by decide +kernel
theorem dX12_gathersTwos_34 : decode cX12_gathersTwos 34 = .ok (.invokevirtual 345, 3) := by decide +kernel
theorem dX12_gathersTwos_37 : decode cX12_gathersTwos 37 = .ok (.ifCond .ne 6, 3) := by decide +kernel
theorem dX12_gathersTwos_40 : decode cX12_gathersTwos 40 = .ok (.goto 33, 3) := by decide +kernel
theorem dX12_gathersTwos_43 : decode cX12_gathersTwos 43 = .ok (.aload_n 0, 1) := by decide +kernel
theorem dX12_gathersTwos_44 : decode cX12_gathersTwos 44 = .ok (.getfield 61, 3) := by decide +kernel
theorem dX12_gathersTwos_47 : decode cX12_gathersTwos 47 = .ok (.aload_n 0, 1) := by decide +kernel
theorem dX12_gathersTwos_48 : decode cX12_gathersTwos 48 = .ok (.getfield 403, 3) := by decide +kernel
theorem dX12_gathersTwos_51 : decode cX12_gathersTwos 51 = .ok (.iload_n 1, 1) := by decide +kernel
theorem dX12_gathersTwos_52 : decode cX12_gathersTwos 52 = .ok (.iastore, 1) := by decide +kernel
theorem dX12_gathersTwos_53 : decode cX12_gathersTwos 53 = .ok (.aload_n 0, 1) := by decide +kernel
theorem dX12_gathersTwos_54 : decode cX12_gathersTwos 54 = .ok (.getfield 64, 3) := by decide +kernel
theorem dX12_gathersTwos_57 : decode cX12_gathersTwos 57 = .ok (.aload_n 0, 1) := by decide +kernel
theorem dX12_gathersTwos_58 : decode cX12_gathersTwos 58 = .ok (.getfield 403, 3) := by decide +kernel
theorem dX12_gathersTwos_61 : decode cX12_gathersTwos 61 = .ok (.iload_n 2, 1) := by decide +kernel
theorem dX12_gathersTwos_62 : decode cX12_gathersTwos 62 = .ok (.iastore, 1) := by decide +kernel
theorem dX12_gathersTwos_63 : decode cX12_gathersTwos 63 = .ok (.aload_n 0, 1) := by decide +kernel
theorem dX12_gathersTwos_64 : decode cX12_gathersTwos 64 = .ok (.dup, 1) := by decide +kernel
theorem dX12_gathersTwos_65 : decode cX12_gathersTwos 65 = .ok (.getfield 403, 3) := by decide +kernel
theorem dX12_gathersTwos_68 : decode cX12_gathersTwos 68 = .ok (.iconst 1, 1) := by decide +kernel
theorem dX12_gathersTwos_69 : decode cX12_gathersTwos 69 = .ok (.iadd, 1) := by decide +kernel
theorem dX12_gathersTwos_70 : decode cX12_gathersTwos 70 = .ok (.putfield 403, 3) := by decide +kernel
theorem dX12_gathersTwos_73 : decode cX12_gathersTwos 73 = .ok (.iinc 2 1, 3) := by decide +kernel
theorem dX12_gathersTwos_76 : decode cX12_gathersTwos 76 = .ok (.goto (-55), 3) := by decide +kernel
theorem dX12_gathersTwos_79 : decode cX12_gathersTwos 79 = .ok (.iinc 1 1, 3) := by decide +kernel
theorem dX12_gathersTwos_82 : decode cX12_gathersTwos 82 = .ok (.goto (-75), 3) := by decide +kernel
theorem dX12_gathersTwos_85 : decode cX12_gathersTwos 85 = .ok (.return_, 1) := by decide +kernel
set_option maxRecDepth 20000 in
theorem ggX12_areSo_X12_isOf : GoodIn wsX12_areSo wsX12_isOf := goodIn_r _ [8] (by decide +kernel) (by decide +kernel)
set_option maxRecDepth 20000 in
theorem gX12_areSo_X12_isOf : GoodIn wsX12_areSo (va_wsS RX12 299 yX12_isOf wsX12_isOf) := goodIn_app (goodIn_of _ (by decide +kernel)) ggX12_areSo_X12_isOf
theorem dX12_areSo_0 : decode cX12_areSo 0 = .ok (.iconst 0, 1) := by decide +kernel
theorem dX12_areSo_1 : decode cX12_areSo 1 = .ok (.istore_n 2, 1) := by decide +kernel
theorem dX12_areSo_2 : decode cX12_areSo 2 = .ok (.iload_n 2, 1) := by decide +kernel
theorem dX12_areSo_3 : decode cX12_areSo 3 = .ok (.aload_n 0, 1) := by decide +kernel
theorem dX12_areSo_4 : decode cX12_areSo 4 = .ok (.getfield 39, 3) := by decide +kernel
theorem dX12_areSo_7 : decode cX12_areSo 7 = .ok (.iconst 2, 1) := by decide +kernel
theorem dX12_areSo_8 : decode cX12_areSo 8 = .ok (.iaload, 1) := by decide +kernel
theorem dX12_areSo_9 : decode cX12_areSo 9 = .ok (.if_icmp .ge 100, 3) := by decide +kernel
theorem dX12_areSo_12 : decode cX12_areSo 12 = .ok (.aload_n 0, 1) := by decide +kernel
theorem dX12_areSo_13 : decode cX12_areSo 13 = .ok (.getfield 39, 3) := by decide +kernel
theorem dX12_areSo_16 : decode cX12_areSo 16 = .ok (.sipush 200, 3) := by decide +kernel
theorem dX12_areSo_19 : decode cX12_areSo 19 = .ok (.iload_n 2, 1) := by decide +kernel
theorem dX12_areSo_20 : decode cX12_areSo 20 = .ok (.iadd, 1) := by decide +kernel
theorem dX12_areSo_21 : decode cX12_areSo 21 = .ok (.iaload, 1) := by decide +kernel
theorem dX12_areSo_22 : decode cX12_areSo 22 = .ok (.ifCond .ge 6, 3) := by decide +kernel
theorem dX12_areSo_25 : decode cX12_areSo 25 = .ok (.goto 78, 3) := by decide +kernel
theorem dX12_areSo_28 : decode cX12_areSo 28 = .ok (.iconst 0, 1) := by decide +kernel
theorem dX12_areSo_29 : decode cX12_areSo 29 = .ok (.istore_n 3, 1) := by decide +kernel
theorem dX12_areSo_30 : decode cX12_areSo 30 = .ok (.iconst 0, 1) := by decide +kernel
theorem dX12_areSo_31 : decode cX12_areSo 31 = .ok (.istore 4, 2) := by decide +kernel
theorem dX12_areSo_33 : decode cX12_areSo 33 = .ok (.iload 4, 2) := by decide +kernel
theorem dX12_areSo_35 : decode cX12_areSo 35 = .ok (.aload_n 0, 1) := by decide +kernel
theorem dX12_areSo_36 : decode cX12_areSo 36 = .ok (.getfield 403, 3) := by decide +kernel
theorem dX12_areSo_39 : decode cX12_areSo 39 = .ok (.if_icmp .ge 48, 3) := by decide +kernel
theorem dX12_areSo_42 : decode cX12_areSo 42 = .ok (.iload_n 3, 1) := by decide +kernel
theorem dX12_areSo_43 : decode cX12_areSo 43 = .ok (.iload_n 1, 1) := by decide +kernel
theorem dX12_areSo_44 : decode cX12_areSo 44 = .ok (.iload 4, 2) := by decide +kernel
theorem dX12_areSo_46 : decode cX12_areSo 46 = .ok (.invokestatic 299, 3) := by decide +kernel
theorem dX12_areSo_49 : decode cX12_areSo 49 = .ok (.ifCond .eq 29, 3) := by decide +kernel
theorem dX12_areSo_52 : decode cX12_areSo 52 = .ok (.aload_n 0, 1) := by decide +kernel
theorem dX12_areSo_53 : decode cX12_areSo 53 = .ok (.getfield 61, 3) := by decide +kernel
theorem dX12_areSo_56 : decode cX12_areSo 56 = .ok (.iload 4, 2) := by decide +kernel
theorem dX12_areSo_58 : decode cX12_areSo 58 = .ok (.iaload, 1) := by decide +kernel
theorem dX12_areSo_59 : decode cX12_areSo 59 = .ok (.iload_n 2, 1) := by decide +kernel
theorem dX12_areSo_60 : decode cX12_areSo 60 = .ok (.if_icmp .eq 14, 3) := by decide +kernel
theorem dX12_areSo_63 : decode cX12_areSo 63 = .ok (.aload_n 0, 1) := by decide +kernel
theorem dX12_areSo_64 : decode cX12_areSo 64 = .ok (.getfield 64, 3) := by decide +kernel
theorem dX12_areSo_67 : decode cX12_areSo 67 = .ok (.iload 4, 2) := by decide +kernel
theorem dX12_areSo_69 : decode cX12_areSo 69 = .ok (.iaload, 1) := by decide +kernel
theorem dX12_areSo_70 : decode cX12_areSo 70 = .ok (.iload_n 2, 1) := by decide +kernel
theorem dX12_areSo_71 : decode cX12_areSo 71 = .ok (.if_icmp .ne 7, 3) := by decide +kernel
theorem dX12_areSo_74 : decode cX12_areSo 74 = .ok (.iconst 1, 1) := by decide +kernel
theorem dX12_areSo_75 : decode cX12_areSo 75 = .ok (.goto 4, 3) := by decide +kernel
theorem dX12_areSo_78 : decode cX12_areSo 78 = .ok (.iconst 0, 1) := by decide +kernel
theorem dX12_areSo_79 : decode cX12_areSo 79 = .ok (.iadd, 1) := by decide +kernel
theorem dX12_areSo_80 : decode cX12_areSo 80 = .ok (.istore_n 3, 1) := by decide +kernel
theorem dX12_areSo_81 : decode cX12_areSo 81 = .ok (.iinc 4 1, 3) := by decide +kernel
theorem dX12_areSo_84 : decode cX12_areSo 84 = .ok (.goto (-51), 3) := by decide +kernel
theorem dX12_areSo_87 : decode cX12_areSo 87 = .ok (.iload_n 3, 1) := by decide +kernel
theorem dX12_areSo_88 : decode cX12_areSo 88 = .ok (.aload_n 0, 1) := by decide +kernel
theorem dX12_areSo_89 : decode cX12_areSo 89 = .ok (.getfield 39, 3) := by decide +kernel
theorem dX12_areSo_92 : decode cX12_areSo 92 = .ok (.sipush 200, 3) := by decide +kernel
theorem dX12_areSo_95 : decode cX12_areSo 95 = .ok (.iload_n 2, 1) := by decide +kernel
theorem dX12_areSo_96 : decode cX12_areSo 96 = .ok (.iadd, 1) := by decide +kernel
theorem dX12_areSo_97 : decode cX12_areSo 97 = .ok (.iaload, 1) := by decide +kernel
theorem dX12_areSo_98 : decode cX12_areSo 98 = .ok (.if_icmp .eq 5, 3) := by decide +kernel
theorem dX12_areSo_101 : decode cX12_areSo 101 = .ok (.iconst 0, 1) := by decide +kernel
theorem dX12_areSo_102 : decode cX12_areSo 102 = .ok (.ireturn, 1) := by decide +kernel
theorem dX12_areSo_103 : decode cX12_areSo 103 = .ok (.iinc 2 1, 3) := by decide +kernel
theorem dX12_areSo_106 : decode cX12_areSo 106 = .ok (.goto (-104), 3) := by decide +kernel
theorem dX12_areSo_109 : decode cX12_areSo 109 = .ok (.iconst 1, 1) := by decide +kernel
theorem dX12_areSo_110 : decode cX12_areSo 110 = .ok (.ireturn, 1) := by decide +kernel
set_option maxRecDepth 20000 in
theorem ggX12_goesThrough_X12_gathersTwos : GoodIn wsX12_goesThrough wsX12_gathersTwos := goodIn_r _ [9, 1, 10, 11, 12, 13, 14, 15, 8, 16, 17, 18, 19, 20, 21, 22, 23, 24, 32, 33, 34, 35, 36, 37, 38, 39, 40, 41, 42, 43, 44, 45, 46, 47, 48, 49, 50, 51, 52, 53, 54, 55, 56, 57, 58, 59, 60, 61, 62, 63, 64, 65, 66, 67, 68, 69, 70, 71, 72, 73, 74, 75] (by decide +kernel) (by decide +kernel)
set_option maxRecDepth 20000 in
theorem gX12_goesThrough_X12_gathersTwos : GoodIn wsX12_goesThrough (wsV RX12 406 RX12 yX12_gathersTwos wsX12_gathersTwos) := goodIn_app (goodIn_of _ (by decide +kernel)) ggX12_goesThrough_X12_gathersTwos
set_option maxRecDepth 20000 in
theorem ggX12_goesThrough_X12_areSo : GoodIn wsX12_goesThrough wsX12_areSo := goodIn_r _ [28, 10, 1, 11, 12, 29, 30, 8, 31, 32, 33, 34, 35, 36, 37, 38, 39, 40, 41, 42, 43, 44, 45, 46, 47, 48, 49, 50, 51, 52, 53, 54, 55, 56, 57, 58, 59, 60, 61, 62, 63, 64, 65, 66, 67, 68, 69, 70, 71, 72, 73, 74, 75] (by decide +kernel) (by decide +kernel)
set_option maxRecDepth 20000 in
theorem gX12_goesThrough_X12_areSo : GoodIn wsX12_goesThrough (wsV RX12 418 RX12 yX12_areSo wsX12_areSo) := goodIn_app (goodIn_of _ (by decide +kernel)) ggX12_goesThrough_X12_areSo
theorem dX12_goesThrough_0 : decode cX12_goesThrough 0 = .ok (.aload_n 0, 1) := by decide +kernel
theorem dX12_goesThrough_1 : decode cX12_goesThrough 1 = .ok (.invokevirtual 406, 3) := by decide +kernel
theorem dX12_goesThrough_4 : decode cX12_goesThrough 4 = .ok (.aload_n 0, 1) := by decide +kernel
theorem dX12_goesThrough_5 : decode cX12_goesThrough 5 = .ok (.getfield 403, 3) := by decide +kernel
theorem dX12_goesThrough_8 : decode cX12_goesThrough 8 = .ok (.bipush 16, 2) := by decide +kernel
theorem dX12_goesThrough_10 : decode cX12_goesThrough 10 = .ok (.if_icmp .le 5, 3) := by decide +kernel
theorem dX12_goesThrough_13 : decode cX12_goesThrough 13 = .ok (.iconst 0, 1) := by decide +kernel
theorem dX12_goesThrough_14 : decode cX12_goesThrough 14 = .ok (.ireturn, 1) := by decide +kernel
theorem dX12_goesThrough_15 : decode cX12_goesThrough 15 = .ok (.aload_n 0, 1) := by decide +kernel
theorem dX12_goesThrough_16 : decode cX12_goesThrough 16 = .ok (.iconst 0, 1) := by decide +kernel
theorem dX12_goesThrough_17 : decode cX12_goesThrough 17 = .ok (.putfield 409, 3) := by decide +kernel
theorem dX12_goesThrough_20 : decode cX12_goesThrough 20 = .ok (.aload_n 0, 1) := by decide +kernel
theorem dX12_goesThrough_21 : decode cX12_goesThrough 21 = .ok (.iconst 1, 1) := by decide +kernel
theorem dX12_goesThrough_22 : decode cX12_goesThrough 22 = .ok (.aload_n 0, 1) := by decide +kernel
theorem dX12_goesThrough_23 : decode cX12_goesThrough 23 = .ok (.getfield 403, 3) := by decide +kernel
theorem dX12_goesThrough_26 : decode cX12_goesThrough 26 = .ok (.ishl, 1) := by decide +kernel
theorem dX12_goesThrough_27 : decode cX12_goesThrough 27 = .ok (.iconst 1, 1) := by decide +kernel
theorem dX12_goesThrough_28 : decode cX12_goesThrough 28 = .ok (.isub, 1) := by decide +kernel
theorem dX12_goesThrough_29 : decode cX12_goesThrough 29 = .ok (.putfield 412, 3) := by decide +kernel
theorem dX12_goesThrough_32 : decode cX12_goesThrough 32 = .ok (.aload_n 0, 1) := by decide +kernel
theorem dX12_goesThrough_33 : decode cX12_goesThrough 33 = .ok (.iconst 0, 1) := by decide +kernel
theorem dX12_goesThrough_34 : decode cX12_goesThrough 34 = .ok (.putfield 415, 3) := by decide +kernel
theorem dX12_goesThrough_37 : decode cX12_goesThrough 37 = .ok (.iconst 0, 1) := by decide +kernel
theorem dX12_goesThrough_38 : decode cX12_goesThrough 38 = .ok (.istore_n 1, 1) := by decide +kernel
theorem dX12_goesThrough_39 : decode cX12_goesThrough 39 = .ok (.iload_n 1, 1) := by decide +kernel
theorem dX12_goesThrough_40 : decode cX12_goesThrough 40 = .ok (.iconst 1, 1) := by decide +kernel
theorem dX12_goesThrough_41 : decode cX12_goesThrough 41 = .ok (.aload_n 0, 1) := by decide +kernel
theorem dX12_goesThrough_42 : decode cX12_goesThrough 42 = .ok (.getfield 403, 3) := by decide +kernel
theorem dX12_goesThrough_45 : decode cX12_goesThrough 45 = .ok (.ishl, 1) := by decide +kernel
theorem dX12_goesThrough_46 : decode cX12_goesThrough 46 = .ok (.if_icmp .ge 50, 3) := by decide +kernel
theorem dX12_goesThrough_49 : decode cX12_goesThrough 49 = .ok (.aload_n 0, 1) := by decide +kernel
theorem dX12_goesThrough_50 : decode cX12_goesThrough 50 = .ok (.iload_n 1, 1) := by decide +kernel
theorem dX12_goesThrough_51 : decode cX12_goesThrough 51 = .ok (.invokevirtual 418, 3) := by decide +kernel
theorem dX12_goesThrough_54 : decode cX12_goesThrough 54 = .ok (.ifCond .ne 6, 3) := by decide +kernel
theorem dX12_goesThrough_57 : decode cX12_goesThrough 57 = .ok (.goto 33, 3) := by decide +kernel
theorem dX12_goesThrough_60 : decode cX12_goesThrough 60 = .ok (.aload_n 0, 1) := by decide +kernel
theorem dX12_goesThrough_61 : decode cX12_goesThrough 61 = .ok (.dup, 1) := by decide +kernel
theorem dX12_goesThrough_62 : decode cX12_goesThrough 62 = .ok (.getfield 409, 3) := by decide +kernel
theorem dX12_goesThrough_65 : decode cX12_goesThrough 65 = .ok (.iconst 1, 1) := by decide +kernel
theorem dX12_goesThrough_66 : decode cX12_goesThrough 66 = .ok (.iadd, 1) := by decide +kernel
theorem dX12_goesThrough_67 : decode cX12_goesThrough 67 = .ok (.putfield 409, 3) := by decide +kernel
theorem dX12_goesThrough_70 : decode cX12_goesThrough 70 = .ok (.aload_n 0, 1) := by decide +kernel
theorem dX12_goesThrough_71 : decode cX12_goesThrough 71 = .ok (.dup, 1) := by decide +kernel
theorem dX12_goesThrough_72 : decode cX12_goesThrough 72 = .ok (.getfield 412, 3) := by decide +kernel
theorem dX12_goesThrough_75 : decode cX12_goesThrough 75 = .ok (.iload_n 1, 1) := by decide +kernel
theorem dX12_goesThrough_76 : decode cX12_goesThrough 76 = .ok (.iand, 1) := by decide +kernel
theorem dX12_goesThrough_77 : decode cX12_goesThrough 77 = .ok (.putfield 412, 3) := by decide +kernel
theorem dX12_goesThrough_80 : decode cX12_goesThrough 80 = .ok (.aload_n 0, 1) := by decide +kernel
theorem dX12_goesThrough_81 : decode cX12_goesThrough 81 = .ok (.dup, 1) := by decide +kernel
theorem dX12_goesThrough_82 : decode cX12_goesThrough 82 = .ok (.getfield 415, 3) := by decide +kernel
theorem dX12_goesThrough_85 : decode cX12_goesThrough 85 = .ok (.iload_n 1, 1) := by decide +kernel
theorem dX12_goesThrough_86 : decode cX12_goesThrough 86 = .ok (.ior, 1) := by decide +kernel
theorem dX12_goesThrough_87 : decode cX12_goesThrough 87 = .ok (.putfield 415, 3) := by decide +kernel
theorem dX12_goesThrough_90 : decode cX12_goesThrough 90 = .ok (.iinc 1 1, 3) := by decide +kernel
theorem dX12_goesThrough_93 : decode cX12_goesThrough 93 = .ok (.goto (-54), 3) := by decide +kernel
theorem dX12_goesThrough_96 : decode cX12_goesThrough 96 = .ok (.iconst 1, 1) := by decide +kernel
theorem dX12_goesThrough_97 : decode cX12_goesThrough 97 = .ok (.ireturn, 1) := by decide +kernel
set_option maxRecDepth 20000 in
theorem ggX12_shuns_X12_isTown : GoodIn wsX12_shuns wsX12_isTown := goodIn_r _ [6, 7, 40, 41, 42, 43, 44, 45, 46, 47, 48, 49, 50, 51, 52, 53, 54, 55, 56, 57, 58, 59, 60, 61, 62, 63, 64, 65, 66, 67, 68, 69, 70, 71, 72, 73, 74, 75, 76, 77, 78, 79, 80, 81, 82, 83] (by decide +kernel) (by decide +kernel)
set_option maxRecDepth 20000 in
theorem gX12_shuns_X12_isTown : GoodIn wsX12_shuns (wsV RX12 360 RX12 yX12_isTown wsX12_isTown) := goodIn_app (goodIn_of _ (by decide +kernel)) ggX12_shuns_X12_isTown
set_option maxRecDepth 20000 in
theorem ggX12_shuns_X12_goesThrough : GoodIn wsX12_shuns wsX12_goesThrough := goodIn_r _ [11, 12, 1, 13, 14, 15, 16, 17, 5, 18, 7, 19, 20, 21, 22, 23, 24, 25, 26, 27, 28, 29, 30, 31, 32, 33, 34, 35, 36, 37, 38, 39, 40, 41, 42, 43, 44, 45, 46, 47, 48, 49, 50, 51, 52, 53, 54, 55, 56, 57, 58, 59, 60, 61, 62, 63, 64, 65, 66, 67, 68, 69, 70, 71, 72, 73, 74, 75, 76, 77, 78, 79, 80, 81, 82, 83] (by decide +kernel) (by decide +kernel)
set_option maxRecDepth 20000 in
theorem gX12_shuns_X12_goesThrough : GoodIn wsX12_shuns (wsV RX12 421 RX12 yX12_goesThrough wsX12_goesThrough) := goodIn_app (goodIn_of _ (by decide +kernel)) ggX12_shuns_X12_goesThrough
theorem dX12_shuns_0 : decode cX12_shuns 0 = .ok (.aload_n 0, 1) := by decide +kernel
theorem dX12_shuns_1 : decode cX12_shuns 1 = .ok (.invokevirtual 360, 3) := by decide +kernel
theorem dX12_shuns_4 : decode cX12_shuns 4 = .ok (.ifCond .ne 7, 3) := by decide +kernel
theorem dX12_shuns_7 : decode cX12_shuns 7 = .ok (.iconst (-1), 1) := by decide +kernel
theorem dX12_shuns_8 : decode cX12_shuns 8 = .ok (.goto 19, 3) := by decide +kernel
theorem dX12_shuns_11 : decode cX12_shuns 11 = .ok (.aload_n 0, 1) := by decide +kernel
theorem dX12_shuns_12 : decode cX12_shuns 12 = .ok (.invokevirtual 421, 3) := by decide +kernel
theorem dX12_shuns_15 : decode cX12_shuns 15 = .ok (.ifCond .eq 10, 3) := by decide +kernel
theorem dX12_shuns_18 : decode cX12_shuns 18 = .ok (.aload_n 0, 1) := by decide +kernel
theorem dX12_shuns_19 : decode cX12_shuns 19 = .ok (.getfield 409, 3) := by decide +kernel
theorem dX12_shuns_22 : decode cX12_shuns 22 = .ok (.goto 5, 3) := by decide +kernel
theorem dX12_shuns_25 : decode cX12_shuns 25 = .ok (.bipush (-3), 2) := by decide +kernel
theorem dX12_shuns_27 : decode cX12_shuns 27 = .ok (.ireturn, 1) := by decide +kernel
set_option maxRecDepth 20000 in
theorem ggX12_shook_X12_isPerson : GoodIn wsX12_shook wsX12_isPerson := goodIn_r _ [10, 11, 40, 41, 42, 43, 44, 45, 46, 47, 48, 49, 50, 51, 52, 53, 54, 55, 56, 57, 58, 59, 60, 61, 62, 63, 64, 65, 66, 67, 68, 69, 70, 71, 72, 73, 74, 75, 76, 77, 78, 79, 80, 81, 82, 83] (by decide +kernel) (by decide +kernel)
set_option maxRecDepth 20000 in
theorem gX12_shook_X12_isPerson : GoodIn wsX12_shook (wsV RX12 339 RX12 yX12_isPerson wsX12_isPerson) := goodIn_app (goodIn_of _ (by decide +kernel)) ggX12_shook_X12_isPerson
set_option maxRecDepth 20000 in
theorem ggX12_shook_X12_meet : GoodIn wsX12_shook wsX12_meet := goodIn_r _ [15, 11, 16, 17, 18, 9, 19, 20, 21, 22, 23, 40, 41, 42, 43, 44, 45, 46, 47, 48, 49, 50, 51, 52, 53, 54, 55, 56, 57, 58, 59, 60, 61, 62, 63, 64, 65, 66, 67, 68, 69, 70, 71, 72, 73, 74, 75, 76, 77, 78, 79, 80, 81, 82, 83] (by decide +kernel) (by decide +kernel)
set_option maxRecDepth 20000 in
theorem gX12_shook_X12_meet : GoodIn wsX12_shook (wsV RX12 345 RX12 yX12_meet wsX12_meet) := goodIn_app (goodIn_of _ (by decide +kernel)) ggX12_shook_X12_meet
set_option maxRecDepth 20000 in
theorem ggX12_shook_X12_goesThrough : GoodIn wsX12_shook wsX12_goesThrough := goodIn_r _ [27, 28, 1, 4, 5, 29, 30, 31, 9, 32, 11, 2, 3, 12, 13, 14, 15, 16, 17, 18, 19, 20, 21, 22, 23, 33, 34, 35, 36, 37, 38, 39, 40, 41, 42, 43, 44, 45, 46, 47, 48, 49, 50, 51, 52, 53, 54, 55, 56, 57, 58, 59, 60, 61, 62, 63, 64, 65, 66, 67, 68, 69, 70, 71, 72, 73, 74, 75, 76, 77, 78, 79, 80, 81, 82, 83] (by decide +kernel) (by decide +kernel)
set_option maxRecDepth 20000 in
theorem gX12_shook_X12_goesThrough : GoodIn wsX12_shook (wsV RX12 421 RX12 yX12_goesThrough wsX12_goesThrough) := goodIn_app (goodIn_of _ (by decide +kernel)) ggX12_shook_X12_goesThrough
set_option maxRecDepth 20000 in
theorem ggX12_shook_X12_isOf : GoodIn wsX12_shook wsX12_isOf := goodIn_r _ [39] (by decide +kernel) (by decide +kernel)
set_option maxRecDepth 20000 in
theorem gX12_shook_X12_isOf : GoodIn wsX12_shook (va_wsS RX12 299 yX12_isOf wsX12_isOf) := goodIn_app (goodIn_of _ (by decide +kernel)) ggX12_shook_X12_isOf
theorem dX12_shook_0 : decode cX12_shook 0 = .ok (.aload_n 0, 1) := by decide +kernel
theorem dX12_shook_1 : decode cX12_shook 1 = .ok (.iload_n 1, 1) := by decide +kernel
theorem dX12_shook_2 : decode cX12_shook 2 = .ok (.invokevirtual 339, 3) := by decide +kernel
theorem dX12_shook_5 : decode cX12_shook 5 = .ok (.ifCond .eq 25, 3) := by decide +kernel
theorem dX12_shook_8 : decode cX12_shook 8 = .ok (.aload_n 0, 1) := by decide +kernel
theorem dX12_shook_9 : decode cX12_shook 9 = .ok (.iload_n 2, 1) := by decide +kernel
theorem dX12_shook_10 : decode cX12_shook 10 = .ok (.invokevirtual 339, 3) := by decide +kernel
theorem dX12_shook_13 : decode cX12_shook 13 = .ok (.ifCond .eq 17, 3) := by decide +kernel
theorem dX12_shook_16 : decode cX12_shook 16 = .ok (.iload_n 1, 1) := by decide +kernel
theorem dX12_shook_17 : decode cX12_shook 17 = .ok (.iload_n 2, 1) := by decide +kernel
theorem dX12_shook_18 : decode cX12_shook 18 = .ok (.if_icmp .eq 12, 3) := by decide +kernel
theorem dX12_shook_21 : decode cX12_shook 21 = .ok (.aload_n 0, 1) := by decide +kernel
theorem dX12_shook_22 : decode cX12_shook 22 = .ok (.iload_n 1, 1) := by decide +kernel
theorem dX12_shook_23 : decode cX12_shook 23 = .ok (.iload_n 2, 1) := by decide +kernel
theorem dX12_shook_24 : decode cX12_shook 24 = .ok (.invokevirtual 345, 3) := by decide +kernel
theorem dX12_shook_27 : decode cX12_shook 27 = .ok (.ifCond .ne 5, 3) := by decide +kernel
theorem dX12_shook_30 : decode cX12_shook 30 = .ok (.iconst (-1), 1) := by decide +kernel
theorem dX12_shook_31 : decode cX12_shook 31 = .ok (.ireturn, 1) := by decide +kernel
theorem dX12_shook_32 : decode cX12_shook 32 = .ok (.aload_n 0, 1) := by decide +kernel
theorem dX12_shook_33 : decode cX12_shook 33 = .ok (.invokevirtual 421, 3) := by decide +kernel
theorem dX12_shook_36 : decode cX12_shook 36 = .ok (.ifCond .ne 6, 3) := by decide +kernel
theorem dX12_shook_39 : decode cX12_shook 39 = .ok (.bipush (-3), 2) := by decide +kernel
theorem dX12_shook_41 : decode cX12_shook 41 = .ok (.ireturn, 1) := by decide +kernel
theorem dX12_shook_42 : decode cX12_shook 42 = .ok (.aload_n 0, 1) := by decide +kernel
theorem dX12_shook_43 : decode cX12_shook 43 = .ok (.getfield 409, 3) := by decide +kernel
theorem dX12_shook_46 : decode cX12_shook 46 = .ok (.ifCond .ne 6, 3) := by decide +kernel
theorem dX12_shook_49 : decode cX12_shook 49 = .ok (.bipush (-2), 2) := by decide +kernel
theorem dX12_shook_51 : decode cX12_shook 51 = .ok (.ireturn, 1) := by decide +kernel
theorem dX12_shook_52 : decode cX12_shook 52 = .ok (.iconst 0, 1) := by decide +kernel
theorem dX12_shook_53 : decode cX12_shook 53 = .ok (.istore_n 3, 1) := by decide +kernel
theorem dX12_shook_54 : decode cX12_shook 54 = .ok (.aload_n 0, 1) := by decide +kernel
theorem dX12_shook_55 : decode cX12_shook 55 = .ok (.getfield 61, 3) := by decide +kernel
theorem dX12_shook_58 : decode cX12_shook 58 = .ok (.iload_n 3, 1) := by decide +kernel
theorem dX12_shook_59 : decode cX12_shook 59 = .ok (.iaload, 1) := by decide +kernel
theorem dX12_shook_60 : decode cX12_shook 60 = .ok (.iload_n 1, 1) := by decide +kernel
theorem dX12_shook_61 : decode cX12_shook 61 = .ok (.if_icmp .ne 13, 3) := by decide +kernel
theorem dX12_shook_64 : decode cX12_shook 64 = .ok (.aload_n 0, 1) := by decide +kernel
theorem dX12_shook_65 : decode cX12_shook 65 = .ok (.getfield 64, 3) := by decide +kernel
theorem dX12_shook_68 : decode cX12_shook 68 = .ok (.iload_n 3, 1) := by decide +kernel
theorem dX12_shook_69 : decode cX12_shook 69 = .ok (.iaload, 1) := by decide +kernel
theorem dX12_shook_70 : decode cX12_shook 70 = .ok (.iload_n 2, 1) := by decide +kernel
theorem dX12_shook_71 : decode cX12_shook 71 = .ok (.if_icmp .eq 29, 3) := by decide +kernel
theorem dX12_shook_74 : decode cX12_shook 74 = .ok (.aload_n 0, 1) := by decide +kernel
theorem dX12_shook_75 : decode cX12_shook 75 = .ok (.getfield 61, 3) := by decide +kernel
theorem dX12_shook_78 : decode cX12_shook 78 = .ok (.iload_n 3, 1) := by decide +kernel
theorem dX12_shook_79 : decode cX12_shook 79 = .ok (.iaload, 1) := by decide +kernel
theorem dX12_shook_80 : decode cX12_shook 80 = .ok (.iload_n 2, 1) := by decide +kernel
theorem dX12_shook_81 : decode cX12_shook 81 = .ok (.if_icmp .ne 13, 3) := by decide +kernel
theorem dX12_shook_84 : decode cX12_shook 84 = .ok (.aload_n 0, 1) := by decide +kernel
theorem dX12_shook_85 : decode cX12_shook 85 = .ok (.getfield 64, 3) := by decide +kernel
theorem dX12_shook_88 : decode cX12_shook 88 = .ok (.iload_n 3, 1) := by decide +kernel
theorem dX12_shook_89 : decode cX12_shook 89 = .ok (.iaload, 1) := by decide +kernel
theorem dX12_shook_90 : decode cX12_shook 90 = .ok (.iload_n 1, 1) := by decide +kernel
theorem dX12_shook_91 : decode cX12_shook 91 = .ok (.if_icmp .eq 9, 3) := by decide +kernel
theorem dX12_shook_94 : decode cX12_shook 94 = .ok (.iinc 3 1, 3) := by decide +kernel
theorem dX12_shook_97 : decode cX12_shook 97 = .ok (.goto (-43), 3) := by decide +kernel
theorem dX12_shook_100 : decode cX12_shook 100 = .ok (.aload_n 0, 1) := by decide +kernel
theorem dX12_shook_101 : decode cX12_shook 101 = .ok (.getfield 412, 3) := by decide +kernel
theorem dX12_shook_104 : decode cX12_shook 104 = .ok (.iload_n 3, 1) := by decide +kernel
theorem dX12_shook_105 : decode cX12_shook 105 = .ok (.invokestatic 299, 3) := by decide +kernel
theorem dX12_shook_108 : decode cX12_shook 108 = .ok (.ifCond .eq 7, 3) := by decide +kernel
theorem dX12_shook_111 : decode cX12_shook 111 = .ok (.iconst 1, 1) := by decide +kernel
theorem dX12_shook_112 : decode cX12_shook 112 = .ok (.goto 19, 3) := by decide +kernel
theorem dX12_shook_115 : decode cX12_shook 115 = .ok (.aload_n 0, 1) := by decide +kernel
theorem dX12_shook_116 : decode cX12_shook 116 = .ok (.getfield 415, 3) := by decide +kernel
theorem dX12_shook_119 : decode cX12_shook 119 = .ok (.iload_n 3, 1) := by decide +kernel
theorem dX12_shook_120 : decode cX12_shook 120 = .ok (.invokestatic 299, 3) := by decide +kernel
theorem dX12_shook_123 : decode cX12_shook 123 = .ok (.ifCond .eq 7, 3) := by decide +kernel
theorem dX12_shook_126 : decode cX12_shook 126 = .ok (.iconst 2, 1) := by decide +kernel
theorem dX12_shook_127 : decode cX12_shook 127 = .ok (.goto 4, 3) := by decide +kernel
theorem dX12_shook_130 : decode cX12_shook 130 = .ok (.iconst 0, 1) := by decide +kernel
theorem dX12_shook_131 : decode cX12_shook 131 = .ok (.ireturn, 1) := by decide +kernel
set_option maxRecDepth 20000 in
theorem ggX12_passedIn_X12_isOf : GoodIn wsX12_passedIn wsX12_isOf := goodIn_r _ [5] (by decide +kernel) (by decide +kernel)
set_option maxRecDepth 20000 in
theorem gX12_passedIn_X12_isOf : GoodIn wsX12_passedIn (va_wsS RX12 299 yX12_isOf wsX12_isOf) := goodIn_app (goodIn_of _ (by decide +kernel)) ggX12_passedIn_X12_isOf
set_option maxRecDepth 20000 in
theorem ggX12_passedIn_X12_meetIn : GoodIn wsX12_passedIn wsX12_meetIn := goodIn_r _ [9, 10, 11, 12, 4, 13, 1, 14, 15, 16, 17, 18, 19, 20, 21, 22, 23, 24, 25, 26, 27, 28, 29, 30, 31, 32, 33, 34, 35, 36, 37, 38, 39, 40, 41, 42, 43, 44, 45, 46, 47, 48, 49, 50, 51, 52, 53, 54, 55, 56, 57] (by decide +kernel) (by decide +kernel)
set_option maxRecDepth 20000 in
theorem gX12_passedIn_X12_meetIn : GoodIn wsX12_passedIn (wsV RX12 295 RX12 yX12_meetIn wsX12_meetIn) := goodIn_app (goodIn_of _ (by decide +kernel)) ggX12_passedIn_X12_meetIn
theorem dX12_passedIn_0 : decode cX12_passedIn 0 = .ok (.iload_n 1, 1) := by decide +kernel
theorem dX12_passedIn_1 : decode cX12_passedIn 1 = .ok (.istore_n 3, 1) := by decide +kernel
theorem dX12_passedIn_2 : decode cX12_passedIn 2 = .ok (.iconst 0, 1) := by decide +kernel
theorem dX12_passedIn_3 : decode cX12_passedIn 3 = .ok (.istore 4, 2) := by decide +kernel
theorem dX12_passedIn_5 : decode cX12_passedIn 5 = .ok (.iload 4, 2) := by decide +kernel
theorem dX12_passedIn_7 : decode cX12_passedIn 7 = .ok (.aload_n 0, 1) := by decide +kernel
theorem dX12_passedIn_8 : decode cX12_passedIn 8 = .ok (.getfield 39, 3) := by decide +kernel
theorem dX12_passedIn_11 : decode cX12_passedIn 11 = .ok (.iconst 2, 1) := by decide +kernel
theorem dX12_passedIn_12 : decode cX12_passedIn 12 = .ok (.iaload, 1) := by decide +kernel
theorem dX12_passedIn_13 : decode cX12_passedIn 13 = .ok (.if_icmp .ge 64, 3) := by decide +kernel
theorem dX12_passedIn_16 : decode cX12_passedIn 16 = .ok (.iconst 0, 1) := by decide +kernel
theorem dX12_passedIn_17 : decode cX12_passedIn 17 = .ok (.istore 5, 2) := by decide +kernel
theorem dX12_passedIn_19 : decode cX12_passedIn 19 = .ok (.iload 5, 2) := by decide +kernel
theorem dX12_passedIn_21 : decode cX12_passedIn 21 = .ok (.aload_n 0, 1) := by decide +kernel
theorem dX12_passedIn_22 : decode cX12_passedIn 22 = .ok (.getfield 39, 3) := by decide +kernel
theorem dX12_passedIn_25 : decode cX12_passedIn 25 = .ok (.iconst 2, 1) := by decide +kernel
theorem dX12_passedIn_26 : decode cX12_passedIn 26 = .ok (.iaload, 1) := by decide +kernel
theorem dX12_passedIn_27 : decode cX12_passedIn 27 = .ok (.if_icmp .ge 44, 3) := by decide +kernel
theorem dX12_passedIn_30 : decode cX12_passedIn 30 = .ok (.iload 4, 2) := by decide +kernel
theorem dX12_passedIn_32 : decode cX12_passedIn 32 = .ok (.iload 5, 2) := by decide +kernel
theorem dX12_passedIn_34 : decode cX12_passedIn 34 = .ok (.if_icmp .eq 31, 3) := by decide +kernel
theorem dX12_passedIn_37 : decode cX12_passedIn 37 = .ok (.iload_n 1, 1) := by decide +kernel
theorem dX12_passedIn_38 : decode cX12_passedIn 38 = .ok (.iload 4, 2) := by decide +kernel
theorem dX12_passedIn_40 : decode cX12_passedIn 40 = .ok (.invokestatic 299, 3) := by decide +kernel
theorem dX12_passedIn_43 : decode cX12_passedIn 43 = .ok (.ifCond .eq 22, 3) := by decide +kernel
theorem dX12_passedIn_46 : decode cX12_passedIn 46 = .ok (.aload_n 0, 1) := by decide +kernel
theorem dX12_passedIn_47 : decode cX12_passedIn 47 = .ok (.iload 4, 2) := by decide +kernel
theorem dX12_passedIn_49 : decode cX12_passedIn 49 = .ok (.iload 5, 2) := by decide +kernel
theorem dX12_passedIn_51 : decode cX12_passedIn 51 = .ok (.iload_n 2, 1) := by decide +kernel
theorem dX12_passedIn_52 : decode cX12_passedIn 52 = .ok (.invokevirtual 295, 3) := by decide +kernel
theorem dX12_passedIn_55 : decode cX12_passedIn 55 = .ok (.ifCond .eq 10, 3) := by decide +kernel
theorem dX12_passedIn_58 : decode cX12_passedIn 58 = .ok (.iload_n 3, 1) := by decide +kernel
theorem dX12_passedIn_59 : decode cX12_passedIn 59 = .ok (.iconst 1, 1) := by decide +kernel
theorem dX12_passedIn_60 : decode cX12_passedIn 60 = .ok (.iload 5, 2) := by decide +kernel
theorem dX12_passedIn_62 : decode cX12_passedIn 62 = .ok (.ishl, 1) := by decide +kernel
theorem dX12_passedIn_63 : decode cX12_passedIn 63 = .ok (.ior, 1) := by decide +kernel
theorem dX12_passedIn_64 : decode cX12_passedIn 64 = .ok (.istore_n 3, 1) := by decide +kernel
theorem dX12_passedIn_65 : decode cX12_passedIn 65 = .ok (.iinc 5 1, 3) := by decide +kernel
theorem dX12_passedIn_68 : decode cX12_passedIn 68 = .ok (.goto (-49), 3) := by decide +kernel
theorem dX12_passedIn_71 : decode cX12_passedIn 71 = .ok (.iinc 4 1, 3) := by decide +kernel
theorem dX12_passedIn_74 : decode cX12_passedIn 74 = .ok (.goto (-69), 3) := by decide +kernel
theorem dX12_passedIn_77 : decode cX12_passedIn 77 = .ok (.iload_n 3, 1) := by decide +kernel
theorem dX12_passedIn_78 : decode cX12_passedIn 78 = .ok (.ireturn, 1) := by decide +kernel
set_option maxRecDepth 20000 in
theorem ggX12_passes_X12_isPerson : GoodIn wsX12_passes wsX12_isPerson := goodIn_r _ [6, 1, 22, 23, 24, 25, 26, 27, 28, 29, 30, 31, 32, 33, 34, 35, 36, 37, 38, 39, 40, 41, 42, 43, 44, 45, 46, 47, 48, 49, 50, 51, 52, 53, 54, 55, 56, 57, 58, 59, 60, 61, 62, 63, 64, 65] (by decide +kernel) (by decide +kernel)
set_option maxRecDepth 20000 in
theorem gX12_passes_X12_isPerson : GoodIn wsX12_passes (wsV RX12 339 RX12 yX12_isPerson wsX12_isPerson) := goodIn_app (goodIn_of _ (by decide +kernel)) ggX12_passes_X12_isPerson
set_option maxRecDepth 20000 in
theorem ggX12_passes_X12_passedIn : GoodIn wsX12_passes wsX12_passedIn := goodIn_r _ [10, 1, 11, 12, 5, 13, 14, 15, 16, 17, 18, 19, 20, 21, 22, 23, 24, 25, 26, 27, 28, 29, 30, 31, 32, 33, 34, 35, 36, 37, 38, 39, 40, 41, 42, 43, 44, 45, 46, 47, 48, 49, 50, 51, 52, 53, 54, 55, 56, 57, 58, 59, 60, 61, 62, 63, 64, 65] (by decide +kernel) (by decide +kernel)
set_option maxRecDepth 20000 in
theorem gX12_passes_X12_passedIn : GoodIn wsX12_passes (wsV RX12 424 RX12 yX12_passedIn wsX12_passedIn) := goodIn_app (goodIn_of _ (by decide +kernel)) ggX12_passes_X12_passedIn
set_option maxRecDepth 20000 in
theorem ggX12_passes_X12_isOf : GoodIn wsX12_passes wsX12_isOf := goodIn_r _ [13] (by decide +kernel) (by decide +kernel)
set_option maxRecDepth 20000 in
theorem gX12_passes_X12_isOf : GoodIn wsX12_passes (va_wsS RX12 299 yX12_isOf wsX12_isOf) := goodIn_app (goodIn_of _ (by decide +kernel)) ggX12_passes_X12_isOf
theorem dX12_passes_0 : decode cX12_passes 0 = .ok (.aload_n 0, 1) := by decide +kernel
theorem dX12_passes_1 : decode cX12_passes 1 = .ok (.iload_n 1, 1) := by decide +kernel
theorem dX12_passes_2 : decode cX12_passes 2 = .ok (.invokevirtual 339, 3) := by decide +kernel
theorem dX12_passes_5 : decode cX12_passes 5 = .ok (.ifCond .eq 11, 3) := by decide +kernel
theorem dX12_passes_8 : decode cX12_passes 8 = .ok (.aload_n 0, 1) := by decide +kernel
theorem dX12_passes_9 : decode cX12_passes 9 = .ok (.iload_n 2, 1) := by decide +kernel
theorem dX12_passes_10 : decode cX12_passes 10 = .ok (.invokevirtual 339, 3) := by decide +kernel
theorem dX12_passes_13 : decode cX12_passes 13 = .ok (.ifCond .ne 6, 3) := by decide +kernel
theorem dX12_passes_16 : decode cX12_passes 16 = .ok (.bipush (-3), 2) := by decide +kernel
theorem dX12_passes_18 : decode cX12_passes 18 = .ok (.ireturn, 1) := by decide +kernel
theorem dX12_passes_19 : decode cX12_passes 19 = .ok (.iload_n 1, 1) := by decide +kernel
theorem dX12_passes_20 : decode cX12_passes 20 = .ok (.iload_n 2, 1) := by decide +kernel
theorem dX12_passes_21 : decode cX12_passes 21 = .ok (.if_icmp .ne 5, 3) := by decide +kernel
theorem dX12_passes_24 : decode cX12_passes 24 = .ok (.iconst (-1), 1) := by decide +kernel
theorem dX12_passes_25 : decode cX12_passes 25 = .ok (.ireturn, 1) := by decide +kernel
theorem dX12_passes_26 : decode cX12_passes 26 = .ok (.iconst 1, 1) := by decide +kernel
theorem dX12_passes_27 : decode cX12_passes 27 = .ok (.iload_n 1, 1) := by decide +kernel
theorem dX12_passes_28 : decode cX12_passes 28 = .ok (.ishl, 1) := by decide +kernel
theorem dX12_passes_29 : decode cX12_passes 29 = .ok (.istore_n 3, 1) := by decide +kernel
theorem dX12_passes_30 : decode cX12_passes 30 = .ok (.iconst 0, 1) := by decide +kernel
theorem dX12_passes_31 : decode cX12_passes 31 = .ok (.istore 4, 2) := by decide +kernel
theorem dX12_passes_33 : decode cX12_passes 33 = .ok (.iload 4, 2) := by decide +kernel
theorem dX12_passes_35 : decode cX12_passes 35 = .ok (.aload_n 0, 1) := by decide +kernel
theorem dX12_passes_36 : decode cX12_passes 36 = .ok (.getfield 39, 3) := by decide +kernel
theorem dX12_passes_39 : decode cX12_passes 39 = .ok (.iconst 1, 1) := by decide +kernel
theorem dX12_passes_40 : decode cX12_passes 40 = .ok (.iaload, 1) := by decide +kernel
theorem dX12_passes_41 : decode cX12_passes 41 = .ok (.if_icmp .ge 28, 3) := by decide +kernel
theorem dX12_passes_44 : decode cX12_passes 44 = .ok (.aload_n 0, 1) := by decide +kernel
theorem dX12_passes_45 : decode cX12_passes 45 = .ok (.iload_n 3, 1) := by decide +kernel
theorem dX12_passes_46 : decode cX12_passes 46 = .ok (.iload 4, 2) := by decide +kernel
theorem dX12_passes_48 : decode cX12_passes 48 = .ok (.invokevirtual 424, 3) := by decide +kernel
theorem dX12_passes_51 : decode cX12_passes 51 = .ok (.istore_n 3, 1) := by decide +kernel
theorem dX12_passes_52 : decode cX12_passes 52 = .ok (.iload_n 3, 1) := by decide +kernel
theorem dX12_passes_53 : decode cX12_passes 53 = .ok (.iload_n 2, 1) := by decide +kernel
theorem dX12_passes_54 : decode cX12_passes 54 = .ok (.invokestatic 299, 3) := by decide +kernel
theorem dX12_passes_57 : decode cX12_passes 57 = .ok (.ifCond .eq 6, 3) := by decide +kernel
theorem dX12_passes_60 : decode cX12_passes 60 = .ok (.iload 4, 2) := by decide +kernel
theorem dX12_passes_62 : decode cX12_passes 62 = .ok (.ireturn, 1) := by decide +kernel
theorem dX12_passes_63 : decode cX12_passes 63 = .ok (.iinc 4 1, 3) := by decide +kernel
theorem dX12_passes_66 : decode cX12_passes 66 = .ok (.goto (-33), 3) := by decide +kernel
theorem dX12_passes_69 : decode cX12_passes 69 = .ok (.bipush (-2), 2) := by decide +kernel
theorem dX12_passes_71 : decode cX12_passes 71 = .ok (.ireturn, 1) := by decide +kernel
set_option maxRecDepth 20000 in
theorem ggX12_have_X12_isPerson : GoodIn wsX12_have wsX12_isPerson := goodIn_r _ [5, 6, 26, 27, 28, 29, 30, 31, 32, 33, 34, 35, 36, 37, 38, 39, 40, 41, 42, 43, 44, 45, 46, 47, 48, 49, 50, 51, 52, 53, 54, 55, 56, 57, 58, 59, 60, 61, 62, 63, 64, 65, 66, 67, 68, 69] (by decide +kernel) (by decide +kernel)
set_option maxRecDepth 20000 in
theorem gX12_have_X12_isPerson : GoodIn wsX12_have (wsV RX12 339 RX12 yX12_isPerson wsX12_isPerson) := goodIn_app (goodIn_of _ (by decide +kernel)) ggX12_have_X12_isPerson
set_option maxRecDepth 20000 in
theorem ggX12_have_X12_isHour : GoodIn wsX12_have wsX12_isHour := goodIn_r _ [10, 6, 26, 27, 28, 29, 30, 31, 32, 33, 34, 35, 36, 37, 38, 39, 40, 41, 42, 43, 44, 45, 46, 47, 48, 49, 50, 51, 52, 53, 54, 55, 56, 57, 58, 59, 60, 61, 62, 63, 64, 65, 66, 67, 68, 69] (by decide +kernel) (by decide +kernel)
set_option maxRecDepth 20000 in
theorem gX12_have_X12_isHour : GoodIn wsX12_have (wsV RX12 342 RX12 yX12_isHour wsX12_isHour) := goodIn_app (goodIn_of _ (by decide +kernel)) ggX12_have_X12_isHour
set_option maxRecDepth 20000 in
theorem ggX12_have_X12_passedIn : GoodIn wsX12_have wsX12_passedIn := goodIn_r _ [14, 6, 15, 16, 4, 17, 18, 19, 20, 21, 22, 23, 24, 25, 26, 27, 28, 29, 30, 31, 32, 33, 34, 35, 36, 37, 38, 39, 40, 41, 42, 43, 44, 45, 46, 47, 48, 49, 50, 51, 52, 53, 54, 55, 56, 57, 58, 59, 60, 61, 62, 63, 64, 65, 66, 67, 68, 69] (by decide +kernel) (by decide +kernel)
set_option maxRecDepth 20000 in
theorem gX12_have_X12_passedIn : GoodIn wsX12_have (wsV RX12 424 RX12 yX12_passedIn wsX12_passedIn) := goodIn_app (goodIn_of _ (by decide +kernel)) ggX12_have_X12_passedIn
theorem dX12_have_0 : decode cX12_have 0 = .ok (.aload_n 0, 1) := by decide +kernel
theorem dX12_have_1 : decode cX12_have 1 = .ok (.iload_n 1, 1) := by decide +kernel
theorem dX12_have_2 : decode cX12_have 2 = .ok (.invokevirtual 339, 3) := by decide +kernel
theorem dX12_have_5 : decode cX12_have 5 = .ok (.ifCond .eq 11, 3) := by decide +kernel
theorem dX12_have_8 : decode cX12_have 8 = .ok (.aload_n 0, 1) := by decide +kernel
theorem dX12_have_9 : decode cX12_have 9 = .ok (.iload_n 2, 1) := by decide +kernel
theorem dX12_have_10 : decode cX12_have 10 = .ok (.invokevirtual 342, 3) := by decide +kernel
theorem dX12_have_13 : decode cX12_have 13 = .ok (.ifCond .ne 5, 3) := by decide +kernel
theorem dX12_have_16 : decode cX12_have 16 = .ok (.iconst (-1), 1) := by decide +kernel
theorem dX12_have_17 : decode cX12_have 17 = .ok (.ireturn, 1) := by decide +kernel
theorem dX12_have_18 : decode cX12_have 18 = .ok (.iconst 1, 1) := by decide +kernel
theorem dX12_have_19 : decode cX12_have 19 = .ok (.iload_n 1, 1) := by decide +kernel
theorem dX12_have_20 : decode cX12_have 20 = .ok (.ishl, 1) := by decide +kernel
theorem dX12_have_21 : decode cX12_have 21 = .ok (.istore_n 3, 1) := by decide +kernel
theorem dX12_have_22 : decode cX12_have 22 = .ok (.iconst 0, 1) := by decide +kernel
theorem dX12_have_23 : decode cX12_have 23 = .ok (.istore 4, 2) := by decide +kernel
theorem dX12_have_25 : decode cX12_have 25 = .ok (.iload 4, 2) := by decide +kernel
theorem dX12_have_27 : decode cX12_have 27 = .ok (.iload_n 2, 1) := by decide +kernel
theorem dX12_have_28 : decode cX12_have 28 = .ok (.if_icmp .gt 17, 3) := by decide +kernel
theorem dX12_have_31 : decode cX12_have 31 = .ok (.aload_n 0, 1) := by decide +kernel
theorem dX12_have_32 : decode cX12_have 32 = .ok (.iload_n 3, 1) := by decide +kernel
theorem dX12_have_33 : decode cX12_have 33 = .ok (.iload 4, 2) := by decide +kernel
theorem dX12_have_35 : decode cX12_have 35 = .ok (.invokevirtual 424, 3) := by decide +kernel
theorem dX12_have_38 : decode cX12_have 38 = .ok (.istore_n 3, 1) := by decide +kernel
theorem dX12_have_39 : decode cX12_have 39 = .ok (.iinc 4 1, 3) := by decide +kernel
theorem dX12_have_42 : decode cX12_have 42 = .ok (.goto (-17), 3) := by decide +kernel
theorem dX12_have_45 : decode cX12_have 45 = .ok (.iload_n 3, 1) := by decide +kernel
theorem dX12_have_46 : decode cX12_have 46 = .ok (.ireturn, 1) := by decide +kernel
set_option maxRecDepth 20000 in
theorem ggX12_islands_X12_isTown : GoodIn wsX12_islands wsX12_isTown := goodIn_r _ [6, 1, 30, 31, 32, 33, 34, 35, 36, 37, 38, 39, 40, 41, 42, 43, 44, 45, 46, 47, 48, 49, 50, 51, 52, 53, 54, 55, 56, 57, 58, 59, 60, 61, 62, 63, 64, 65, 66, 67, 68, 69, 70, 71, 72, 73] (by decide +kernel) (by decide +kernel)
set_option maxRecDepth 20000 in
theorem gX12_islands_X12_isTown : GoodIn wsX12_islands (wsV RX12 360 RX12 yX12_isTown wsX12_isTown) := goodIn_app (goodIn_of _ (by decide +kernel)) ggX12_islands_X12_isTown
set_option maxRecDepth 20000 in
theorem ggX12_islands_X12_everybody : GoodIn wsX12_islands wsX12_everybody := goodIn_r _ [10, 1, 30, 31, 32, 33, 34, 35, 36, 37, 38, 39, 40, 41, 42, 43, 44, 45, 46, 47, 48, 49, 50, 51, 52, 53, 54, 55, 56, 57, 58, 59, 60, 61, 62, 63, 64, 65, 66, 67, 68, 69, 70, 71, 72, 73] (by decide +kernel) (by decide +kernel)
set_option maxRecDepth 20000 in
theorem gX12_islands_X12_everybody : GoodIn wsX12_islands (wsV RX12 333 RX12 yX12_everybody wsX12_everybody) := goodIn_app (goodIn_of _ (by decide +kernel)) ggX12_islands_X12_everybody
set_option maxRecDepth 20000 in
theorem ggX12_islands_X12_isOf : GoodIn wsX12_islands wsX12_isOf := goodIn_r _ [13] (by decide +kernel) (by decide +kernel)
set_option maxRecDepth 20000 in
theorem gX12_islands_X12_isOf : GoodIn wsX12_islands (va_wsS RX12 299 yX12_isOf wsX12_isOf) := goodIn_app (goodIn_of _ (by decide +kernel)) ggX12_islands_X12_isOf
set_option maxRecDepth 20000 in
theorem ggX12_islands_X12_meetsOf : GoodIn wsX12_islands wsX12_meetsOf := goodIn_r _ [17, 1, 18, 19, 20, 5, 21, 22, 23, 24, 25, 26, 27, 28, 29, 30, 31, 32, 33, 34, 35, 36, 37, 38, 39, 40, 41, 42, 43, 44, 45, 46, 47, 48, 49, 50, 51, 52, 53, 54, 55, 56, 57, 58, 59, 60, 61, 62, 63, 64, 65, 66, 67, 68, 69, 70, 71, 72, 73] (by decide +kernel) (by decide +kernel)
set_option maxRecDepth 20000 in
theorem gX12_islands_X12_meetsOf : GoodIn wsX12_islands (wsV RX12 350 RX12 yX12_meetsOf wsX12_meetsOf) := goodIn_app (goodIn_of _ (by decide +kernel)) ggX12_islands_X12_meetsOf
theorem dX12_islands_0 : decode cX12_islands 0 = .ok (.aload_n 0, 1) := by decide +kernel
theorem dX12_islands_1 : decode cX12_islands 1 = .ok (.invokevirtual 360, 3) := by decide +kernel
theorem dX12_islands_4 : decode cX12_islands 4 = .ok (.ifCond .ne 5, 3) := by decide +kernel
theorem dX12_islands_7 : decode cX12_islands 7 = .ok (.iconst (-1), 1) := by decide +kernel
theorem dX12_islands_8 : decode cX12_islands 8 = .ok (.ireturn, 1) := by decide +kernel
theorem dX12_islands_9 : decode cX12_islands 9 = .ok (.aload_n 0, 1) := by decide +kernel
theorem dX12_islands_10 : decode cX12_islands 10 = .ok (.invokevirtual 333, 3) := by decide +kernel
theorem dX12_islands_13 : decode cX12_islands 13 = .ok (.istore_n 1, 1) := by decide +kernel
theorem dX12_islands_14 : decode cX12_islands 14 = .ok (.iconst 0, 1) := by decide +kernel
theorem dX12_islands_15 : decode cX12_islands 15 = .ok (.istore_n 2, 1) := by decide +kernel
theorem dX12_islands_16 : decode cX12_islands 16 = .ok (.iload_n 1, 1) := by decide +kernel
theorem dX12_islands_17 : decode cX12_islands 17 = .ok (.ifCond .eq 74, 3) := by decide +kernel
theorem dX12_islands_20 : decode cX12_islands 20 = .ok (.iload_n 1, 1) := by decide +kernel
theorem dX12_islands_21 : decode cX12_islands 21 = .ok (.iload_n 1, 1) := by decide +kernel
theorem dX12_islands_22 : decode cX12_islands 22 = .ok (.ineg, 1) := by decide +kernel
theorem dX12_islands_23 : decode cX12_islands 23 = .ok (.iand, 1) := by decide +kernel
theorem dX12_islands_24 : decode cX12_islands 24 = .ok (.istore_n 3, 1) := by decide +kernel
theorem dX12_islands_25 : decode cX12_islands 25 = .ok (.iconst 0, 1) := by decide +kernel
theorem dX12_islands_26 : decode cX12_islands 26 = .ok (.istore 4, 2) := by decide +kernel
theorem dX12_islands_28 : decode cX12_islands 28 = .ok (.iload_n 3, 1) := by decide +kernel
theorem dX12_islands_29 : decode cX12_islands 29 = .ok (.iload 4, 2) := by decide +kernel
theorem dX12_islands_31 : decode cX12_islands 31 = .ok (.if_icmp .eq 48, 3) := by decide +kernel
theorem dX12_islands_34 : decode cX12_islands 34 = .ok (.iload_n 3, 1) := by decide +kernel
theorem dX12_islands_35 : decode cX12_islands 35 = .ok (.istore 4, 2) := by decide +kernel
theorem dX12_islands_37 : decode cX12_islands 37 = .ok (.iconst 0, 1) := by decide +kernel
theorem dX12_islands_38 : decode cX12_islands 38 = .ok (.istore 5, 2) := by decide +kernel
theorem dX12_islands_40 : decode cX12_islands 40 = .ok (.iload 5, 2) := by decide +kernel
theorem dX12_islands_42 : decode cX12_islands 42 = .ok (.aload_n 0, 1) := by decide +kernel
theorem dX12_islands_43 : decode cX12_islands 43 = .ok (.getfield 39, 3) := by decide +kernel
theorem dX12_islands_46 : decode cX12_islands 46 = .ok (.iconst 2, 1) := by decide +kernel
theorem dX12_islands_47 : decode cX12_islands 47 = .ok (.iaload, 1) := by decide +kernel
theorem dX12_islands_48 : decode cX12_islands 48 = .ok (.if_icmp .ge 28, 3) := by decide +kernel
theorem dX12_islands_51 : decode cX12_islands 51 = .ok (.iload 4, 2) := by decide +kernel
theorem dX12_islands_53 : decode cX12_islands 53 = .ok (.iload 5, 2) := by decide +kernel
theorem dX12_islands_55 : decode cX12_islands 55 = .ok (.invokestatic 299, 3) := by decide +kernel
theorem dX12_islands_58 : decode cX12_islands 58 = .ok (.ifCond .eq 12, 3) := by decide +kernel
theorem dX12_islands_61 : decode cX12_islands 61 = .ok (.iload_n 3, 1) := by decide +kernel
theorem dX12_islands_62 : decode cX12_islands 62 = .ok (.aload_n 0, 1) := by decide +kernel
theorem dX12_islands_63 : decode cX12_islands 63 = .ok (.iload 5, 2) := by decide +kernel
theorem dX12_islands_65 : decode cX12_islands 65 = .ok (.invokevirtual 350, 3) := by decide +kernel
theorem dX12_islands_68 : decode cX12_islands 68 = .ok (.ior, 1) := by decide +kernel
theorem dX12_islands_69 : decode cX12_islands 69 = .ok (.istore_n 3, 1) := by decide +kernel
theorem dX12_islands_70 : decode cX12_islands 70 = .ok (.iinc 5 1, 3) := by decide +kernel
theorem dX12_islands_73 : decode cX12_islands 73 = .ok (.goto (-33), 3) := by decide +kernel
theorem dX12_islands_76 : decode cX12_islands 76 = .ok (.goto (-48), 3) := by decide +kernel
theorem dX12_islands_79 : decode cX12_islands 79 = .ok (.iload_n 1, 1) := by decide +kernel
theorem dX12_islands_80 : decode cX12_islands 80 = .ok (.iload_n 3, 1) := by decide +kernel
theorem dX12_islands_81 : decode cX12_islands 81 = .ok (.iconst (-1), 1) := by decide +kernel
theorem dX12_islands_82 : decode cX12_islands 82 = .ok (.ixor, 1) := by decide +kernel
theorem dX12_islands_83 : decode cX12_islands 83 = .ok (.iand, 1) := by decide +kernel
theorem dX12_islands_84 : decode cX12_islands 84 = .ok (.istore_n 1, 1) := by decide +kernel
theorem dX12_islands_85 : decode cX12_islands 85 = .ok (.iinc 2 1, 3) := by decide +kernel
theorem dX12_islands_88 : decode cX12_islands 88 = .ok (.goto (-72), 3) := by decide +kernel
theorem dX12_islands_91 : decode cX12_islands 91 = .ok (.iload_n 2, 1) := by decide +kernel
theorem dX12_islands_92 : decode cX12_islands 92 = .ok (.ireturn, 1) := by decide +kernel
set_option maxRecDepth 20000 in
theorem ggX12_rounds_X12_isTown : GoodIn wsX12_rounds wsX12_isTown := goodIn_r _ [6, 7, 18, 19, 20, 21, 22, 23, 24, 25, 26, 27, 28, 29, 30, 31, 32, 33, 34, 35, 36, 37, 38, 39, 40, 41, 42, 43, 44, 45, 46, 47, 48, 49, 50, 51, 52, 53, 54, 55, 56, 57, 58, 59, 60, 61] (by decide +kernel) (by decide +kernel)
set_option maxRecDepth 20000 in
theorem gX12_rounds_X12_isTown : GoodIn wsX12_rounds (wsV RX12 360 RX12 yX12_isTown wsX12_isTown) := goodIn_app (goodIn_of _ (by decide +kernel)) ggX12_rounds_X12_isTown
set_option maxRecDepth 20000 in
theorem ggX12_rounds_X12_everybody : GoodIn wsX12_rounds wsX12_everybody := goodIn_r _ [11, 7, 18, 19, 20, 21, 22, 23, 24, 25, 26, 27, 28, 29, 30, 31, 32, 33, 34, 35, 36, 37, 38, 39, 40, 41, 42, 43, 44, 45, 46, 47, 48, 49, 50, 51, 52, 53, 54, 55, 56, 57, 58, 59, 60, 61] (by decide +kernel) (by decide +kernel)
set_option maxRecDepth 20000 in
theorem gX12_rounds_X12_everybody : GoodIn wsX12_rounds (wsV RX12 333 RX12 yX12_everybody wsX12_everybody) := goodIn_app (goodIn_of _ (by decide +kernel)) ggX12_rounds_X12_everybody
set_option maxRecDepth 20000 in
theorem ggX12_rounds_X12_in : GoodIn wsX12_rounds wsX12_in := goodIn_r _ [14] (by decide +kernel) (by decide +kernel)
set_option maxRecDepth 20000 in
theorem gX12_rounds_X12_in : GoodIn wsX12_rounds (va_wsS RX12 127 yX12_in wsX12_in) := goodIn_app (goodIn_of _ (by decide +kernel)) ggX12_rounds_X12_in
set_option maxRecDepth 20000 in
theorem ggX12_rounds_X12_bits : GoodIn wsX12_rounds wsX12_bits := goodIn_r _ [17] (by decide +kernel) (by decide +kernel)
set_option maxRecDepth 20000 in
theorem gX12_rounds_X12_bits : GoodIn wsX12_rounds (va_wsS RX12 326 yX12_bits wsX12_bits) := goodIn_app (goodIn_of _ (by decide +kernel)) ggX12_rounds_X12_bits
theorem dX12_rounds_0 : decode cX12_rounds 0 = .ok (.aload_n 0, 1) := by decide +kernel
theorem dX12_rounds_1 : decode cX12_rounds 1 = .ok (.invokevirtual 360, 3) := by decide +kernel
theorem dX12_rounds_4 : decode cX12_rounds 4 = .ok (.ifCond .eq 27, 3) := by decide +kernel
theorem dX12_rounds_7 : decode cX12_rounds 7 = .ok (.iload_n 1, 1) := by decide +kernel
theorem dX12_rounds_8 : decode cX12_rounds 8 = .ok (.ifCond .lt 23, 3) := by decide +kernel
theorem dX12_rounds_11 : decode cX12_rounds 11 = .ok (.iload_n 1, 1) := by decide +kernel
theorem dX12_rounds_12 : decode cX12_rounds 12 = .ok (.aload_n 0, 1) := by decide +kernel
theorem dX12_rounds_13 : decode cX12_rounds 13 = .ok (.invokevirtual 333, 3) := by decide +kernel
theorem dX12_rounds_16 : decode cX12_rounds 16 = .ok (.if_icmp .gt 15, 3) := by decide +kernel
theorem dX12_rounds_19 : decode cX12_rounds 19 = .ok (.iload_n 2, 1) := by decide +kernel
theorem dX12_rounds_20 : decode cX12_rounds 20 = .ok (.i2l, 1) := by decide +kernel
theorem dX12_rounds_21 : decode cX12_rounds 21 = .ok (.lconst 1, 1) := by decide +kernel
theorem dX12_rounds_22 : decode cX12_rounds 22 = .ok (.ldc2_w 427, 3) := by decide +kernel
theorem dX12_rounds_25 : decode cX12_rounds 25 = .ok (.invokestatic 127, 3) := by decide +kernel
theorem dX12_rounds_28 : decode cX12_rounds 28 = .ok (.ifCond .ne 5, 3) := by decide +kernel
theorem dX12_rounds_31 : decode cX12_rounds 31 = .ok (.iconst (-1), 1) := by decide +kernel
theorem dX12_rounds_32 : decode cX12_rounds 32 = .ok (.ireturn, 1) := by decide +kernel
theorem dX12_rounds_33 : decode cX12_rounds 33 = .ok (.iload_n 1, 1) := by decide +kernel
theorem dX12_rounds_34 : decode cX12_rounds 34 = .ok (.invokestatic 326, 3) := by decide +kernel
theorem dX12_rounds_37 : decode cX12_rounds 37 = .ok (.istore_n 3, 1) := by decide +kernel
theorem dX12_rounds_38 : decode cX12_rounds 38 = .ok (.iload_n 3, 1) := by decide +kernel
theorem dX12_rounds_39 : decode cX12_rounds 39 = .ok (.iconst 2, 1) := by decide +kernel
theorem dX12_rounds_40 : decode cX12_rounds 40 = .ok (.if_icmp .ge 5, 3) := by decide +kernel
theorem dX12_rounds_43 : decode cX12_rounds 43 = .ok (.iconst 0, 1) := by decide +kernel
theorem dX12_rounds_44 : decode cX12_rounds 44 = .ok (.ireturn, 1) := by decide +kernel
theorem dX12_rounds_45 : decode cX12_rounds 45 = .ok (.iload_n 3, 1) := by decide +kernel
theorem dX12_rounds_46 : decode cX12_rounds 46 = .ok (.iload_n 3, 1) := by decide +kernel
theorem dX12_rounds_47 : decode cX12_rounds 47 = .ok (.iconst 1, 1) := by decide +kernel
theorem dX12_rounds_48 : decode cX12_rounds 48 = .ok (.isub, 1) := by decide +kernel
theorem dX12_rounds_49 : decode cX12_rounds 49 = .ok (.imul, 1) := by decide +kernel
theorem dX12_rounds_50 : decode cX12_rounds 50 = .ok (.iconst 2, 1) := by decide +kernel
theorem dX12_rounds_51 : decode cX12_rounds 51 = .ok (.idiv, 1) := by decide +kernel
theorem dX12_rounds_52 : decode cX12_rounds 52 = .ok (.istore 4, 2) := by decide +kernel
theorem dX12_rounds_54 : decode cX12_rounds 54 = .ok (.iload_n 2, 1) := by decide +kernel
theorem dX12_rounds_55 : decode cX12_rounds 55 = .ok (.iload_n 3, 1) := by decide +kernel
theorem dX12_rounds_56 : decode cX12_rounds 56 = .ok (.iconst 2, 1) := by decide +kernel
theorem dX12_rounds_57 : decode cX12_rounds 57 = .ok (.idiv, 1) := by decide +kernel
theorem dX12_rounds_58 : decode cX12_rounds 58 = .ok (.if_icmp .ge 7, 3) := by decide +kernel
theorem dX12_rounds_61 : decode cX12_rounds 61 = .ok (.iload_n 2, 1) := by decide +kernel
theorem dX12_rounds_62 : decode cX12_rounds 62 = .ok (.goto 6, 3) := by decide +kernel
theorem dX12_rounds_65 : decode cX12_rounds 65 = .ok (.iload_n 3, 1) := by decide +kernel
theorem dX12_rounds_66 : decode cX12_rounds 66 = .ok (.iconst 2, 1) := by decide +kernel
theorem dX12_rounds_67 : decode cX12_rounds 67 = .ok (.idiv, 1) := by decide +kernel
theorem dX12_rounds_68 : decode cX12_rounds 68 = .ok (.istore 5, 2) := by decide +kernel
theorem dX12_rounds_70 : decode cX12_rounds 70 = .ok (.iload_n 3, 1) := by decide +kernel
theorem dX12_rounds_71 : decode cX12_rounds 71 = .ok (.iconst 2, 1) := by decide +kernel
theorem dX12_rounds_72 : decode cX12_rounds 72 = .ok (.irem, 1) := by decide +kernel
theorem dX12_rounds_73 : decode cX12_rounds 73 = .ok (.ifCond .ne 9, 3) := by decide +kernel
theorem dX12_rounds_76 : decode cX12_rounds 76 = .ok (.iload_n 3, 1) := by decide +kernel
theorem dX12_rounds_77 : decode cX12_rounds 77 = .ok (.iconst 1, 1) := by decide +kernel
theorem dX12_rounds_78 : decode cX12_rounds 78 = .ok (.isub, 1) := by decide +kernel
theorem dX12_rounds_79 : decode cX12_rounds 79 = .ok (.goto 4, 3) := by decide +kernel
theorem dX12_rounds_82 : decode cX12_rounds 82 = .ok (.iload_n 3, 1) := by decide +kernel
theorem dX12_rounds_83 : decode cX12_rounds 83 = .ok (.istore 6, 2) := by decide +kernel
theorem dX12_rounds_85 : decode cX12_rounds 85 = .ok (.iload 4, 2) := by decide +kernel
theorem dX12_rounds_87 : decode cX12_rounds 87 = .ok (.iload 5, 2) := by decide +kernel
theorem dX12_rounds_89 : decode cX12_rounds 89 = .ok (.iadd, 1) := by decide +kernel
theorem dX12_rounds_90 : decode cX12_rounds 90 = .ok (.iconst 1, 1) := by decide +kernel
theorem dX12_rounds_91 : decode cX12_rounds 91 = .ok (.isub, 1) := by decide +kernel
theorem dX12_rounds_92 : decode cX12_rounds 92 = .ok (.iload 5, 2) := by decide +kernel
theorem dX12_rounds_94 : decode cX12_rounds 94 = .ok (.idiv, 1) := by decide +kernel
theorem dX12_rounds_95 : decode cX12_rounds 95 = .ok (.istore 7, 2) := by decide +kernel
theorem dX12_rounds_97 : decode cX12_rounds 97 = .ok (.iload 7, 2) := by decide +kernel
theorem dX12_rounds_99 : decode cX12_rounds 99 = .ok (.iload 6, 2) := by decide +kernel
theorem dX12_rounds_101 : decode cX12_rounds 101 = .ok (.if_icmp .le 8, 3) := by decide +kernel
theorem dX12_rounds_104 : decode cX12_rounds 104 = .ok (.iload 7, 2) := by decide +kernel
theorem dX12_rounds_106 : decode cX12_rounds 106 = .ok (.goto 5, 3) := by decide +kernel
theorem dX12_rounds_109 : decode cX12_rounds 109 = .ok (.iload 6, 2) := by decide +kernel
theorem dX12_rounds_111 : decode cX12_rounds 111 = .ok (.ireturn, 1) := by decide +kernel
set_option maxRecDepth 20000 in
theorem ggX12_census_X12_isTown : GoodIn wsX12_census wsX12_isTown := goodIn_r _ [5, 6, 77, 78, 79, 80, 81, 82, 83, 84, 85, 86, 87, 88, 89, 90, 91, 92, 93, 94, 95, 96, 97, 98, 99, 100, 101, 102, 103, 104, 105, 106, 107, 108, 109, 110, 111, 112, 113, 114, 115, 116, 117, 118, 119, 120] (by decide +kernel) (by decide +kernel)
set_option maxRecDepth 20000 in
theorem gX12_census_X12_isTown : GoodIn wsX12_census (wsV RX12 360 RX12 yX12_isTown wsX12_isTown) := goodIn_app (goodIn_of _ (by decide +kernel)) ggX12_census_X12_isTown
set_option maxRecDepth 20000 in
theorem ggX12_census_X12_totalOf : GoodIn wsX12_census wsX12_totalOf := goodIn_r _ [10, 6, 11, 12, 13, 4, 14, 15, 16, 17, 18, 19, 20, 21, 22, 23, 24, 25, 26, 27, 28, 29, 30, 31, 32, 33, 34, 35, 36, 37, 38, 39, 40, 41, 42, 43, 44, 45, 46, 47, 48, 49, 50, 51, 52, 53, 54, 55, 56, 57, 58, 59, 60, 61, 62, 63, 64, 65, 66, 67, 68, 69, 70, 71, 72, 73, 74, 75, 76, 77, 78, 79, 80, 81, 82, 83, 84, 85, 86, 87, 88, 89, 90, 91, 92, 93, 94, 95, 96, 97, 98, 99, 100, 101, 102, 103, 104, 105, 106, 107, 108, 109, 110, 111, 112, 113, 114, 115, 116, 117, 118, 119, 120] (by decide +kernel) (by decide +kernel)
set_option maxRecDepth 20000 in
theorem gX12_census_X12_totalOf : GoodIn wsX12_census (wsV RX12 357 RX12 yX12_totalOf wsX12_totalOf) := goodIn_app (goodIn_of _ (by decide +kernel)) ggX12_census_X12_totalOf
theorem dX12_census_0 : decode cX12_census 0 = .ok (.aload_n 0, 1) := by decide +kernel
theorem dX12_census_1 : decode cX12_census 1 = .ok (.invokevirtual 360, 3) := by decide +kernel
theorem dX12_census_4 : decode cX12_census 4 = .ok (.ifCond .ne 5, 3) := by decide +kernel
theorem dX12_census_7 : decode cX12_census 7 = .ok (.iconst (-1), 1) := by decide +kernel
theorem dX12_census_8 : decode cX12_census 8 = .ok (.ireturn, 1) := by decide +kernel
theorem dX12_census_9 : decode cX12_census 9 = .ok (.aload_n 0, 1) := by decide +kernel
theorem dX12_census_10 : decode cX12_census 10 = .ok (.invokevirtual 357, 3) := by decide +kernel
theorem dX12_census_13 : decode cX12_census 13 = .ok (.istore_n 1, 1) := by decide +kernel
theorem dX12_census_14 : decode cX12_census 14 = .ok (.iconst 0, 1) := by decide +kernel
theorem dX12_census_15 : decode cX12_census 15 = .ok (.istore_n 2, 1) := by decide +kernel
theorem dX12_census_16 : decode cX12_census 16 = .ok (.iload_n 1, 1) := by decide +kernel
theorem dX12_census_17 : decode cX12_census 17 = .ok (.ifCond .ge 8, 3) := by decide +kernel
theorem dX12_census_20 : decode cX12_census 20 = .ok (.iload_n 1, 1) := by decide +kernel
theorem dX12_census_21 : decode cX12_census 21 = .ok (.ineg, 1) := by decide +kernel
theorem dX12_census_22 : decode cX12_census 22 = .ok (.goto 4, 3) := by decide +kernel
theorem dX12_census_25 : decode cX12_census 25 = .ok (.iload_n 1, 1) := by decide +kernel
theorem dX12_census_26 : decode cX12_census 26 = .ok (.istore_n 3, 1) := by decide +kernel
theorem dX12_census_27 : decode cX12_census 27 = .ok (.iconst 1, 1) := by decide +kernel
theorem dX12_census_28 : decode cX12_census 28 = .ok (.istore 4, 2) := by decide +kernel
theorem dX12_census_30 : decode cX12_census 30 = .ok (.iload 4, 2) := by decide +kernel
theorem dX12_census_32 : decode cX12_census 32 = .ok (.sipush 1000, 3) := by decide +kernel
theorem dX12_census_35 : decode cX12_census 35 = .ok (.if_icmp .ge 50, 3) := by decide +kernel
theorem dX12_census_38 : decode cX12_census 38 = .ok (.iload 4, 2) := by decide +kernel
theorem dX12_census_40 : decode cX12_census 40 = .ok (.iload 4, 2) := by decide +kernel
theorem dX12_census_42 : decode cX12_census 42 = .ok (.iconst 1, 1) := by decide +kernel
theorem dX12_census_43 : decode cX12_census 43 = .ok (.isub, 1) := by decide +kernel
theorem dX12_census_44 : decode cX12_census 44 = .ok (.imul, 1) := by decide +kernel
theorem dX12_census_45 : decode cX12_census 45 = .ok (.iload_n 1, 1) := by decide +kernel
theorem dX12_census_46 : decode cX12_census 46 = .ok (.isub, 1) := by decide +kernel
theorem dX12_census_47 : decode cX12_census 47 = .ok (.istore 5, 2) := by decide +kernel
theorem dX12_census_49 : decode cX12_census 49 = .ok (.iload 5, 2) := by decide +kernel
theorem dX12_census_51 : decode cX12_census 51 = .ok (.ifCond .ge 9, 3) := by decide +kernel
theorem dX12_census_54 : decode cX12_census 54 = .ok (.iload 5, 2) := by decide +kernel
theorem dX12_census_56 : decode cX12_census 56 = .ok (.ineg, 1) := by decide +kernel
theorem dX12_census_57 : decode cX12_census 57 = .ok (.goto 5, 3) := by decide +kernel
theorem dX12_census_60 : decode cX12_census 60 = .ok (.iload 5, 2) := by decide +kernel
theorem dX12_census_62 : decode cX12_census 62 = .ok (.istore 5, 2) := by decide +kernel
theorem dX12_census_64 : decode cX12_census 64 = .ok (.iload 5, 2) := by decide +kernel
theorem dX12_census_66 : decode cX12_census 66 = .ok (.iload_n 3, 1) := by decide +kernel
theorem dX12_census_67 : decode cX12_census 67 = .ok (.if_icmp .le 6, 3) := by decide +kernel
theorem dX12_census_70 : decode cX12_census 70 = .ok (.goto 9, 3) := by decide +kernel
theorem dX12_census_73 : decode cX12_census 73 = .ok (.iload 4, 2) := by decide +kernel
theorem dX12_census_75 : decode cX12_census 75 = .ok (.istore_n 2, 1) := by decide +kernel
theorem dX12_census_76 : decode cX12_census 76 = .ok (.iload 5, 2) := by decide +kernel
theorem dX12_census_78 : decode cX12_census 78 = .ok (.istore_n 3, 1) := by decide +kernel
theorem dX12_census_79 : decode cX12_census 79 = .ok (.iinc 4 1, 3) := by decide +kernel
theorem dX12_census_82 : decode cX12_census 82 = .ok (.goto (-52), 3) := by decide +kernel
theorem dX12_census_85 : decode cX12_census 85 = .ok (.iload_n 2, 1) := by decide +kernel
theorem dX12_census_86 : decode cX12_census 86 = .ok (.ireturn, 1) := by decide +kernel
theorem dX12_seed_0 : decode cX12_seed 0 = .ok (.iload_n 1, 1) := by decide +kernel
theorem dX12_seed_1 : decode cX12_seed 1 = .ok (.ifCond .ge 5, 3) := by decide +kernel
theorem dX12_seed_4 : decode cX12_seed 4 = .ok (.iconst (-1), 1) := by decide +kernel
theorem dX12_seed_5 : decode cX12_seed 5 = .ok (.ireturn, 1) := by decide +kernel
theorem dX12_seed_6 : decode cX12_seed 6 = .ok (.aload_n 0, 1) := by decide +kernel
theorem dX12_seed_7 : decode cX12_seed 7 = .ok (.getfield 429, 3) := by decide +kernel
theorem dX12_seed_10 : decode cX12_seed 10 = .ok (.istore_n 2, 1) := by decide +kernel
theorem dX12_seed_11 : decode cX12_seed 11 = .ok (.aload_n 0, 1) := by decide +kernel
theorem dX12_seed_12 : decode cX12_seed 12 = .ok (.iload_n 1, 1) := by decide +kernel
theorem dX12_seed_13 : decode cX12_seed 13 = .ok (.putfield 429, 3) := by decide +kernel
theorem dX12_seed_16 : decode cX12_seed 16 = .ok (.iload_n 2, 1) := by decide +kernel
theorem dX12_seed_17 : decode cX12_seed 17 = .ok (.ireturn, 1) := by decide +kernel
theorem dX12_draw_0 : decode cX12_draw 0 = .ok (.aload_n 0, 1) := by decide +kernel
theorem dX12_draw_1 : decode cX12_draw 1 = .ok (.aload_n 0, 1) := by decide +kernel
theorem dX12_draw_2 : decode cX12_draw 2 = .ok (.getfield 432, 3) := by decide +kernel
theorem dX12_draw_5 : decode cX12_draw 5 = .ok (.ldc2_w 436, 3) := by decide +kernel
theorem dX12_draw_8 : decode cX12_draw 8 = .ok (.lmul, 1) := by decide +kernel
theorem dX12_draw_9 : decode cX12_draw 9 = .ok (.ldc2_w 438, 3) := by decide +kernel
theorem dX12_draw_12 : decode cX12_draw 12 = .ok (.ladd, 1) := by decide +kernel
theorem dX12_draw_13 : decode cX12_draw 13 = .ok (.ldc2_w 440, 3) := by decide +kernel
theorem dX12_draw_16 : decode cX12_draw 16 = .ok (.lrem, 1) := by decide +kernel
theorem dX12_draw_17 : decode cX12_draw 17 = .ok (.putfield 432, 3) := by decide +kernel
theorem dX12_draw_20 : decode cX12_draw 20 = .ok (.aload_n 0, 1) := by decide +kernel
theorem dX12_draw_21 : decode cX12_draw 21 = .ok (.getfield 432, 3) := by decide +kernel
theorem dX12_draw_24 : decode cX12_draw 24 = .ok (.ldc2_w 442, 3) := by decide +kernel
theorem dX12_draw_27 : decode cX12_draw 27 = .ok (.ldiv, 1) := by decide +kernel
theorem dX12_draw_28 : decode cX12_draw 28 = .ok (.iload_n 1, 1) := by decide +kernel
theorem dX12_draw_29 : decode cX12_draw 29 = .ok (.i2l, 1) := by decide +kernel
theorem dX12_draw_30 : decode cX12_draw 30 = .ok (.lrem, 1) := by decide +kernel
theorem dX12_draw_31 : decode cX12_draw 31 = .ok (.l2i, 1) := by decide +kernel
theorem dX12_draw_32 : decode cX12_draw 32 = .ok (.ireturn, 1) := by decide +kernel
set_option maxRecDepth 20000 in
theorem ggX12_drawsDay_X12_draw : GoodIn wsX12_drawsDay wsX12_draw := goodIn_r _ [6, 7, 8, 9, 10, 11, 12, 13, 14, 15, 16, 17, 18, 19, 20, 21, 22, 23, 24, 25, 26, 27, 28, 29, 30, 31, 32, 33, 34, 35, 36, 37, 38, 39, 40, 41, 42, 43, 44, 45, 46, 47, 48, 49, 50, 51, 52, 53, 54, 55] (by decide +kernel) (by decide +kernel)
set_option maxRecDepth 20000 in
theorem gX12_drawsDay_X12_draw : GoodIn wsX12_drawsDay (wsV RX12 444 RX12 yX12_draw wsX12_draw) := goodIn_app (goodIn_of _ (by decide +kernel)) ggX12_drawsDay_X12_draw
theorem dX12_drawsDay_0 : decode cX12_drawsDay 0 = .ok (.iconst 0, 1) := by decide +kernel
theorem dX12_drawsDay_1 : decode cX12_drawsDay 1 = .ok (.istore_n 2, 1) := by decide +kernel
theorem dX12_drawsDay_2 : decode cX12_drawsDay 2 = .ok (.iload_n 2, 1) := by decide +kernel
theorem dX12_drawsDay_3 : decode cX12_drawsDay 3 = .ok (.aload_n 0, 1) := by decide +kernel
theorem dX12_drawsDay_4 : decode cX12_drawsDay 4 = .ok (.getfield 39, 3) := by decide +kernel
theorem dX12_drawsDay_7 : decode cX12_drawsDay 7 = .ok (.iconst 2, 1) := by decide +kernel
theorem dX12_drawsDay_8 : decode cX12_drawsDay 8 = .ok (.iaload, 1) := by decide +kernel
theorem dX12_drawsDay_9 : decode cX12_drawsDay 9 = .ok (.if_icmp .ge 86, 3) := by decide +kernel
theorem dX12_drawsDay_12 : decode cX12_drawsDay 12 = .ok (.iconst 0, 1) := by decide +kernel
theorem dX12_drawsDay_13 : decode cX12_drawsDay 13 = .ok (.istore_n 3, 1) := by decide +kernel
theorem dX12_drawsDay_14 : decode cX12_drawsDay 14 = .ok (.iload_n 3, 1) := by decide +kernel
theorem dX12_drawsDay_15 : decode cX12_drawsDay 15 = .ok (.aload_n 0, 1) := by decide +kernel
theorem dX12_drawsDay_16 : decode cX12_drawsDay 16 = .ok (.getfield 39, 3) := by decide +kernel
theorem dX12_drawsDay_19 : decode cX12_drawsDay 19 = .ok (.iconst 1, 1) := by decide +kernel
theorem dX12_drawsDay_20 : decode cX12_drawsDay 20 = .ok (.iaload, 1) := by decide +kernel
theorem dX12_drawsDay_21 : decode cX12_drawsDay 21 = .ok (.if_icmp .ge 68, 3) := by decide +kernel
theorem dX12_drawsDay_24 : decode cX12_drawsDay 24 = .ok (.aload_n 0, 1) := by decide +kernel
theorem dX12_drawsDay_25 : decode cX12_drawsDay 25 = .ok (.bipush 100, 2) := by decide +kernel
theorem dX12_drawsDay_27 : decode cX12_drawsDay 27 = .ok (.invokevirtual 444, 3) := by decide +kernel
theorem dX12_drawsDay_30 : decode cX12_drawsDay 30 = .ok (.iload_n 1, 1) := by decide +kernel
theorem dX12_drawsDay_31 : decode cX12_drawsDay 31 = .ok (.if_icmp .lt 6, 3) := by decide +kernel
theorem dX12_drawsDay_34 : decode cX12_drawsDay 34 = .ok (.goto 49, 3) := by decide +kernel
theorem dX12_drawsDay_37 : decode cX12_drawsDay 37 = .ok (.aload_n 0, 1) := by decide +kernel
theorem dX12_drawsDay_38 : decode cX12_drawsDay 38 = .ok (.aload_n 0, 1) := by decide +kernel
theorem dX12_drawsDay_39 : decode cX12_drawsDay 39 = .ok (.getfield 39, 3) := by decide +kernel
theorem dX12_drawsDay_42 : decode cX12_drawsDay 42 = .ok (.iconst 0, 1) := by decide +kernel
theorem dX12_drawsDay_43 : decode cX12_drawsDay 43 = .ok (.iaload, 1) := by decide +kernel
theorem dX12_drawsDay_44 : decode cX12_drawsDay 44 = .ok (.iconst 1, 1) := by decide +kernel
theorem dX12_drawsDay_45 : decode cX12_drawsDay 45 = .ok (.iadd, 1) := by decide +kernel
theorem dX12_drawsDay_46 : decode cX12_drawsDay 46 = .ok (.invokevirtual 444, 3) := by decide +kernel
theorem dX12_drawsDay_49 : decode cX12_drawsDay 49 = .ok (.istore 4, 2) := by decide +kernel
theorem dX12_drawsDay_51 : decode cX12_drawsDay 51 = .ok (.aload_n 0, 1) := by decide +kernel
theorem dX12_drawsDay_52 : decode cX12_drawsDay 52 = .ok (.getfield 39, 3) := by decide +kernel
theorem dX12_drawsDay_55 : decode cX12_drawsDay 55 = .ok (.bipush 10, 2) := by decide +kernel
theorem dX12_drawsDay_57 : decode cX12_drawsDay 57 = .ok (.bipush 12, 2) := by decide +kernel
theorem dX12_drawsDay_59 : decode cX12_drawsDay 59 = .ok (.iload_n 2, 1) := by decide +kernel
theorem dX12_drawsDay_60 : decode cX12_drawsDay 60 = .ok (.imul, 1) := by decide +kernel
theorem dX12_drawsDay_61 : decode cX12_drawsDay 61 = .ok (.iadd, 1) := by decide +kernel
theorem dX12_drawsDay_62 : decode cX12_drawsDay 62 = .ok (.iload_n 3, 1) := by decide +kernel
theorem dX12_drawsDay_63 : decode cX12_drawsDay 63 = .ok (.iadd, 1) := by decide +kernel
theorem dX12_drawsDay_64 : decode cX12_drawsDay 64 = .ok (.iload 4, 2) := by decide +kernel
theorem dX12_drawsDay_66 : decode cX12_drawsDay 66 = .ok (.aload_n 0, 1) := by decide +kernel
theorem dX12_drawsDay_67 : decode cX12_drawsDay 67 = .ok (.getfield 39, 3) := by decide +kernel
theorem dX12_drawsDay_70 : decode cX12_drawsDay 70 = .ok (.iconst 0, 1) := by decide +kernel
theorem dX12_drawsDay_71 : decode cX12_drawsDay 71 = .ok (.iaload, 1) := by decide +kernel
theorem dX12_drawsDay_72 : decode cX12_drawsDay 72 = .ok (.if_icmp .ne 8, 3) := by decide +kernel
theorem dX12_drawsDay_75 : decode cX12_drawsDay 75 = .ok (.bipush 99, 2) := by decide +kernel
theorem dX12_drawsDay_77 : decode cX12_drawsDay 77 = .ok (.goto 5, 3) := by decide +kernel
theorem dX12_drawsDay_80 : decode cX12_drawsDay 80 = .ok (.iload 4, 2) := by decide +kernel
theorem dX12_drawsDay_82 : decode cX12_drawsDay 82 = .ok (.iastore, 1) := by decide +kernel
theorem dX12_drawsDay_83 : decode cX12_drawsDay 83 = .ok (.iinc 3 1, 3) := by decide +kernel
theorem dX12_drawsDay_86 : decode cX12_drawsDay 86 = .ok (.goto (-72), 3) := by decide +kernel
theorem dX12_drawsDay_89 : decode cX12_drawsDay 89 = .ok (.iinc 2 1, 3) := by decide +kernel
theorem dX12_drawsDay_92 : decode cX12_drawsDay 92 = .ok (.goto (-90), 3) := by decide +kernel
theorem dX12_drawsDay_95 : decode cX12_drawsDay 95 = .ok (.return_, 1) := by decide +kernel
set_option maxRecDepth 20000 in
theorem ggX12_drawn_X12_isTown : GoodIn wsX12_drawn wsX12_isTown := goodIn_r _ [13, 8, 99, 100, 101, 102, 103, 104, 105, 106, 107, 108, 109, 110, 111, 112, 113, 114, 115, 116, 117, 118, 119, 120, 121, 122, 123, 124, 125, 126, 127, 128, 129, 130, 131, 132, 133, 134, 135, 136, 137, 138, 139, 140, 141, 142] (by decide +kernel) (by decide +kernel)
set_option maxRecDepth 20000 in
theorem gX12_drawn_X12_isTown : GoodIn wsX12_drawn (wsV RX12 360 RX12 yX12_isTown wsX12_isTown) := goodIn_app (goodIn_of _ (by decide +kernel)) ggX12_drawn_X12_isTown
set_option maxRecDepth 20000 in
theorem ggX12_drawn_X12_in : GoodIn wsX12_drawn wsX12_in := goodIn_r _ [16] (by decide +kernel) (by decide +kernel)
set_option maxRecDepth 20000 in
theorem gX12_drawn_X12_in : GoodIn wsX12_drawn (va_wsS RX12 127 yX12_in wsX12_in) := goodIn_app (goodIn_of _ (by decide +kernel)) ggX12_drawn_X12_in
set_option maxRecDepth 20000 in
theorem ggX12_drawn_X12_totalOf : GoodIn wsX12_drawn wsX12_totalOf := goodIn_r _ [20, 8, 21, 22, 23, 12, 24, 25, 26, 27, 28, 29, 30, 31, 32, 33, 34, 35, 36, 37, 38, 39, 40, 41, 42, 43, 44, 45, 46, 47, 48, 49, 50, 51, 52, 53, 54, 55, 56, 57, 58, 59, 60, 61, 62, 63, 64, 65, 66, 67, 68, 69, 70, 71, 72, 73, 74, 75, 76, 77, 78, 79, 80, 81, 82, 83, 84, 85, 86, 99, 100, 101, 102, 103, 104, 105, 106, 107, 108, 109, 110, 111, 112, 113, 114, 115, 116, 117, 118, 119, 120, 121, 122, 123, 124, 125, 126, 127, 128, 129, 130, 131, 132, 133, 134, 135, 136, 137, 138, 139, 140, 141, 142] (by decide +kernel) (by decide +kernel)
set_option maxRecDepth 20000 in
theorem gX12_drawn_X12_totalOf : GoodIn wsX12_drawn (wsV RX12 357 RX12 yX12_totalOf wsX12_totalOf) := goodIn_app (goodIn_of _ (by decide +kernel)) ggX12_drawn_X12_totalOf
set_option maxRecDepth 20000 in
theorem ggX12_drawn_X12_drawsDay : GoodIn wsX12_drawn wsX12_drawsDay := goodIn_r _ [90, 8, 91, 92, 93, 12, 94, 6, 95, 96, 97, 98, 99, 100, 101, 102, 103, 104, 105, 106, 107, 108, 109, 110, 111, 112, 113, 114, 115, 116, 117, 118, 119, 120, 121, 122, 123, 124, 125, 126, 127, 128, 129, 130, 131, 132, 133, 134, 135, 136, 137, 138, 139, 140, 141, 142] (by decide +kernel) (by decide +kernel)
set_option maxRecDepth 20000 in
theorem gX12_drawn_X12_drawsDay : GoodIn wsX12_drawn (wsV RX12 451 RX12 yX12_drawsDay wsX12_drawsDay) := goodIn_app (goodIn_of _ (by decide +kernel)) ggX12_drawn_X12_drawsDay
theorem dX12_drawn_0 : decode cX12_drawn 0 = .ok (.aload_n 0, 1) := by decide +kernel
theorem dX12_drawn_1 : decode cX12_drawn 1 = .ok (.invokevirtual 360, 3) := by decide +kernel
theorem dX12_drawn_4 : decode cX12_drawn 4 = .ok (.ifCond .eq 39, 3) := by decide +kernel
theorem dX12_drawn_7 : decode cX12_drawn 7 = .ok (.iload_n 1, 1) := by decide +kernel
theorem dX12_drawn_8 : decode cX12_drawn 8 = .ok (.i2l, 1) := by decide +kernel
theorem dX12_drawn_9 : decode cX12_drawn 9 = .ok (.lconst 1, 1) := by decide +kernel
theorem dX12_drawn_10 : decode cX12_drawn 10 = .ok (.ldc2_w 447, 3) := by decide +kernel
theorem dX12_drawn_13 : decode cX12_drawn 13 = .ok (.invokestatic 127, 3) := by decide +kernel
theorem dX12_drawn_16 : decode cX12_drawn 16 = .ok (.ifCond .eq 27, 3) := by decide +kernel
theorem dX12_drawn_19 : decode cX12_drawn 19 = .ok (.iload_n 2, 1) := by decide +kernel
theorem dX12_drawn_20 : decode cX12_drawn 20 = .ok (.i2l, 1) := by decide +kernel
theorem dX12_drawn_21 : decode cX12_drawn 21 = .ok (.lconst 0, 1) := by decide +kernel
theorem dX12_drawn_22 : decode cX12_drawn 22 = .ok (.ldc2_w 449, 3) := by decide +kernel
theorem dX12_drawn_25 : decode cX12_drawn 25 = .ok (.invokestatic 127, 3) := by decide +kernel
theorem dX12_drawn_28 : decode cX12_drawn 28 = .ok (.ifCond .eq 15, 3) := by decide +kernel
theorem dX12_drawn_31 : decode cX12_drawn 31 = .ok (.iload_n 3, 1) := by decide +kernel
theorem dX12_drawn_32 : decode cX12_drawn 32 = .ok (.i2l, 1) := by decide +kernel
theorem dX12_drawn_33 : decode cX12_drawn 33 = .ok (.lconst 0, 1) := by decide +kernel
theorem dX12_drawn_34 : decode cX12_drawn 34 = .ok (.ldc2_w 379, 3) := by decide +kernel
theorem dX12_drawn_37 : decode cX12_drawn 37 = .ok (.invokestatic 127, 3) := by decide +kernel
theorem dX12_drawn_40 : decode cX12_drawn 40 = .ok (.ifCond .ne 7, 3) := by decide +kernel
theorem dX12_drawn_43 : decode cX12_drawn 43 = .ok (.ldc_w 356, 3) := by decide +kernel
theorem dX12_drawn_46 : decode cX12_drawn 46 = .ok (.ireturn, 1) := by decide +kernel
theorem dX12_drawn_47 : decode cX12_drawn 47 = .ok (.aload_n 0, 1) := by decide +kernel
theorem dX12_drawn_48 : decode cX12_drawn 48 = .ok (.aload_n 0, 1) := by decide +kernel
theorem dX12_drawn_49 : decode cX12_drawn 49 = .ok (.getfield 429, 3) := by decide +kernel
theorem dX12_drawn_52 : decode cX12_drawn 52 = .ok (.i2l, 1) := by decide +kernel
theorem dX12_drawn_53 : decode cX12_drawn 53 = .ok (.putfield 432, 3) := by decide +kernel
theorem dX12_drawn_56 : decode cX12_drawn 56 = .ok (.aload_n 0, 1) := by decide +kernel
theorem dX12_drawn_57 : decode cX12_drawn 57 = .ok (.invokevirtual 357, 3) := by decide +kernel
theorem dX12_drawn_60 : decode cX12_drawn 60 = .ok (.istore 4, 2) := by decide +kernel
theorem dX12_drawn_62 : decode cX12_drawn 62 = .ok (.iconst 0, 1) := by decide +kernel
theorem dX12_drawn_63 : decode cX12_drawn 63 = .ok (.istore 5, 2) := by decide +kernel
theorem dX12_drawn_65 : decode cX12_drawn 65 = .ok (.iconst 0, 1) := by decide +kernel
theorem dX12_drawn_66 : decode cX12_drawn 66 = .ok (.istore 6, 2) := by decide +kernel
theorem dX12_drawn_68 : decode cX12_drawn 68 = .ok (.iconst 0, 1) := by decide +kernel
theorem dX12_drawn_69 : decode cX12_drawn 69 = .ok (.istore 7, 2) := by decide +kernel
theorem dX12_drawn_71 : decode cX12_drawn 71 = .ok (.iconst 0, 1) := by decide +kernel
theorem dX12_drawn_72 : decode cX12_drawn 72 = .ok (.istore 8, 2) := by decide +kernel
theorem dX12_drawn_74 : decode cX12_drawn 74 = .ok (.iload 8, 2) := by decide +kernel
theorem dX12_drawn_76 : decode cX12_drawn 76 = .ok (.sipush 130, 3) := by decide +kernel
theorem dX12_drawn_79 : decode cX12_drawn 79 = .ok (.if_icmp .ge 23, 3) := by decide +kernel
theorem dX12_drawn_82 : decode cX12_drawn 82 = .ok (.aload_n 0, 1) := by decide +kernel
theorem dX12_drawn_83 : decode cX12_drawn 83 = .ok (.getfield 67, 3) := by decide +kernel
theorem dX12_drawn_86 : decode cX12_drawn 86 = .ok (.iload 8, 2) := by decide +kernel
theorem dX12_drawn_88 : decode cX12_drawn 88 = .ok (.aload_n 0, 1) := by decide +kernel
theorem dX12_drawn_89 : decode cX12_drawn 89 = .ok (.getfield 39, 3) := by decide +kernel
theorem dX12_drawn_92 : decode cX12_drawn 92 = .ok (.iload 8, 2) := by decide +kernel
theorem dX12_drawn_94 : decode cX12_drawn 94 = .ok (.iaload, 1) := by decide +kernel
theorem dX12_drawn_95 : decode cX12_drawn 95 = .ok (.iastore, 1) := by decide +kernel
theorem dX12_drawn_96 : decode cX12_drawn 96 = .ok (.iinc 8 1, 3) := by decide +kernel
theorem dX12_drawn_99 : decode cX12_drawn 99 = .ok (.goto (-25), 3) := by decide +kernel
theorem dX12_drawn_102 : decode cX12_drawn 102 = .ok (.iconst 0, 1) := by decide +kernel
theorem dX12_drawn_103 : decode cX12_drawn 103 = .ok (.istore 8, 2) := by decide +kernel
theorem dX12_drawn_105 : decode cX12_drawn 105 = .ok (.iload 8, 2) := by decide +kernel
theorem dX12_drawn_107 : decode cX12_drawn 107 = .ok (.iload_n 1, 1) := by decide +kernel
theorem dX12_drawn_108 : decode cX12_drawn 108 = .ok (.if_icmp .ge 92, 3) := by decide +kernel
theorem dX12_drawn_111 : decode cX12_drawn 111 = .ok (.aload_n 0, 1) := by decide +kernel
theorem dX12_drawn_112 : decode cX12_drawn 112 = .ok (.iload_n 2, 1) := by decide +kernel
theorem dX12_drawn_113 : decode cX12_drawn 113 = .ok (.invokevirtual 451, 3) := by decide +kernel
theorem dX12_drawn_116 : decode cX12_drawn 116 = .ok (.aload_n 0, 1) := by decide +kernel
theorem dX12_drawn_117 : decode cX12_drawn 117 = .ok (.invokevirtual 357, 3) := by decide +kernel
theorem dX12_drawn_120 : decode cX12_drawn 120 = .ok (.istore 9, 2) := by decide +kernel
theorem dX12_drawn_122 : decode cX12_drawn 122 = .ok (.iload 5, 2) := by decide +kernel
theorem dX12_drawn_124 : decode cX12_drawn 124 = .ok (.iload 9, 2) := by decide +kernel
theorem dX12_drawn_126 : decode cX12_drawn 126 = .ok (.iadd, 1) := by decide +kernel
theorem dX12_drawn_127 : decode cX12_drawn 127 = .ok (.istore 5, 2) := by decide +kernel
theorem dX12_drawn_129 : decode cX12_drawn 129 = .ok (.iload 6, 2) := by decide +kernel
theorem dX12_drawn_131 : decode cX12_drawn 131 = .ok (.iload 9, 2) := by decide +kernel
theorem dX12_drawn_133 : decode cX12_drawn 133 = .ok (.iconst 2, 1) := by decide +kernel
theorem dX12_drawn_134 : decode cX12_drawn 134 = .ok (.irem, 1) := by decide +kernel
theorem dX12_drawn_135 : decode cX12_drawn 135 = .ok (.ifCond .eq 7, 3) := by decide +kernel
theorem dX12_drawn_138 : decode cX12_drawn 138 = .ok (.iconst 1, 1) := by decide +kernel
theorem dX12_drawn_139 : decode cX12_drawn 139 = .ok (.goto 4, 3) := by decide +kernel
theorem dX12_drawn_142 : decode cX12_drawn 142 = .ok (.iconst 0, 1) := by decide +kernel
theorem dX12_drawn_143 : decode cX12_drawn 143 = .ok (.iadd, 1) := by decide +kernel
theorem dX12_drawn_144 : decode cX12_drawn 144 = .ok (.istore 6, 2) := by decide +kernel
theorem dX12_drawn_146 : decode cX12_drawn 146 = .ok (.iload 7, 2) := by decide +kernel
theorem dX12_drawn_148 : decode cX12_drawn 148 = .ok (.iload 9, 2) := by decide +kernel
theorem dX12_drawn_150 : decode cX12_drawn 150 = .ok (.iload 4, 2) := by decide +kernel
theorem dX12_drawn_152 : decode cX12_drawn 152 = .ok (.if_icmp .ne 7, 3) := by decide +kernel
theorem dX12_drawn_155 : decode cX12_drawn 155 = .ok (.iconst 1, 1) := by decide +kernel
theorem dX12_drawn_156 : decode cX12_drawn 156 = .ok (.goto 4, 3) := by decide +kernel
theorem dX12_drawn_159 : decode cX12_drawn 159 = .ok (.iconst 0, 1) := by decide +kernel
theorem dX12_drawn_160 : decode cX12_drawn 160 = .ok (.iadd, 1) := by decide +kernel
theorem dX12_drawn_161 : decode cX12_drawn 161 = .ok (.istore 7, 2) := by decide +kernel
theorem dX12_drawn_163 : decode cX12_drawn 163 = .ok (.iconst 0, 1) := by decide +kernel
theorem dX12_drawn_164 : decode cX12_drawn 164 = .ok (.istore 10, 2) := by decide +kernel
theorem dX12_drawn_166 : decode cX12_drawn 166 = .ok (.iload 10, 2) := by decide +kernel
theorem dX12_drawn_168 : decode cX12_drawn 168 = .ok (.sipush 130, 3) := by decide +kernel
theorem dX12_drawn_171 : decode cX12_drawn 171 = .ok (.if_icmp .ge 23, 3) := by decide +kernel
theorem dX12_drawn_174 : decode cX12_drawn 174 = .ok (.aload_n 0, 1) := by decide +kernel
theorem dX12_drawn_175 : decode cX12_drawn 175 = .ok (.getfield 39, 3) := by decide +kernel
theorem dX12_drawn_178 : decode cX12_drawn 178 = .ok (.iload 10, 2) := by decide +kernel
theorem dX12_drawn_180 : decode cX12_drawn 180 = .ok (.aload_n 0, 1) := by decide +kernel
theorem dX12_drawn_181 : decode cX12_drawn 181 = .ok (.getfield 67, 3) := by decide +kernel
theorem dX12_drawn_184 : decode cX12_drawn 184 = .ok (.iload 10, 2) := by decide +kernel
theorem dX12_drawn_186 : decode cX12_drawn 186 = .ok (.iaload, 1) := by decide +kernel
theorem dX12_drawn_187 : decode cX12_drawn 187 = .ok (.iastore, 1) := by decide +kernel
theorem dX12_drawn_188 : decode cX12_drawn 188 = .ok (.iinc 10 1, 3) := by decide +kernel
theorem dX12_drawn_191 : decode cX12_drawn 191 = .ok (.goto (-25), 3) := by decide +kernel
theorem dX12_drawn_194 : decode cX12_drawn 194 = .ok (.iinc 8 1, 3) := by decide +kernel
theorem dX12_drawn_197 : decode cX12_drawn 197 = .ok (.goto (-92), 3) := by decide +kernel
theorem dX12_drawn_200 : decode cX12_drawn 200 = .ok (.iload_n 3, 1) := by decide +kernel
theorem dX12_drawn_201 : decode cX12_drawn 201 = .ok (.ifCond .ne 8, 3) := by decide +kernel
theorem dX12_drawn_204 : decode cX12_drawn 204 = .ok (.iload 5, 2) := by decide +kernel
theorem dX12_drawn_206 : decode cX12_drawn 206 = .ok (.goto 15, 3) := by decide +kernel
theorem dX12_drawn_209 : decode cX12_drawn 209 = .ok (.iload_n 3, 1) := by decide +kernel
theorem dX12_drawn_210 : decode cX12_drawn 210 = .ok (.iconst 1, 1) := by decide +kernel
theorem dX12_drawn_211 : decode cX12_drawn 211 = .ok (.if_icmp .ne 8, 3) := by decide +kernel
theorem dX12_drawn_214 : decode cX12_drawn 214 = .ok (.iload 6, 2) := by decide +kernel
theorem dX12_drawn_216 : decode cX12_drawn 216 = .ok (.goto 5, 3) := by decide +kernel
theorem dX12_drawn_219 : decode cX12_drawn 219 = .ok (.iload 7, 2) := by decide +kernel
theorem dX12_drawn_221 : decode cX12_drawn 221 = .ok (.ireturn, 1) := by decide +kernel
set_option maxRecDepth 20000 in
theorem ggX12_count_X12_gathersTwos : GoodIn wsX12_count wsX12_gathersTwos := goodIn_r _ [12, 4, 1, 13, 14, 15, 16, 17, 11, 18, 19, 20, 21, 22, 23, 24, 25, 26, 27, 28, 29, 30, 31, 32, 33, 34, 35, 36, 37, 38, 39, 40, 41, 42, 43, 44, 45, 46, 47, 48, 49, 50, 51, 52, 53, 54, 55, 56, 57, 58, 59, 60, 61, 62, 63, 64, 65, 66, 67, 68, 69, 70] (by decide +kernel) (by decide +kernel)
set_option maxRecDepth 20000 in
theorem gX12_count_X12_gathersTwos : GoodIn wsX12_count (wsV RX12 406 RX12 yX12_gathersTwos wsX12_gathersTwos) := goodIn_app (goodIn_of _ (by decide +kernel)) ggX12_count_X12_gathersTwos
theorem dX12_count_0 : decode cX12_count 0 = .ok (.iconst 0, 1) := by decide +kernel
theorem dX12_count_1 : decode cX12_count 1 = .ok (.istore_n 2, 1) := by decide +kernel
theorem dX12_count_2 : decode cX12_count 2 = .ok (.iload_n 1, 1) := by decide +kernel
theorem dX12_count_3 : decode cX12_count 3 = .ok (.tableswitch 170 0 12 #[65, 65, 65, 72, 77, 82, 89, 96, 105, 114, 155, 160, 165], 65) := by decide +kernel
theorem dX12_count_68 : decode cX12_count 68 = .ok (.aload_n 0, 1) := by decide +kernel
theorem dX12_count_69 : decode cX12_count 69 = .ok (.getfield 39, 3) := by decide +kernel
theorem dX12_count_72 : decode cX12_count 72 = .ok (.iload_n 1, 1) := by decide +kernel
theorem dX12_count_73 : decode cX12_count 73 = .ok (.iaload, 1) := by decide +kernel
theorem dX12_count_74 : decode cX12_count 74 = .ok (.ireturn, 1) := by decide +kernel
theorem dX12_count_75 : decode cX12_count 75 = .ok (.aload_n 0, 1) := by decide +kernel
theorem dX12_count_76 : decode cX12_count 76 = .ok (.getfield 267, 3) := by decide +kernel
theorem dX12_count_79 : decode cX12_count 79 = .ok (.ireturn, 1) := by decide +kernel
theorem dX12_count_80 : decode cX12_count 80 = .ok (.aload_n 0, 1) := by decide +kernel
theorem dX12_count_81 : decode cX12_count 81 = .ok (.getfield 42, 3) := by decide +kernel
theorem dX12_count_84 : decode cX12_count 84 = .ok (.ireturn, 1) := by decide +kernel
theorem dX12_count_85 : decode cX12_count 85 = .ok (.aload_n 0, 1) := by decide +kernel
theorem dX12_count_86 : decode cX12_count 86 = .ok (.getfield 39, 3) := by decide +kernel
theorem dX12_count_89 : decode cX12_count 89 = .ok (.iconst 3, 1) := by decide +kernel
theorem dX12_count_90 : decode cX12_count 90 = .ok (.iaload, 1) := by decide +kernel
theorem dX12_count_91 : decode cX12_count 91 = .ok (.ireturn, 1) := by decide +kernel
theorem dX12_count_92 : decode cX12_count 92 = .ok (.aload_n 0, 1) := by decide +kernel
theorem dX12_count_93 : decode cX12_count 93 = .ok (.getfield 39, 3) := by decide +kernel
theorem dX12_count_96 : decode cX12_count 96 = .ok (.iconst 4, 1) := by decide +kernel
theorem dX12_count_97 : decode cX12_count 97 = .ok (.iaload, 1) := by decide +kernel
theorem dX12_count_98 : decode cX12_count 98 = .ok (.ireturn, 1) := by decide +kernel
theorem dX12_count_99 : decode cX12_count 99 = .ok (.aload_n 0, 1) := by decide +kernel
theorem dX12_count_100 : decode cX12_count 100 = .ok (.invokevirtual 406, 3) := by decide +kernel
theorem dX12_count_103 : decode cX12_count 103 = .ok (.aload_n 0, 1) := by decide +kernel
theorem dX12_count_104 : decode cX12_count 104 = .ok (.getfield 403, 3) := by decide +kernel
theorem dX12_count_107 : decode cX12_count 107 = .ok (.ireturn, 1) := by decide +kernel
theorem dX12_count_108 : decode cX12_count 108 = .ok (.aload_n 0, 1) := by decide +kernel
theorem dX12_count_109 : decode cX12_count 109 = .ok (.getfield 39, 3) := by decide +kernel
theorem dX12_count_112 : decode cX12_count 112 = .ok (.sipush 210, 3) := by decide +kernel
theorem dX12_count_115 : decode cX12_count 115 = .ok (.iaload, 1) := by decide +kernel
theorem dX12_count_116 : decode cX12_count 116 = .ok (.ireturn, 1) := by decide +kernel
theorem dX12_count_117 : decode cX12_count 117 = .ok (.iconst 0, 1) := by decide +kernel
theorem dX12_count_118 : decode cX12_count 118 = .ok (.istore_n 3, 1) := by decide +kernel
theorem dX12_count_119 : decode cX12_count 119 = .ok (.iload_n 3, 1) := by decide +kernel
theorem dX12_count_120 : decode cX12_count 120 = .ok (.aload_n 0, 1) := by decide +kernel
theorem dX12_count_121 : decode cX12_count 121 = .ok (.getfield 39, 3) := by decide +kernel
theorem dX12_count_124 : decode cX12_count 124 = .ok (.iconst 2, 1) := by decide +kernel
theorem dX12_count_125 : decode cX12_count 125 = .ok (.iaload, 1) := by decide +kernel
theorem dX12_count_126 : decode cX12_count 126 = .ok (.if_icmp .ge 30, 3) := by decide +kernel
theorem dX12_count_129 : decode cX12_count 129 = .ok (.iload_n 2, 1) := by decide +kernel
theorem dX12_count_130 : decode cX12_count 130 = .ok (.aload_n 0, 1) := by decide +kernel
theorem dX12_count_131 : decode cX12_count 131 = .ok (.getfield 39, 3) := by decide +kernel
theorem dX12_count_134 : decode cX12_count 134 = .ok (.sipush 200, 3) := by decide +kernel
theorem dX12_count_137 : decode cX12_count 137 = .ok (.iload_n 3, 1) := by decide +kernel
theorem dX12_count_138 : decode cX12_count 138 = .ok (.iadd, 1) := by decide +kernel
theorem dX12_count_139 : decode cX12_count 139 = .ok (.iaload, 1) := by decide +kernel
theorem dX12_count_140 : decode cX12_count 140 = .ok (.ifCond .ge 7, 3) := by decide +kernel
theorem dX12_count_143 : decode cX12_count 143 = .ok (.iconst 0, 1) := by decide +kernel
theorem dX12_count_144 : decode cX12_count 144 = .ok (.goto 4, 3) := by decide +kernel
theorem dX12_count_147 : decode cX12_count 147 = .ok (.iconst 1, 1) := by decide +kernel
theorem dX12_count_148 : decode cX12_count 148 = .ok (.iadd, 1) := by decide +kernel
theorem dX12_count_149 : decode cX12_count 149 = .ok (.istore_n 2, 1) := by decide +kernel
theorem dX12_count_150 : decode cX12_count 150 = .ok (.iinc 3 1, 3) := by decide +kernel
theorem dX12_count_153 : decode cX12_count 153 = .ok (.goto (-34), 3) := by decide +kernel
theorem dX12_count_156 : decode cX12_count 156 = .ok (.iload_n 2, 1) := by decide +kernel
theorem dX12_count_157 : decode cX12_count 157 = .ok (.ireturn, 1) := by decide +kernel
theorem dX12_count_158 : decode cX12_count 158 = .ok (.aload_n 0, 1) := by decide +kernel
theorem dX12_count_159 : decode cX12_count 159 = .ok (.getfield 273, 3) := by decide +kernel
theorem dX12_count_162 : decode cX12_count 162 = .ok (.ireturn, 1) := by decide +kernel
theorem dX12_count_163 : decode cX12_count 163 = .ok (.aload_n 0, 1) := by decide +kernel
theorem dX12_count_164 : decode cX12_count 164 = .ok (.getfield 429, 3) := by decide +kernel
theorem dX12_count_167 : decode cX12_count 167 = .ok (.ireturn, 1) := by decide +kernel
theorem dX12_count_168 : decode cX12_count 168 = .ok (.aload_n 0, 1) := by decide +kernel
theorem dX12_count_169 : decode cX12_count 169 = .ok (.getfield 89, 3) := by decide +kernel
theorem dX12_count_172 : decode cX12_count 172 = .ok (.ireturn, 1) := by decide +kernel
theorem dX12_count_173 : decode cX12_count 173 = .ok (.iconst (-1), 1) := by decide +kernel
theorem dX12_count_174 : decode cX12_count 174 = .ok (.ireturn, 1) := by decide +kernel
set_option maxRecDepth 20000 in
theorem ggX12_image_X12_in : GoodIn wsX12_image wsX12_in := goodIn_r _ [16] (by decide +kernel) (by decide +kernel)
set_option maxRecDepth 20000 in
theorem gX12_image_X12_in : GoodIn wsX12_image (va_wsS RX12 127 yX12_in wsX12_in) := goodIn_app (goodIn_of _ (by decide +kernel)) ggX12_image_X12_in
theorem dX12_image_0 : decode cX12_image 0 = .ok (.iload_n 1, 1) := by decide +kernel
theorem dX12_image_1 : decode cX12_image 1 = .ok (.i2l, 1) := by decide +kernel
theorem dX12_image_2 : decode cX12_image 2 = .ok (.lconst 0, 1) := by decide +kernel
theorem dX12_image_3 : decode cX12_image 3 = .ok (.ldc2_w 454, 3) := by decide +kernel
theorem dX12_image_6 : decode cX12_image 6 = .ok (.invokestatic 127, 3) := by decide +kernel
theorem dX12_image_9 : decode cX12_image 9 = .ok (.ifCond .ne 5, 3) := by decide +kernel
theorem dX12_image_12 : decode cX12_image 12 = .ok (.iconst (-1), 1) := by decide +kernel
theorem dX12_image_13 : decode cX12_image 13 = .ok (.ireturn, 1) := by decide +kernel
theorem dX12_image_14 : decode cX12_image 14 = .ok (.aload_n 0, 1) := by decide +kernel
theorem dX12_image_15 : decode cX12_image 15 = .ok (.getfield 85, 3) := by decide +kernel
theorem dX12_image_18 : decode cX12_image 18 = .ok (.iload_n 1, 1) := by decide +kernel
theorem dX12_image_19 : decode cX12_image 19 = .ok (.iconst 1, 1) := by decide +kernel
theorem dX12_image_20 : decode cX12_image 20 = .ok (.bastore, 1) := by decide +kernel
theorem dX12_image_21 : decode cX12_image 21 = .ok (.aload_n 0, 1) := by decide +kernel
theorem dX12_image_22 : decode cX12_image 22 = .ok (.getfield 76, 3) := by decide +kernel
theorem dX12_image_25 : decode cX12_image 25 = .ok (.iload_n 1, 1) := by decide +kernel
theorem dX12_image_26 : decode cX12_image 26 = .ok (.aload_n 0, 1) := by decide +kernel
theorem dX12_image_27 : decode cX12_image 27 = .ok (.getfield 273, 3) := by decide +kernel
theorem dX12_image_30 : decode cX12_image 30 = .ok (.iastore, 1) := by decide +kernel
theorem dX12_image_31 : decode cX12_image 31 = .ok (.aload_n 0, 1) := by decide +kernel
theorem dX12_image_32 : decode cX12_image 32 = .ok (.getfield 79, 3) := by decide +kernel
theorem dX12_image_35 : decode cX12_image 35 = .ok (.iload_n 1, 1) := by decide +kernel
theorem dX12_image_36 : decode cX12_image 36 = .ok (.aload_n 0, 1) := by decide +kernel
theorem dX12_image_37 : decode cX12_image 37 = .ok (.getfield 42, 3) := by decide +kernel
theorem dX12_image_40 : decode cX12_image 40 = .ok (.iastore, 1) := by decide +kernel
theorem dX12_image_41 : decode cX12_image 41 = .ok (.aload_n 0, 1) := by decide +kernel
theorem dX12_image_42 : decode cX12_image 42 = .ok (.getfield 82, 3) := by decide +kernel
theorem dX12_image_45 : decode cX12_image 45 = .ok (.iload_n 1, 1) := by decide +kernel
theorem dX12_image_46 : decode cX12_image 46 = .ok (.aload_n 0, 1) := by decide +kernel
theorem dX12_image_47 : decode cX12_image 47 = .ok (.getfield 429, 3) := by decide +kernel
theorem dX12_image_50 : decode cX12_image 50 = .ok (.iastore, 1) := by decide +kernel
theorem dX12_image_51 : decode cX12_image 51 = .ok (.iconst 0, 1) := by decide +kernel
theorem dX12_image_52 : decode cX12_image 52 = .ok (.istore_n 2, 1) := by decide +kernel
theorem dX12_image_53 : decode cX12_image 53 = .ok (.iload_n 2, 1) := by decide +kernel
theorem dX12_image_54 : decode cX12_image 54 = .ok (.sipush 211, 3) := by decide +kernel
theorem dX12_image_57 : decode cX12_image 57 = .ok (.if_icmp .ge 27, 3) := by decide +kernel
theorem dX12_image_60 : decode cX12_image 60 = .ok (.aload_n 0, 1) := by decide +kernel
theorem dX12_image_61 : decode cX12_image 61 = .ok (.getfield 70, 3) := by decide +kernel
theorem dX12_image_64 : decode cX12_image 64 = .ok (.sipush 211, 3) := by decide +kernel
theorem dX12_image_67 : decode cX12_image 67 = .ok (.iload_n 1, 1) := by decide +kernel
theorem dX12_image_68 : decode cX12_image 68 = .ok (.imul, 1) := by decide +kernel
theorem dX12_image_69 : decode cX12_image 69 = .ok (.iload_n 2, 1) := by decide +kernel
theorem dX12_image_70 : decode cX12_image 70 = .ok (.iadd, 1) := by decide +kernel
theorem dX12_image_71 : decode cX12_image 71 = .ok (.aload_n 0, 1) := by decide +kernel
theorem dX12_image_72 : decode cX12_image 72 = .ok (.getfield 39, 3) := by decide +kernel
theorem dX12_image_75 : decode cX12_image 75 = .ok (.iload_n 2, 1) := by decide +kernel
theorem dX12_image_76 : decode cX12_image 76 = .ok (.iaload, 1) := by decide +kernel
theorem dX12_image_77 : decode cX12_image 77 = .ok (.iastore, 1) := by decide +kernel
theorem dX12_image_78 : decode cX12_image 78 = .ok (.iinc 2 1, 3) := by decide +kernel
theorem dX12_image_81 : decode cX12_image 81 = .ok (.goto (-28), 3) := by decide +kernel
theorem dX12_image_84 : decode cX12_image 84 = .ok (.iconst 0, 1) := by decide +kernel
theorem dX12_image_85 : decode cX12_image 85 = .ok (.istore_n 2, 1) := by decide +kernel
theorem dX12_image_86 : decode cX12_image 86 = .ok (.iload_n 2, 1) := by decide +kernel
theorem dX12_image_87 : decode cX12_image 87 = .ok (.sipush 170, 3) := by decide +kernel
theorem dX12_image_90 : decode cX12_image 90 = .ok (.aload_n 0, 1) := by decide +kernel
theorem dX12_image_91 : decode cX12_image 91 = .ok (.getfield 273, 3) := by decide +kernel
theorem dX12_image_94 : decode cX12_image 94 = .ok (.imul, 1) := by decide +kernel
theorem dX12_image_95 : decode cX12_image 95 = .ok (.if_icmp .ge 27, 3) := by decide +kernel
theorem dX12_image_98 : decode cX12_image 98 = .ok (.aload_n 0, 1) := by decide +kernel
theorem dX12_image_99 : decode cX12_image 99 = .ok (.getfield 73, 3) := by decide +kernel
theorem dX12_image_102 : decode cX12_image 102 = .ok (.sipush 3400, 3) := by decide +kernel
theorem dX12_image_105 : decode cX12_image 105 = .ok (.iload_n 1, 1) := by decide +kernel
theorem dX12_image_106 : decode cX12_image 106 = .ok (.imul, 1) := by decide +kernel
theorem dX12_image_107 : decode cX12_image 107 = .ok (.iload_n 2, 1) := by decide +kernel
theorem dX12_image_108 : decode cX12_image 108 = .ok (.iadd, 1) := by decide +kernel
theorem dX12_image_109 : decode cX12_image 109 = .ok (.aload_n 0, 1) := by decide +kernel
theorem dX12_image_110 : decode cX12_image 110 = .ok (.getfield 46, 3) := by decide +kernel
theorem dX12_image_113 : decode cX12_image 113 = .ok (.iload_n 2, 1) := by decide +kernel
theorem dX12_image_114 : decode cX12_image 114 = .ok (.iaload, 1) := by decide +kernel
theorem dX12_image_115 : decode cX12_image 115 = .ok (.iastore, 1) := by decide +kernel
theorem dX12_image_116 : decode cX12_image 116 = .ok (.iinc 2 1, 3) := by decide +kernel
theorem dX12_image_119 : decode cX12_image 119 = .ok (.goto (-33), 3) := by decide +kernel
theorem dX12_image_122 : decode cX12_image 122 = .ok (.aload_n 0, 1) := by decide +kernel
theorem dX12_image_123 : decode cX12_image 123 = .ok (.getfield 39, 3) := by decide +kernel
theorem dX12_image_126 : decode cX12_image 126 = .ok (.iconst 3, 1) := by decide +kernel
theorem dX12_image_127 : decode cX12_image 127 = .ok (.iaload, 1) := by decide +kernel
theorem dX12_image_128 : decode cX12_image 128 = .ok (.ireturn, 1) := by decide +kernel
set_option maxRecDepth 20000 in
theorem ggX12_back_X12_in : GoodIn wsX12_back wsX12_in := goodIn_r _ [16] (by decide +kernel) (by decide +kernel)
set_option maxRecDepth 20000 in
theorem gX12_back_X12_in : GoodIn wsX12_back (va_wsS RX12 127 yX12_in wsX12_in) := goodIn_app (goodIn_of _ (by decide +kernel)) ggX12_back_X12_in
theorem dX12_back_0 : decode cX12_back 0 = .ok (.iload_n 1, 1) := by decide +kernel
theorem dX12_back_1 : decode cX12_back 1 = .ok (.i2l, 1) := by decide +kernel
theorem dX12_back_2 : decode cX12_back 2 = .ok (.lconst 0, 1) := by decide +kernel
theorem dX12_back_3 : decode cX12_back 3 = .ok (.ldc2_w 454, 3) := by decide +kernel
theorem dX12_back_6 : decode cX12_back 6 = .ok (.invokestatic 127, 3) := by decide +kernel
theorem dX12_back_9 : decode cX12_back 9 = .ok (.ifCond .eq 12, 3) := by decide +kernel
theorem dX12_back_12 : decode cX12_back 12 = .ok (.aload_n 0, 1) := by decide +kernel
theorem dX12_back_13 : decode cX12_back 13 = .ok (.getfield 85, 3) := by decide +kernel
theorem dX12_back_16 : decode cX12_back 16 = .ok (.iload_n 1, 1) := by decide +kernel
theorem dX12_back_17 : decode cX12_back 17 = .ok (.baload, 1) := by decide +kernel
theorem dX12_back_18 : decode cX12_back 18 = .ok (.ifCond .ne 5, 3) := by decide +kernel
theorem dX12_back_21 : decode cX12_back 21 = .ok (.iconst (-1), 1) := by decide +kernel
theorem dX12_back_22 : decode cX12_back 22 = .ok (.ireturn, 1) := by decide +kernel
theorem dX12_back_23 : decode cX12_back 23 = .ok (.aload_n 0, 1) := by decide +kernel
theorem dX12_back_24 : decode cX12_back 24 = .ok (.aload_n 0, 1) := by decide +kernel
theorem dX12_back_25 : decode cX12_back 25 = .ok (.getfield 76, 3) := by decide +kernel
theorem dX12_back_28 : decode cX12_back 28 = .ok (.iload_n 1, 1) := by decide +kernel
theorem dX12_back_29 : decode cX12_back 29 = .ok (.iaload, 1) := by decide +kernel
theorem dX12_back_30 : decode cX12_back 30 = .ok (.putfield 273, 3) := by decide +kernel
theorem dX12_back_33 : decode cX12_back 33 = .ok (.aload_n 0, 1) := by decide +kernel
theorem dX12_back_34 : decode cX12_back 34 = .ok (.aload_n 0, 1) := by decide +kernel
theorem dX12_back_35 : decode cX12_back 35 = .ok (.getfield 79, 3) := by decide +kernel
theorem dX12_back_38 : decode cX12_back 38 = .ok (.iload_n 1, 1) := by decide +kernel
theorem dX12_back_39 : decode cX12_back 39 = .ok (.iaload, 1) := by decide +kernel
theorem dX12_back_40 : decode cX12_back 40 = .ok (.putfield 42, 3) := by decide +kernel
theorem dX12_back_43 : decode cX12_back 43 = .ok (.aload_n 0, 1) := by decide +kernel
theorem dX12_back_44 : decode cX12_back 44 = .ok (.aload_n 0, 1) := by decide +kernel
theorem dX12_back_45 : decode cX12_back 45 = .ok (.getfield 82, 3) := by decide +kernel
theorem dX12_back_48 : decode cX12_back 48 = .ok (.iload_n 1, 1) := by decide +kernel
theorem dX12_back_49 : decode cX12_back 49 = .ok (.iaload, 1) := by decide +kernel
theorem dX12_back_50 : decode cX12_back 50 = .ok (.putfield 429, 3) := by decide +kernel
theorem dX12_back_53 : decode cX12_back 53 = .ok (.iconst 0, 1) := by decide +kernel
theorem dX12_back_54 : decode cX12_back 54 = .ok (.istore_n 2, 1) := by decide +kernel
theorem dX12_back_55 : decode cX12_back 55 = .ok (.iload_n 2, 1) := by decide +kernel
theorem dX12_back_56 : decode cX12_back 56 = .ok (.sipush 211, 3) := by decide +kernel
theorem dX12_back_59 : decode cX12_back 59 = .ok (.if_icmp .ge 27, 3) := by decide +kernel
theorem dX12_back_62 : decode cX12_back 62 = .ok (.aload_n 0, 1) := by decide +kernel
theorem dX12_back_63 : decode cX12_back 63 = .ok (.getfield 39, 3) := by decide +kernel
theorem dX12_back_66 : decode cX12_back 66 = .ok (.iload_n 2, 1) := by decide +kernel
theorem dX12_back_67 : decode cX12_back 67 = .ok (.aload_n 0, 1) := by decide +kernel
theorem dX12_back_68 : decode cX12_back 68 = .ok (.getfield 70, 3) := by decide +kernel
theorem dX12_back_71 : decode cX12_back 71 = .ok (.sipush 211, 3) := by decide +kernel
theorem dX12_back_74 : decode cX12_back 74 = .ok (.iload_n 1, 1) := by decide +kernel
theorem dX12_back_75 : decode cX12_back 75 = .ok (.imul, 1) := by decide +kernel
theorem dX12_back_76 : decode cX12_back 76 = .ok (.iload_n 2, 1) := by decide +kernel
theorem dX12_back_77 : decode cX12_back 77 = .ok (.iadd, 1) := by decide +kernel
theorem dX12_back_78 : decode cX12_back 78 = .ok (.iaload, 1) := by decide +kernel
theorem dX12_back_79 : decode cX12_back 79 = .ok (.iastore, 1) := by decide +kernel
theorem dX12_back_80 : decode cX12_back 80 = .ok (.iinc 2 1, 3) := by decide +kernel
theorem dX12_back_83 : decode cX12_back 83 = .ok (.goto (-28), 3) := by decide +kernel
theorem dX12_back_86 : decode cX12_back 86 = .ok (.iconst 0, 1) := by decide +kernel
theorem dX12_back_87 : decode cX12_back 87 = .ok (.istore_n 2, 1) := by decide +kernel
theorem dX12_back_88 : decode cX12_back 88 = .ok (.iload_n 2, 1) := by decide +kernel
theorem dX12_back_89 : decode cX12_back 89 = .ok (.sipush 170, 3) := by decide +kernel
theorem dX12_back_92 : decode cX12_back 92 = .ok (.aload_n 0, 1) := by decide +kernel
theorem dX12_back_93 : decode cX12_back 93 = .ok (.getfield 273, 3) := by decide +kernel
theorem dX12_back_96 : decode cX12_back 96 = .ok (.imul, 1) := by decide +kernel
theorem dX12_back_97 : decode cX12_back 97 = .ok (.if_icmp .ge 27, 3) := by decide +kernel
theorem dX12_back_100 : decode cX12_back 100 = .ok (.aload_n 0, 1) := by decide +kernel
theorem dX12_back_101 : decode cX12_back 101 = .ok (.getfield 46, 3) := by decide +kernel
theorem dX12_back_104 : decode cX12_back 104 = .ok (.iload_n 2, 1) := by decide +kernel
theorem dX12_back_105 : decode cX12_back 105 = .ok (.aload_n 0, 1) := by decide +kernel
theorem dX12_back_106 : decode cX12_back 106 = .ok (.getfield 73, 3) := by decide +kernel
theorem dX12_back_109 : decode cX12_back 109 = .ok (.sipush 3400, 3) := by decide +kernel
theorem dX12_back_112 : decode cX12_back 112 = .ok (.iload_n 1, 1) := by decide +kernel
theorem dX12_back_113 : decode cX12_back 113 = .ok (.imul, 1) := by decide +kernel
theorem dX12_back_114 : decode cX12_back 114 = .ok (.iload_n 2, 1) := by decide +kernel
theorem dX12_back_115 : decode cX12_back 115 = .ok (.iadd, 1) := by decide +kernel
theorem dX12_back_116 : decode cX12_back 116 = .ok (.iaload, 1) := by decide +kernel
theorem dX12_back_117 : decode cX12_back 117 = .ok (.iastore, 1) := by decide +kernel
theorem dX12_back_118 : decode cX12_back 118 = .ok (.iinc 2 1, 3) := by decide +kernel
theorem dX12_back_121 : decode cX12_back 121 = .ok (.goto (-33), 3) := by decide +kernel
theorem dX12_back_124 : decode cX12_back 124 = .ok (.aload_n 0, 1) := by decide +kernel
theorem dX12_back_125 : decode cX12_back 125 = .ok (.getfield 39, 3) := by decide +kernel
theorem dX12_back_128 : decode cX12_back 128 = .ok (.iconst 3, 1) := by decide +kernel
theorem dX12_back_129 : decode cX12_back 129 = .ok (.iaload, 1) := by decide +kernel
theorem dX12_back_130 : decode cX12_back 130 = .ok (.ireturn, 1) := by decide +kernel
theorem dJ6_bitCount_0f7a4_0 : decode cJ6_bitCount_0f7a4 0 = .ok (.iload_n 0, 1) := by decide +kernel
theorem dJ6_bitCount_0f7a4_1 : decode cJ6_bitCount_0f7a4 1 = .ok (.iload_n 0, 1) := by decide +kernel
theorem dJ6_bitCount_0f7a4_2 : decode cJ6_bitCount_0f7a4 2 = .ok (.iconst 1, 1) := by decide +kernel
theorem dJ6_bitCount_0f7a4_3 : decode cJ6_bitCount_0f7a4 3 = .ok (.iushr, 1) := by decide +kernel
theorem dJ6_bitCount_0f7a4_4 : decode cJ6_bitCount_0f7a4 4 = .ok (.ldc_w 265, 3) := by decide +kernel
theorem dJ6_bitCount_0f7a4_7 : decode cJ6_bitCount_0f7a4 7 = .ok (.iand, 1) := by decide +kernel
theorem dJ6_bitCount_0f7a4_8 : decode cJ6_bitCount_0f7a4 8 = .ok (.isub, 1) := by decide +kernel
theorem dJ6_bitCount_0f7a4_9 : decode cJ6_bitCount_0f7a4 9 = .ok (.istore_n 0, 1) := by decide +kernel
theorem dJ6_bitCount_0f7a4_10 : decode cJ6_bitCount_0f7a4 10 = .ok (.iload_n 0, 1) := by decide +kernel
theorem dJ6_bitCount_0f7a4_11 : decode cJ6_bitCount_0f7a4 11 = .ok (.ldc_w 266, 3) := by decide +kernel
theorem dJ6_bitCount_0f7a4_14 : decode cJ6_bitCount_0f7a4 14 = .ok (.iand, 1) := by decide +kernel
theorem dJ6_bitCount_0f7a4_15 : decode cJ6_bitCount_0f7a4 15 = .ok (.iload_n 0, 1) := by decide +kernel
theorem dJ6_bitCount_0f7a4_16 : decode cJ6_bitCount_0f7a4 16 = .ok (.iconst 2, 1) := by decide +kernel
theorem dJ6_bitCount_0f7a4_17 : decode cJ6_bitCount_0f7a4 17 = .ok (.iushr, 1) := by decide +kernel
theorem dJ6_bitCount_0f7a4_18 : decode cJ6_bitCount_0f7a4 18 = .ok (.ldc_w 266, 3) := by decide +kernel
theorem dJ6_bitCount_0f7a4_21 : decode cJ6_bitCount_0f7a4 21 = .ok (.iand, 1) := by decide +kernel
theorem dJ6_bitCount_0f7a4_22 : decode cJ6_bitCount_0f7a4 22 = .ok (.iadd, 1) := by decide +kernel
theorem dJ6_bitCount_0f7a4_23 : decode cJ6_bitCount_0f7a4 23 = .ok (.istore_n 0, 1) := by decide +kernel
theorem dJ6_bitCount_0f7a4_24 : decode cJ6_bitCount_0f7a4 24 = .ok (.iload_n 0, 1) := by decide +kernel
theorem dJ6_bitCount_0f7a4_25 : decode cJ6_bitCount_0f7a4 25 = .ok (.iload_n 0, 1) := by decide +kernel
theorem dJ6_bitCount_0f7a4_26 : decode cJ6_bitCount_0f7a4 26 = .ok (.iconst 4, 1) := by decide +kernel
theorem dJ6_bitCount_0f7a4_27 : decode cJ6_bitCount_0f7a4 27 = .ok (.iushr, 1) := by decide +kernel
theorem dJ6_bitCount_0f7a4_28 : decode cJ6_bitCount_0f7a4 28 = .ok (.iadd, 1) := by decide +kernel
theorem dJ6_bitCount_0f7a4_29 : decode cJ6_bitCount_0f7a4 29 = .ok (.ldc_w 267, 3) := by decide +kernel
theorem dJ6_bitCount_0f7a4_32 : decode cJ6_bitCount_0f7a4 32 = .ok (.iand, 1) := by decide +kernel
theorem dJ6_bitCount_0f7a4_33 : decode cJ6_bitCount_0f7a4 33 = .ok (.istore_n 0, 1) := by decide +kernel
theorem dJ6_bitCount_0f7a4_34 : decode cJ6_bitCount_0f7a4 34 = .ok (.iload_n 0, 1) := by decide +kernel
theorem dJ6_bitCount_0f7a4_35 : decode cJ6_bitCount_0f7a4 35 = .ok (.iload_n 0, 1) := by decide +kernel
theorem dJ6_bitCount_0f7a4_36 : decode cJ6_bitCount_0f7a4 36 = .ok (.bipush 8, 2) := by decide +kernel
theorem dJ6_bitCount_0f7a4_38 : decode cJ6_bitCount_0f7a4 38 = .ok (.iushr, 1) := by decide +kernel
theorem dJ6_bitCount_0f7a4_39 : decode cJ6_bitCount_0f7a4 39 = .ok (.iadd, 1) := by decide +kernel
theorem dJ6_bitCount_0f7a4_40 : decode cJ6_bitCount_0f7a4 40 = .ok (.istore_n 0, 1) := by decide +kernel
theorem dJ6_bitCount_0f7a4_41 : decode cJ6_bitCount_0f7a4 41 = .ok (.iload_n 0, 1) := by decide +kernel
theorem dJ6_bitCount_0f7a4_42 : decode cJ6_bitCount_0f7a4 42 = .ok (.iload_n 0, 1) := by decide +kernel
theorem dJ6_bitCount_0f7a4_43 : decode cJ6_bitCount_0f7a4 43 = .ok (.bipush 16, 2) := by decide +kernel
theorem dJ6_bitCount_0f7a4_45 : decode cJ6_bitCount_0f7a4 45 = .ok (.iushr, 1) := by decide +kernel
theorem dJ6_bitCount_0f7a4_46 : decode cJ6_bitCount_0f7a4 46 = .ok (.iadd, 1) := by decide +kernel
theorem dJ6_bitCount_0f7a4_47 : decode cJ6_bitCount_0f7a4 47 = .ok (.istore_n 0, 1) := by decide +kernel
theorem dJ6_bitCount_0f7a4_48 : decode cJ6_bitCount_0f7a4 48 = .ok (.iload_n 0, 1) := by decide +kernel
theorem dJ6_bitCount_0f7a4_49 : decode cJ6_bitCount_0f7a4 49 = .ok (.bipush 63, 2) := by decide +kernel
theorem dJ6_bitCount_0f7a4_51 : decode cJ6_bitCount_0f7a4 51 = .ok (.iand, 1) := by decide +kernel
theorem dJ6_bitCount_0f7a4_52 : decode cJ6_bitCount_0f7a4 52 = .ok (.ireturn, 1) := by decide +kernel
theorem dJ9_abs_0f7a4_0 : decode cJ9_abs_0f7a4 0 = .ok (.iload_n 0, 1) := by decide +kernel
theorem dJ9_abs_0f7a4_1 : decode cJ9_abs_0f7a4 1 = .ok (.ifCond .ge 8, 3) := by decide +kernel
theorem dJ9_abs_0f7a4_4 : decode cJ9_abs_0f7a4 4 = .ok (.iload_n 0, 1) := by decide +kernel
theorem dJ9_abs_0f7a4_5 : decode cJ9_abs_0f7a4 5 = .ok (.ineg, 1) := by decide +kernel
theorem dJ9_abs_0f7a4_6 : decode cJ9_abs_0f7a4 6 = .ok (.goto 4, 3) := by decide +kernel
theorem dJ9_abs_0f7a4_9 : decode cJ9_abs_0f7a4 9 = .ok (.iload_n 0, 1) := by decide +kernel
theorem dJ9_abs_0f7a4_10 : decode cJ9_abs_0f7a4 10 = .ok (.ireturn, 1) := by decide +kernel
theorem dJ9_max_7cf53_0 : decode cJ9_max_7cf53 0 = .ok (.iload_n 0, 1) := by decide +kernel
theorem dJ9_max_7cf53_1 : decode cJ9_max_7cf53 1 = .ok (.iload_n 1, 1) := by decide +kernel
theorem dJ9_max_7cf53_2 : decode cJ9_max_7cf53 2 = .ok (.if_icmp .lt 7, 3) := by decide +kernel
theorem dJ9_max_7cf53_5 : decode cJ9_max_7cf53 5 = .ok (.iload_n 0, 1) := by decide +kernel
theorem dJ9_max_7cf53_6 : decode cJ9_max_7cf53 6 = .ok (.goto 4, 3) := by decide +kernel
theorem dJ9_max_7cf53_9 : decode cJ9_max_7cf53 9 = .ok (.iload_n 1, 1) := by decide +kernel
theorem dJ9_max_7cf53_10 : decode cJ9_max_7cf53 10 = .ok (.ireturn, 1) := by decide +kernel
theorem dJ9_max_f86c9_0 : decode cJ9_max_f86c9 0 = .ok (.lload_n 0, 1) := by decide +kernel
theorem dJ9_max_f86c9_1 : decode cJ9_max_f86c9 1 = .ok (.lload_n 2, 1) := by decide +kernel
theorem dJ9_max_f86c9_2 : decode cJ9_max_f86c9 2 = .ok (.lcmp, 1) := by decide +kernel
theorem dJ9_max_f86c9_3 : decode cJ9_max_f86c9 3 = .ok (.ifCond .lt 7, 3) := by decide +kernel
theorem dJ9_max_f86c9_6 : decode cJ9_max_f86c9 6 = .ok (.lload_n 0, 1) := by decide +kernel
theorem dJ9_max_f86c9_7 : decode cJ9_max_f86c9 7 = .ok (.goto 4, 3) := by decide +kernel
theorem dJ9_max_f86c9_10 : decode cJ9_max_f86c9 10 = .ok (.lload_n 2, 1) := by decide +kernel
theorem dJ9_max_f86c9_11 : decode cJ9_max_f86c9 11 = .ok (.lreturn, 1) := by decide +kernel
theorem dJ9_min_7cf53_0 : decode cJ9_min_7cf53 0 = .ok (.iload_n 0, 1) := by decide +kernel
theorem dJ9_min_7cf53_1 : decode cJ9_min_7cf53 1 = .ok (.iload_n 1, 1) := by decide +kernel
theorem dJ9_min_7cf53_2 : decode cJ9_min_7cf53 2 = .ok (.if_icmp .gt 7, 3) := by decide +kernel
theorem dJ9_min_7cf53_5 : decode cJ9_min_7cf53 5 = .ok (.iload_n 0, 1) := by decide +kernel
theorem dJ9_min_7cf53_6 : decode cJ9_min_7cf53 6 = .ok (.goto 4, 3) := by decide +kernel
theorem dJ9_min_7cf53_9 : decode cJ9_min_7cf53 9 = .ok (.iload_n 1, 1) := by decide +kernel
theorem dJ9_min_7cf53_10 : decode cJ9_min_7cf53 10 = .ok (.ireturn, 1) := by decide +kernel
theorem dJ9_min_f86c9_0 : decode cJ9_min_f86c9 0 = .ok (.lload_n 0, 1) := by decide +kernel
theorem dJ9_min_f86c9_1 : decode cJ9_min_f86c9 1 = .ok (.lload_n 2, 1) := by decide +kernel
theorem dJ9_min_f86c9_2 : decode cJ9_min_f86c9 2 = .ok (.lcmp, 1) := by decide +kernel
theorem dJ9_min_f86c9_3 : decode cJ9_min_f86c9 3 = .ok (.ifCond .gt 7, 3) := by decide +kernel
theorem dJ9_min_f86c9_6 : decode cJ9_min_f86c9 6 = .ok (.lload_n 0, 1) := by decide +kernel
theorem dJ9_min_f86c9_7 : decode cJ9_min_f86c9 7 = .ok (.goto 4, 3) := by decide +kernel
theorem dJ9_min_f86c9_10 : decode cJ9_min_f86c9 10 = .ok (.lload_n 2, 1) := by decide +kernel
theorem dJ9_min_f86c9_11 : decode cJ9_min_f86c9 11 = .ok (.lreturn, 1) := by decide +kernel
set_option maxRecDepth 20000 in
theorem ggJ0_length_8abf5_J0_coder_7d493 : GoodIn wsJ0_length_8abf5 wsJ0_coder_7d493 := goodIn_r _ [6, 7, 8] (by decide +kernel) (by decide +kernel)
set_option maxRecDepth 20000 in
theorem gJ0_length_8abf5_J0_coder_7d493 : GoodIn wsJ0_length_8abf5 (wsV RJ0 335 RJ0 yJ0_coder_7d493 wsJ0_coder_7d493) := goodIn_app (goodIn_of _ (by decide +kernel)) ggJ0_length_8abf5_J0_coder_7d493
theorem dJ0_length_8abf5_0 : decode cJ0_length_8abf5 0 = .ok (.aload_n 0, 1) := by decide +kernel
theorem dJ0_length_8abf5_1 : decode cJ0_length_8abf5 1 = .ok (.getfield 9, 3) := by decide +kernel
theorem dJ0_length_8abf5_4 : decode cJ0_length_8abf5 4 = .ok (.arraylength, 1) := by decide +kernel
theorem dJ0_length_8abf5_5 : decode cJ0_length_8abf5 5 = .ok (.aload_n 0, 1) := by decide +kernel
theorem dJ0_length_8abf5_6 : decode cJ0_length_8abf5 6 = .ok (.invokevirtual 335, 3) := by decide +kernel
theorem dJ0_length_8abf5_9 : decode cJ0_length_8abf5 9 = .ok (.ishr, 1) := by decide +kernel
theorem dJ0_length_8abf5_10 : decode cJ0_length_8abf5 10 = .ok (.ireturn, 1) := by decide +kernel
set_option maxRecDepth 20000 in
theorem ggJ0_charAt_5068e_J0_isLatin1_aae02 : GoodIn wsJ0_charAt_5068e wsJ0_isLatin1_aae02 := goodIn_r _ [6, 7, 8] (by decide +kernel) (by decide +kernel)
set_option maxRecDepth 20000 in
theorem gJ0_charAt_5068e_J0_isLatin1_aae02 : GoodIn wsJ0_charAt_5068e (wsV RJ0 492 RJ0 yJ0_isLatin1_aae02 wsJ0_isLatin1_aae02) := goodIn_app (goodIn_of _ (by decide +kernel)) ggJ0_charAt_5068e_J0_isLatin1_aae02
set_option maxRecDepth 20000 in
theorem ggJ0_charAt_5068e_J1_charAt_3b067 : GoodIn wsJ0_charAt_5068e wsJ1_charAt_3b067 := goodIn_r _ [12, 13, 14, 5, 15, 16, 17, 18, 19, 20] (by decide +kernel) (by decide +kernel)
set_option maxRecDepth 20000 in
theorem gJ0_charAt_5068e_J1_charAt_3b067 : GoodIn wsJ0_charAt_5068e (va_wsS RJ0 495 yJ1_charAt_3b067 wsJ1_charAt_3b067) := goodIn_app (goodIn_of _ (by decide +kernel)) ggJ0_charAt_5068e_J1_charAt_3b067
set_option maxRecDepth 20000 in
theorem ggJ0_charAt_5068e_J2_charAt_3b067 : GoodIn wsJ0_charAt_5068e wsJ2_charAt_3b067 := goodIn_r _ [24, 25, 26, 23, 27, 28, 29, 30, 31, 14, 5, 15, 16, 17, 18, 19, 20, 32, 33, 34, 35, 36, 37] (by decide +kernel) (by decide +kernel)
set_option maxRecDepth 20000 in
theorem gJ0_charAt_5068e_J2_charAt_3b067 : GoodIn wsJ0_charAt_5068e (va_wsS RJ0 498 yJ2_charAt_3b067 wsJ2_charAt_3b067) := goodIn_app (goodIn_of _ (by decide +kernel)) ggJ0_charAt_5068e_J2_charAt_3b067
theorem dJ0_charAt_5068e_0 : decode cJ0_charAt_5068e 0 = .ok (.aload_n 0, 1) := by decide +kernel
theorem dJ0_charAt_5068e_1 : decode cJ0_charAt_5068e 1 = .ok (.invokevirtual 492, 3) := by decide +kernel
theorem dJ0_charAt_5068e_4 : decode cJ0_charAt_5068e 4 = .ok (.ifCond .eq 12, 3) := by decide +kernel
theorem dJ0_charAt_5068e_7 : decode cJ0_charAt_5068e 7 = .ok (.aload_n 0, 1) := by decide +kernel
theorem dJ0_charAt_5068e_8 : decode cJ0_charAt_5068e 8 = .ok (.getfield 9, 3) := by decide +kernel
theorem dJ0_charAt_5068e_11 : decode cJ0_charAt_5068e 11 = .ok (.iload_n 1, 1) := by decide +kernel
theorem dJ0_charAt_5068e_12 : decode cJ0_charAt_5068e 12 = .ok (.invokestatic 495, 3) := by decide +kernel
theorem dJ0_charAt_5068e_15 : decode cJ0_charAt_5068e 15 = .ok (.ireturn, 1) := by decide +kernel
theorem dJ0_charAt_5068e_16 : decode cJ0_charAt_5068e 16 = .ok (.aload_n 0, 1) := by decide +kernel
theorem dJ0_charAt_5068e_17 : decode cJ0_charAt_5068e 17 = .ok (.getfield 9, 3) := by decide +kernel
theorem dJ0_charAt_5068e_20 : decode cJ0_charAt_5068e 20 = .ok (.iload_n 1, 1) := by decide +kernel
theorem dJ0_charAt_5068e_21 : decode cJ0_charAt_5068e 21 = .ok (.invokestatic 498, 3) := by decide +kernel
theorem dJ0_charAt_5068e_24 : decode cJ0_charAt_5068e 24 = .ok (.ireturn, 1) := by decide +kernel
theorem dJ0_coder_7d493_0 : decode cJ0_coder_7d493 0 = .ok (.getstatic 38, 3) := by decide +kernel
theorem dJ0_coder_7d493_3 : decode cJ0_coder_7d493 3 = .ok (.ifCond .eq 10, 3) := by decide +kernel
theorem dJ0_coder_7d493_6 : decode cJ0_coder_7d493 6 = .ok (.aload_n 0, 1) := by decide +kernel
theorem dJ0_coder_7d493_7 : decode cJ0_coder_7d493 7 = .ok (.getfield 15, 3) := by decide +kernel
theorem dJ0_coder_7d493_10 : decode cJ0_coder_7d493 10 = .ok (.goto 4, 3) := by decide +kernel
theorem dJ0_coder_7d493_13 : decode cJ0_coder_7d493 13 = .ok (.iconst 1, 1) := by decide +kernel
theorem dJ0_coder_7d493_14 : decode cJ0_coder_7d493 14 = .ok (.ireturn, 1) := by decide +kernel
theorem dJ0_isLatin1_aae02_0 : decode cJ0_isLatin1_aae02 0 = .ok (.getstatic 38, 3) := by decide +kernel
theorem dJ0_isLatin1_aae02_3 : decode cJ0_isLatin1_aae02 3 = .ok (.ifCond .eq 14, 3) := by decide +kernel
theorem dJ0_isLatin1_aae02_6 : decode cJ0_isLatin1_aae02 6 = .ok (.aload_n 0, 1) := by decide +kernel
theorem dJ0_isLatin1_aae02_7 : decode cJ0_isLatin1_aae02 7 = .ok (.getfield 15, 3) := by decide +kernel
theorem dJ0_isLatin1_aae02_10 : decode cJ0_isLatin1_aae02 10 = .ok (.ifCond .ne 7, 3) := by decide +kernel
theorem dJ0_isLatin1_aae02_13 : decode cJ0_isLatin1_aae02 13 = .ok (.iconst 1, 1) := by decide +kernel
theorem dJ0_isLatin1_aae02_14 : decode cJ0_isLatin1_aae02 14 = .ok (.goto 4, 3) := by decide +kernel
theorem dJ0_isLatin1_aae02_17 : decode cJ0_isLatin1_aae02 17 = .ok (.iconst 0, 1) := by decide +kernel
theorem dJ0_isLatin1_aae02_18 : decode cJ0_isLatin1_aae02 18 = .ok (.ireturn, 1) := by decide +kernel
set_option maxRecDepth 20000 in
theorem ggJ0_checkIndex_df160_J3_checkIndex_8e157 : GoodIn wsJ0_checkIndex_df160 wsJ3_checkIndex_8e157 := goodIn_r _ [5] (by decide +kernel) (by decide +kernel)
set_option maxRecDepth 20000 in
theorem gJ0_checkIndex_df160_J3_checkIndex_8e157 : GoodIn wsJ0_checkIndex_df160 (va_wsS RJ0 1059 yJ3_checkIndex_8e157 wsJ3_checkIndex_8e157) := goodIn_app (goodIn_of _ (by decide +kernel)) ggJ0_checkIndex_df160_J3_checkIndex_8e157
theorem dJ0_checkIndex_df160_0 : decode cJ0_checkIndex_df160 0 = .ok (.iload_n 0, 1) := by decide +kernel
theorem dJ0_checkIndex_df160_1 : decode cJ0_checkIndex_df160 1 = .ok (.iload_n 1, 1) := by decide +kernel
theorem dJ0_checkIndex_df160_2 : decode cJ0_checkIndex_df160 2 = .ok (.getstatic 1053, 3) := by decide +kernel
theorem dJ0_checkIndex_df160_5 : decode cJ0_checkIndex_df160 5 = .ok (.invokestatic 1059, 3) := by decide +kernel
theorem dJ0_checkIndex_df160_8 : decode cJ0_checkIndex_df160 8 = .ok (.pop, 1) := by decide +kernel
theorem dJ0_checkIndex_df160_9 : decode cJ0_checkIndex_df160 9 = .ok (.return_, 1) := by decide +kernel
set_option maxRecDepth 20000 in
theorem ggJ1_charAt_3b067_J0_checkIndex_df160 : GoodIn wsJ1_charAt_3b067 wsJ0_checkIndex_df160 := goodIn_r _ [4, 5, 6, 7, 8, 9] (by decide +kernel) (by decide +kernel)
set_option maxRecDepth 20000 in
theorem gJ1_charAt_3b067_J0_checkIndex_df160 : GoodIn wsJ1_charAt_3b067 (va_wsS RJ1 9 yJ0_checkIndex_df160 wsJ0_checkIndex_df160) := goodIn_app (goodIn_of _ (by decide +kernel)) ggJ1_charAt_3b067_J0_checkIndex_df160
theorem dJ1_charAt_3b067_0 : decode cJ1_charAt_3b067 0 = .ok (.iload_n 1, 1) := by decide +kernel
theorem dJ1_charAt_3b067_1 : decode cJ1_charAt_3b067 1 = .ok (.aload_n 0, 1) := by decide +kernel
theorem dJ1_charAt_3b067_2 : decode cJ1_charAt_3b067 2 = .ok (.arraylength, 1) := by decide +kernel
theorem dJ1_charAt_3b067_3 : decode cJ1_charAt_3b067 3 = .ok (.invokestatic 9, 3) := by decide +kernel
theorem dJ1_charAt_3b067_6 : decode cJ1_charAt_3b067 6 = .ok (.aload_n 0, 1) := by decide +kernel
theorem dJ1_charAt_3b067_7 : decode cJ1_charAt_3b067 7 = .ok (.iload_n 1, 1) := by decide +kernel
theorem dJ1_charAt_3b067_8 : decode cJ1_charAt_3b067 8 = .ok (.baload, 1) := by decide +kernel
theorem dJ1_charAt_3b067_9 : decode cJ1_charAt_3b067 9 = .ok (.sipush 255, 3) := by decide +kernel
theorem dJ1_charAt_3b067_12 : decode cJ1_charAt_3b067 12 = .ok (.iand, 1) := by decide +kernel
theorem dJ1_charAt_3b067_13 : decode cJ1_charAt_3b067 13 = .ok (.i2c, 1) := by decide +kernel
theorem dJ1_charAt_3b067_14 : decode cJ1_charAt_3b067 14 = .ok (.ireturn, 1) := by decide +kernel
set_option maxRecDepth 20000 in
theorem ggJ2_getChar_3b067_J2_length_9d52b : GoodIn wsJ2_getChar_3b067 wsJ2_length_9d52b := goodIn_r _ [7] (by decide +kernel) (by decide +kernel)
set_option maxRecDepth 20000 in
theorem gJ2_getChar_3b067_J2_length_9d52b : GoodIn wsJ2_getChar_3b067 (va_wsS RJ2 48 yJ2_length_9d52b wsJ2_length_9d52b) := goodIn_app (goodIn_of _ (by decide +kernel)) ggJ2_getChar_3b067_J2_length_9d52b
theorem dJ2_getChar_3b067_0 : decode cJ2_getChar_3b067 0 = .ok (.getstatic 44, 3) := by decide +kernel
theorem dJ2_getChar_3b067_3 : decode cJ2_getChar_3b067 3 = .ok (.ifCond .ne 25, 3) := by decide +kernel
theorem dJ2_getChar_3b067_6 : decode cJ2_getChar_3b067 6 = .ok (.iload_n 1, 1) := by decide +kernel
theorem dJ2_getChar_3b067_7 : decode cJ2_getChar_3b067 7 = .ok (.ifCond .lt 11, 3) := by decide +kernel
theorem dJ2_getChar_3b067_10 : decode cJ2_getChar_3b067 10 = .ok (.iload_n 1, 1) := by decide +kernel
theorem dJ2_getChar_3b067_11 : decode cJ2_getChar_3b067 11 = .ok (.aload_n 0, 1) := by decide +kernel
theorem dJ2_getChar_3b067_12 : decode cJ2_getChar_3b067 12 = .ok (.invokestatic 48, 3) := by decide +kernel
theorem dJ2_getChar_3b067_15 : decode cJ2_getChar_3b067 15 = .ok (.if_icmp .lt 13, 3) := by decide +kernel
theorem dJ2_getChar_3b067_18 : decode cJ2_getChar_3b067 18 = .ok (.new 52, 3) := by decide +kernel
theorem dJ2_getChar_3b067_21 : decode cJ2_getChar_3b067 21 = .ok (.dup, 1) := by decide +kernel
theorem dJ2_getChar_3b067_22 : decode cJ2_getChar_3b067 22 = .ok (.ldc 54, 2) := by decide +kernel
theorem dJ2_getChar_3b067_24 : decode cJ2_getChar_3b067 24 = .ok (.invokespecial 56, 3) := by decide +kernel
theorem dJ2_getChar_3b067_27 : decode cJ2_getChar_3b067 27 = .ok (.athrow, 1) := by decide +kernel
theorem dJ2_getChar_3b067_28 : decode cJ2_getChar_3b067 28 = .ok (.iload_n 1, 1) := by decide +kernel
theorem dJ2_getChar_3b067_29 : decode cJ2_getChar_3b067 29 = .ok (.iconst 1, 1) := by decide +kernel
theorem dJ2_getChar_3b067_30 : decode cJ2_getChar_3b067 30 = .ok (.ishl, 1) := by decide +kernel
theorem dJ2_getChar_3b067_31 : decode cJ2_getChar_3b067 31 = .ok (.istore_n 1, 1) := by decide +kernel
theorem dJ2_getChar_3b067_32 : decode cJ2_getChar_3b067 32 = .ok (.aload_n 0, 1) := by decide +kernel
theorem dJ2_getChar_3b067_33 : decode cJ2_getChar_3b067 33 = .ok (.iload_n 1, 1) := by decide +kernel
theorem dJ2_getChar_3b067_34 : decode cJ2_getChar_3b067 34 = .ok (.iinc 1 1, 3) := by decide +kernel
theorem dJ2_getChar_3b067_37 : decode cJ2_getChar_3b067 37 = .ok (.baload, 1) := by decide +kernel
theorem dJ2_getChar_3b067_38 : decode cJ2_getChar_3b067 38 = .ok (.sipush 255, 3) := by decide +kernel
theorem dJ2_getChar_3b067_41 : decode cJ2_getChar_3b067 41 = .ok (.iand, 1) := by decide +kernel
theorem dJ2_getChar_3b067_42 : decode cJ2_getChar_3b067 42 = .ok (.getstatic 59, 3) := by decide +kernel
theorem dJ2_getChar_3b067_45 : decode cJ2_getChar_3b067 45 = .ok (.ishl, 1) := by decide +kernel
theorem dJ2_getChar_3b067_46 : decode cJ2_getChar_3b067 46 = .ok (.aload_n 0, 1) := by decide +kernel
theorem dJ2_getChar_3b067_47 : decode cJ2_getChar_3b067 47 = .ok (.iload_n 1, 1) := by decide +kernel
theorem dJ2_getChar_3b067_48 : decode cJ2_getChar_3b067 48 = .ok (.baload, 1) := by decide +kernel
theorem dJ2_getChar_3b067_49 : decode cJ2_getChar_3b067 49 = .ok (.sipush 255, 3) := by decide +kernel
theorem dJ2_getChar_3b067_52 : decode cJ2_getChar_3b067 52 = .ok (.iand, 1) := by decide +kernel
theorem dJ2_getChar_3b067_53 : decode cJ2_getChar_3b067 53 = .ok (.getstatic 63, 3) := by decide +kernel
theorem dJ2_getChar_3b067_56 : decode cJ2_getChar_3b067 56 = .ok (.ishl, 1) := by decide +kernel
theorem dJ2_getChar_3b067_57 : decode cJ2_getChar_3b067 57 = .ok (.ior, 1) := by decide +kernel
theorem dJ2_getChar_3b067_58 : decode cJ2_getChar_3b067 58 = .ok (.i2c, 1) := by decide +kernel
theorem dJ2_getChar_3b067_59 : decode cJ2_getChar_3b067 59 = .ok (.ireturn, 1) := by decide +kernel
theorem dJ2_length_9d52b_0 : decode cJ2_length_9d52b 0 = .ok (.aload_n 0, 1) := by decide +kernel
theorem dJ2_length_9d52b_1 : decode cJ2_length_9d52b 1 = .ok (.arraylength, 1) := by decide +kernel
theorem dJ2_length_9d52b_2 : decode cJ2_length_9d52b 2 = .ok (.iconst 1, 1) := by decide +kernel
theorem dJ2_length_9d52b_3 : decode cJ2_length_9d52b 3 = .ok (.ishr, 1) := by decide +kernel
theorem dJ2_length_9d52b_4 : decode cJ2_length_9d52b 4 = .ok (.ireturn, 1) := by decide +kernel
set_option maxRecDepth 20000 in
theorem ggJ2_charAt_3b067_J2_checkIndex_2214a : GoodIn wsJ2_charAt_3b067 wsJ2_checkIndex_2214a := goodIn_r _ [4, 5, 6, 3, 7, 8, 9, 10, 11, 12, 13, 14, 15, 16] (by decide +kernel) (by decide +kernel)
set_option maxRecDepth 20000 in
theorem gJ2_charAt_3b067_J2_checkIndex_2214a : GoodIn wsJ2_charAt_3b067 (va_wsS RJ2 67 yJ2_checkIndex_2214a wsJ2_checkIndex_2214a) := goodIn_app (goodIn_of _ (by decide +kernel)) ggJ2_charAt_3b067_J2_checkIndex_2214a
set_option maxRecDepth 20000 in
theorem ggJ2_charAt_3b067_J2_getChar_3b067 : GoodIn wsJ2_charAt_3b067 wsJ2_getChar_3b067 := goodIn_r _ [19, 20, 21, 22, 5, 6, 3, 7] (by decide +kernel) (by decide +kernel)
set_option maxRecDepth 20000 in
theorem gJ2_charAt_3b067_J2_getChar_3b067 : GoodIn wsJ2_charAt_3b067 (va_wsS RJ2 71 yJ2_getChar_3b067 wsJ2_getChar_3b067) := goodIn_app (goodIn_of _ (by decide +kernel)) ggJ2_charAt_3b067_J2_getChar_3b067
theorem dJ2_charAt_3b067_0 : decode cJ2_charAt_3b067 0 = .ok (.iload_n 1, 1) := by decide +kernel
theorem dJ2_charAt_3b067_1 : decode cJ2_charAt_3b067 1 = .ok (.aload_n 0, 1) := by decide +kernel
theorem dJ2_charAt_3b067_2 : decode cJ2_charAt_3b067 2 = .ok (.invokestatic 67, 3) := by decide +kernel
theorem dJ2_charAt_3b067_5 : decode cJ2_charAt_3b067 5 = .ok (.aload_n 0, 1) := by decide +kernel
theorem dJ2_charAt_3b067_6 : decode cJ2_charAt_3b067 6 = .ok (.iload_n 1, 1) := by decide +kernel
theorem dJ2_charAt_3b067_7 : decode cJ2_charAt_3b067 7 = .ok (.invokestatic 71, 3) := by decide +kernel
theorem dJ2_charAt_3b067_10 : decode cJ2_charAt_3b067 10 = .ok (.ireturn, 1) := by decide +kernel
set_option maxRecDepth 20000 in
theorem ggJ2_checkIndex_2214a_J2_length_9d52b : GoodIn wsJ2_checkIndex_2214a wsJ2_length_9d52b := goodIn_r _ [4] (by decide +kernel) (by decide +kernel)
set_option maxRecDepth 20000 in
theorem gJ2_checkIndex_2214a_J2_length_9d52b : GoodIn wsJ2_checkIndex_2214a (va_wsS RJ2 48 yJ2_length_9d52b wsJ2_length_9d52b) := goodIn_app (goodIn_of _ (by decide +kernel)) ggJ2_checkIndex_2214a_J2_length_9d52b
set_option maxRecDepth 20000 in
theorem ggJ2_checkIndex_2214a_J0_checkIndex_df160 : GoodIn wsJ2_checkIndex_2214a wsJ0_checkIndex_df160 := goodIn_r _ [8, 9, 10, 11, 12, 13] (by decide +kernel) (by decide +kernel)
set_option maxRecDepth 20000 in
theorem gJ2_checkIndex_2214a_J0_checkIndex_df160 : GoodIn wsJ2_checkIndex_2214a (va_wsS RJ2 414 yJ0_checkIndex_df160 wsJ0_checkIndex_df160) := goodIn_app (goodIn_of _ (by decide +kernel)) ggJ2_checkIndex_2214a_J0_checkIndex_df160
theorem dJ2_checkIndex_2214a_0 : decode cJ2_checkIndex_2214a 0 = .ok (.iload_n 0, 1) := by decide +kernel
theorem dJ2_checkIndex_2214a_1 : decode cJ2_checkIndex_2214a 1 = .ok (.aload_n 1, 1) := by decide +kernel
theorem dJ2_checkIndex_2214a_2 : decode cJ2_checkIndex_2214a 2 = .ok (.invokestatic 48, 3) := by decide +kernel
theorem dJ2_checkIndex_2214a_5 : decode cJ2_checkIndex_2214a 5 = .ok (.invokestatic 414, 3) := by decide +kernel
theorem dJ2_checkIndex_2214a_8 : decode cJ2_checkIndex_2214a 8 = .ok (.return_, 1) := by decide +kernel
theorem dJ7_fill_53178_0 : decode cJ7_fill_53178 0 = .ok (.iconst 0, 1) := by decide +kernel
theorem dJ7_fill_53178_1 : decode cJ7_fill_53178 1 = .ok (.istore_n 2, 1) := by decide +kernel
theorem dJ7_fill_53178_2 : decode cJ7_fill_53178 2 = .ok (.aload_n 0, 1) := by decide +kernel
theorem dJ7_fill_53178_3 : decode cJ7_fill_53178 3 = .ok (.arraylength, 1) := by decide +kernel
theorem dJ7_fill_53178_4 : decode cJ7_fill_53178 4 = .ok (.istore_n 3, 1) := by decide +kernel
theorem dJ7_fill_53178_5 : decode cJ7_fill_53178 5 = .ok (.iload_n 2, 1) := by decide +kernel
theorem dJ7_fill_53178_6 : decode cJ7_fill_53178 6 = .ok (.iload_n 3, 1) := by decide +kernel
theorem dJ7_fill_53178_7 : decode cJ7_fill_53178 7 = .ok (.if_icmp .ge 13, 3) := by decide +kernel
theorem dJ7_fill_53178_10 : decode cJ7_fill_53178 10 = .ok (.aload_n 0, 1) := by decide +kernel
theorem dJ7_fill_53178_11 : decode cJ7_fill_53178 11 = .ok (.iload_n 2, 1) := by decide +kernel
theorem dJ7_fill_53178_12 : decode cJ7_fill_53178 12 = .ok (.iload_n 1, 1) := by decide +kernel
theorem dJ7_fill_53178_13 : decode cJ7_fill_53178 13 = .ok (.iastore, 1) := by decide +kernel
theorem dJ7_fill_53178_14 : decode cJ7_fill_53178 14 = .ok (.iinc 2 1, 3) := by decide +kernel
theorem dJ7_fill_53178_17 : decode cJ7_fill_53178 17 = .ok (.goto (-12), 3) := by decide +kernel
theorem dJ7_fill_53178_20 : decode cJ7_fill_53178 20 = .ok (.return_, 1) := by decide +kernel
theorem dJ7_copyOf_59c91_0 : decode cJ7_copyOf_59c91 0 = .ok (.iload_n 1, 1) := by decide +kernel
theorem dJ7_copyOf_59c91_1 : decode cJ7_copyOf_59c91 1 = .ok (.aload_n 0, 1) := by decide +kernel
theorem dJ7_copyOf_59c91_2 : decode cJ7_copyOf_59c91 2 = .ok (.arraylength, 1) := by decide +kernel
theorem dJ7_copyOf_59c91_3 : decode cJ7_copyOf_59c91 3 = .ok (.if_icmp .ne 11, 3) := by decide +kernel
theorem dJ7_copyOf_59c91_6 : decode cJ7_copyOf_59c91 6 = .ok (.aload_n 0, 1) := by decide +kernel
theorem dJ7_copyOf_59c91_7 : decode cJ7_copyOf_59c91 7 = .ok (.invokevirtual 316, 3) := by decide +kernel
theorem dJ7_copyOf_59c91_10 : decode cJ7_copyOf_59c91 10 = .ok (.checkcast 317, 3) := by decide +kernel
theorem dJ7_copyOf_59c91_13 : decode cJ7_copyOf_59c91 13 = .ok (.areturn, 1) := by decide +kernel
theorem dJ7_copyOf_59c91_14 : decode cJ7_copyOf_59c91 14 = .ok (.iload_n 1, 1) := by decide +kernel
theorem dJ7_copyOf_59c91_15 : decode cJ7_copyOf_59c91 15 = .ok (.newarray .int, 2) := by decide +kernel
theorem dJ7_copyOf_59c91_17 : decode cJ7_copyOf_59c91 17 = .ok (.astore_n 2, 1) := by decide +kernel
theorem dJ7_copyOf_59c91_18 : decode cJ7_copyOf_59c91 18 = .ok (.aload_n 0, 1) := by decide +kernel
theorem dJ7_copyOf_59c91_19 : decode cJ7_copyOf_59c91 19 = .ok (.iconst 0, 1) := by decide +kernel
theorem dJ7_copyOf_59c91_20 : decode cJ7_copyOf_59c91 20 = .ok (.aload_n 2, 1) := by decide +kernel
theorem dJ7_copyOf_59c91_21 : decode cJ7_copyOf_59c91 21 = .ok (.iconst 0, 1) := by decide +kernel
theorem dJ7_copyOf_59c91_22 : decode cJ7_copyOf_59c91 22 = .ok (.aload_n 0, 1) := by decide +kernel
theorem dJ7_copyOf_59c91_23 : decode cJ7_copyOf_59c91 23 = .ok (.arraylength, 1) := by decide +kernel
theorem dJ7_copyOf_59c91_24 : decode cJ7_copyOf_59c91 24 = .ok (.iload_n 1, 1) := by decide +kernel
theorem dJ7_copyOf_59c91_25 : decode cJ7_copyOf_59c91 25 = .ok (.invokestatic 304, 3) := by decide +kernel
theorem dJ7_copyOf_59c91_28 : decode cJ7_copyOf_59c91 28 = .ok (.invokestatic 150, 3) := by decide +kernel
theorem dJ7_copyOf_59c91_31 : decode cJ7_copyOf_59c91 31 = .ok (.aload_n 2, 1) := by decide +kernel
theorem dJ7_copyOf_59c91_32 : decode cJ7_copyOf_59c91 32 = .ok (.areturn, 1) := by decide +kernel
theorem dJ3_checkIndex_8e157_0 : decode cJ3_checkIndex_8e157 0 = .ok (.iload_n 0, 1) := by decide +kernel
theorem dJ3_checkIndex_8e157_1 : decode cJ3_checkIndex_8e157 1 = .ok (.ifCond .lt 8, 3) := by decide +kernel
theorem dJ3_checkIndex_8e157_4 : decode cJ3_checkIndex_8e157 4 = .ok (.iload_n 0, 1) := by decide +kernel
theorem dJ3_checkIndex_8e157_5 : decode cJ3_checkIndex_8e157 5 = .ok (.iload_n 1, 1) := by decide +kernel
theorem dJ3_checkIndex_8e157_6 : decode cJ3_checkIndex_8e157 6 = .ok (.if_icmp .lt 10, 3) := by decide +kernel
theorem dJ3_checkIndex_8e157_9 : decode cJ3_checkIndex_8e157 9 = .ok (.aload_n 2, 1) := by decide +kernel
theorem dJ3_checkIndex_8e157_10 : decode cJ3_checkIndex_8e157 10 = .ok (.iload_n 0, 1) := by decide +kernel
theorem dJ3_checkIndex_8e157_11 : decode cJ3_checkIndex_8e157 11 = .ok (.iload_n 1, 1) := by decide +kernel
theorem dJ3_checkIndex_8e157_12 : decode cJ3_checkIndex_8e157 12 = .ok (.invokestatic 95, 3) := by decide +kernel
theorem dJ3_checkIndex_8e157_15 : decode cJ3_checkIndex_8e157 15 = .ok (.athrow, 1) := by decide +kernel
theorem dJ3_checkIndex_8e157_16 : decode cJ3_checkIndex_8e157 16 = .ok (.iload_n 0, 1) := by decide +kernel
theorem dJ3_checkIndex_8e157_17 : decode cJ3_checkIndex_8e157 17 = .ok (.ireturn, 1) := by decide +kernel
set_option maxRecDepth 20000 in
theorem ggL_law_X11_init : GoodIn wsL_law wsX11_init := goodIn_r _ [8, 9, 10, 11, 12, 13, 14, 15, 16, 17, 18, 19, 20, 21, 22, 23, 24, 25, 26, 27, 28, 29, 30, 31, 32, 33, 34, 35, 36, 37, 38, 39, 40, 41, 42, 43, 44, 45, 46, 47, 48, 49, 50, 51, 52, 53, 54, 55, 56, 57, 58, 59, 60, 61, 62, 63, 64, 65, 66, 67, 68, 69, 70, 71, 72, 73, 74, 75, 76, 77, 78, 79, 80, 81, 82, 83, 84, 85, 86, 87, 88, 89, 90, 91, 92, 93, 94, 95, 96, 97, 98, 99, 100, 101, 102, 103, 104, 105, 106, 107, 108, 109, 110, 111, 112, 113, 114, 115, 116, 117, 118, 119, 120, 121, 122, 123, 124, 125, 126, 127, 128, 129, 130, 131, 132, 133, 134, 135, 136, 137, 138, 139, 140, 141, 142, 143, 144, 145, 146, 147, 148, 149, 150, 151, 152, 153, 154, 155, 156, 157, 158, 159, 160, 161, 162, 163, 164, 165, 166, 167, 1468, 1469, 1470, 1471, 1472, 1411, 1412, 1413, 1414, 1415, 1416, 1417, 1418, 1419, 1420, 1421, 1422, 1423, 1473, 1474, 1475, 1476, 1477, 1478, 1479, 1480, 1481, 1482, 1483, 1484, 1485, 1486, 1487, 1488, 1489, 1490, 1491, 1492, 1493, 1494, 1495, 1496, 1497, 1498, 1499, 1500, 1501, 1502, 1503, 1504, 1505, 1506, 1507, 1508, 1509, 1510, 1511, 1512, 1513, 1514, 1515, 1516, 1517, 1518, 1519, 1520, 1521, 1522, 1523, 1524, 1525, 1526, 1527, 1528, 1529, 1530, 1531, 1532] (by decide +kernel) (by decide +kernel)
set_option maxRecDepth 20000 in
theorem gL_law_X11_init : GoodIn wsL_law (wsX11_init) := ggL_law_X11_init
set_option maxRecDepth 20000 in
theorem ggL_law_X12_init : GoodIn wsL_law wsX12_init := goodIn_r _ [170, 171, 10, 11, 59, 172, 84, 173, 174, 175, 176, 177, 178, 126, 179, 180, 181, 182, 183, 184, 185, 186, 187, 188, 189, 190, 191, 192, 193, 194, 195, 138, 196, 1424, 1425, 1426, 1427, 1428, 1429, 1430, 1431, 1432, 1433, 1434, 1435, 1436, 1437, 1438, 1439, 1440, 1441, 1442, 1443, 1444, 1445, 1446, 1447, 1448, 1449, 1450, 1451, 1452, 1453, 1454, 1455, 1456, 1457, 1458, 1459, 1460, 1461, 1462, 1463, 1464, 1465, 1466, 1467] (by decide +kernel) (by decide +kernel)
set_option maxRecDepth 20000 in
theorem gL_law_X12_init : GoodIn wsL_law (wsX12_init) := ggL_law_X12_init
set_option maxRecDepth 20000 in
theorem ggL_law_X11_feed : GoodIn wsL_law wsX11_feed := goodIn_r _ [200, 15, 201, 202, 203, 204, 14, 205, 61, 60, 1411, 1412, 1413, 1414, 1415, 1416, 1417, 1418, 1419, 1420, 1421, 1422, 1423, 1468, 1469, 1470, 1471, 1472] (by decide +kernel) (by decide +kernel)
set_option maxRecDepth 20000 in
theorem gL_law_X11_feed : GoodIn wsL_law (wsV RL 13 RX11 yX11_feed wsX11_feed) := goodIn_app (goodIn_of _ (by decide +kernel)) ggL_law_X11_feed
set_option maxRecDepth 20000 in
theorem ggL_law_X12_feed : GoodIn wsL_law wsX12_feed := goodIn_r _ [209, 210, 211, 212, 213, 5, 214, 172, 1424, 1425, 1426, 1427, 1428, 1429, 1430, 1431, 1432, 1433, 1434, 1435, 1436, 1437, 1438, 1439, 1440, 1441, 1442, 1443, 1444, 1445, 1446, 1447, 1448, 1449, 1450, 1451, 1452, 1453, 1454, 1455, 1456, 1457, 1458, 1459, 1460, 1461, 1462, 1463, 1464, 1465, 1466, 1467] (by decide +kernel) (by decide +kernel)
set_option maxRecDepth 20000 in
theorem gL_law_X12_feed : GoodIn wsL_law (wsV RL 17 RX12 yX12_feed wsX12_feed) := goodIn_app (goodIn_of _ (by decide +kernel)) ggL_law_X12_feed
set_option maxRecDepth 20000 in
theorem ggL_law_X11_end : GoodIn wsL_law wsX11_end := goodIn_r _ [218, 15, 201, 1411, 1412, 1413, 1414, 1415, 1416, 1417, 1418, 1419, 1420, 1421, 1422, 1423, 1468, 1469, 1470, 1471, 1472] (by decide +kernel) (by decide +kernel)
set_option maxRecDepth 20000 in
theorem gL_law_X11_end : GoodIn wsL_law (wsV RL 18 RX11 yX11_end wsX11_end) := goodIn_app (goodIn_of _ (by decide +kernel)) ggL_law_X11_end
set_option maxRecDepth 20000 in
theorem ggL_law_X12_end : GoodIn wsL_law wsX12_end := goodIn_r _ [222, 210, 1424, 1425, 1426, 1427, 1428, 1429, 1430, 1431, 1432, 1433, 1434, 1435, 1436, 1437, 1438, 1439, 1440, 1441, 1442, 1443, 1444, 1445, 1446, 1447, 1448, 1449, 1450, 1451, 1452, 1453, 1454, 1455, 1456, 1457, 1458, 1459, 1460, 1461, 1462, 1463, 1464, 1465, 1466, 1467] (by decide +kernel) (by decide +kernel)
set_option maxRecDepth 20000 in
theorem gL_law_X12_end : GoodIn wsL_law (wsV RL 22 RX12 yX12_end wsX12_end) := goodIn_app (goodIn_of _ (by decide +kernel)) ggL_law_X12_end
set_option maxRecDepth 20000 in
theorem ggL_law_X11_town : GoodIn wsL_law wsX11_town := goodIn_r _ [226, 19, 15, 227, 30, 228, 201, 229, 230, 231, 232, 233, 18, 234, 70, 71, 235, 236, 237, 34, 238, 76, 77, 78, 79, 80, 81, 82, 83, 85, 86, 87, 88, 89, 90, 91, 239, 240, 241, 14, 242, 62, 64, 63, 243, 244, 245, 246, 247, 248, 249, 250, 251, 252, 253, 61, 60, 254, 255, 256, 257, 258, 259, 260, 261, 262, 263, 264, 265, 266, 267, 268, 269, 270, 271, 272, 273, 274, 275, 276, 277, 278, 279, 280, 281, 282, 283, 284, 285, 286, 287, 288, 289, 290, 291, 292, 293, 294, 295, 296, 297, 298, 299, 300, 301, 302, 303, 304, 305, 306, 307, 308, 309, 310, 311, 312, 313, 314, 315, 316, 317, 318, 319, 320, 321, 322, 323, 324, 325, 326, 327, 328, 329, 330, 331, 332, 333, 334, 335, 336, 337, 338, 339, 340, 341, 342, 343, 344, 345, 346, 347, 348, 349, 350, 351, 352, 353, 354, 355, 356, 357, 358, 359, 360, 361, 362, 363, 364, 365, 366, 367, 368, 369, 370, 371, 372, 373, 374, 375, 376, 377, 378, 379, 380, 381, 382, 383, 384, 385, 386, 387, 388, 29, 389, 106, 109, 113, 114, 390, 391, 392, 393, 394, 395, 396, 397, 120, 1411, 1412, 1413, 1414, 1415, 1416, 1417, 1418, 1419, 1420, 1421, 1422, 1423, 1468, 1469, 1470, 1471, 1472, 1473, 1474, 1480, 1481, 1482, 1483, 1484, 1485, 1486, 1487, 1488, 1489, 1490, 1491, 1492, 1493, 1494, 1495, 1496, 1497, 1498, 1499, 1500, 1501, 1502, 1503] (by decide +kernel) (by decide +kernel)
set_option maxRecDepth 20000 in
theorem gL_law_X11_town : GoodIn wsL_law (wsV RL 23 RX11 yX11_town wsX11_town) := goodIn_app (goodIn_of _ (by decide +kernel)) ggL_law_X11_town
set_option maxRecDepth 20000 in
theorem ggL_law_X12_town : GoodIn wsL_law wsX12_town := goodIn_r _ [401, 402, 177, 403, 181, 404, 405, 406, 407, 5, 408, 174, 409, 410, 411, 210, 412, 413, 414, 415, 416, 417, 418, 419, 420, 172, 421, 422, 423, 424, 425, 426, 427, 428, 429, 430, 431, 432, 433, 434, 435, 436, 437, 438, 439, 440, 441, 442, 443, 444, 445, 446, 447, 448, 449, 450, 451, 452, 453, 454, 455, 456, 457, 458, 459, 460, 461, 462, 463, 464, 465, 466, 467, 468, 469, 470, 471, 472, 473, 474, 475, 476, 477, 478, 479, 480, 481, 482, 483, 484, 485, 486, 487, 176, 175, 488, 489, 490, 491, 492, 493, 494, 495, 496, 497, 498, 499, 500, 501, 502, 503, 504, 505, 506, 507, 508, 509, 173, 510, 511, 512, 513, 514, 515, 516, 517, 518, 519, 520, 521, 522, 523, 524, 525, 526, 527, 528, 529, 530, 531, 532, 533, 534, 178, 535, 536, 537, 538, 539, 540, 541, 542, 543, 544, 545, 546, 547, 548, 549, 550, 551, 552, 553, 554, 555, 556, 557, 558, 559, 560, 561, 562, 1424, 1425, 1426, 1427, 1428, 1429, 1430, 1431, 1432, 1433, 1434, 1435, 1436, 1437, 1438, 1439, 1440, 1441, 1442, 1443, 1444, 1445, 1446, 1447, 1448, 1449, 1450, 1451, 1452, 1453, 1454, 1455, 1456, 1457, 1458, 1459, 1460, 1461, 1462, 1463, 1464, 1465, 1466, 1467] (by decide +kernel) (by decide +kernel)
set_option maxRecDepth 20000 in
theorem gL_law_X12_town : GoodIn wsL_law (wsV RL 27 RX12 yX12_town wsX12_town) := goodIn_app (goodIn_of _ (by decide +kernel)) ggL_law_X12_town
set_option maxRecDepth 20000 in
theorem ggL_law_X11_rule : GoodIn wsL_law wsX11_rule := goodIn_r _ [566, 26, 23, 15, 201, 227, 25, 567, 568, 569, 22, 570, 97, 98, 99, 100, 571, 240, 241, 14, 242, 62, 64, 63, 572, 573, 574, 575, 576, 577, 578, 251, 252, 253, 61, 60, 254, 255, 256, 257, 258, 259, 260, 261, 262, 263, 264, 265, 266, 267, 268, 269, 270, 271, 272, 273, 274, 275, 276, 277, 278, 279, 280, 281, 282, 283, 284, 285, 286, 287, 288, 289, 290, 291, 292, 293, 294, 295, 296, 297, 298, 299, 300, 301, 302, 303, 304, 305, 306, 579, 308, 309, 310, 580, 581, 582, 583, 584, 585, 586, 587, 588, 589, 590, 322, 323, 324, 591, 318, 319, 320, 321, 325, 326, 327, 328, 329, 592, 593, 594, 595, 96, 596, 383, 384, 385, 597, 598, 599, 600, 601, 602, 603, 604, 605, 606, 607, 608, 609, 610, 379, 380, 381, 382, 611, 375, 376, 377, 612, 613, 614, 615, 616, 617, 618, 619, 620, 90, 621, 622, 623, 624, 625, 626, 627, 84, 628, 629, 630, 631, 632, 395, 396, 397, 633, 634, 635, 636, 10, 11, 637, 638, 1411, 1412, 1413, 1414, 1415, 1416, 1417, 1418, 1419, 1420, 1421, 1422, 1423, 1468, 1469, 1470, 1471, 1472, 1475, 1476, 1477, 1478, 1479, 1533, 1534] (by decide +kernel) (by decide +kernel)
set_option maxRecDepth 20000 in
theorem gL_law_X11_rule : GoodIn wsL_law (wsV RL 28 RX11 yX11_rule wsX11_rule) := goodIn_app (goodIn_of _ (by decide +kernel)) ggL_law_X11_rule
set_option maxRecDepth 20000 in
theorem ggL_law_X12_rule : GoodIn wsL_law wsX12_rule := goodIn_r _ [642, 643, 402, 176, 403, 405, 406, 407, 5, 408, 174, 409, 410, 411, 210, 412, 413, 414, 415, 416, 417, 418, 419, 420, 172, 421, 422, 423, 424, 425, 426, 427, 428, 429, 430, 431, 432, 433, 434, 435, 436, 437, 438, 439, 440, 441, 442, 443, 444, 445, 446, 447, 177, 448, 449, 450, 451, 452, 453, 454, 455, 456, 457, 458, 459, 460, 461, 462, 463, 464, 465, 466, 467, 468, 469, 470, 471, 472, 473, 474, 475, 476, 477, 478, 479, 480, 481, 482, 483, 484, 485, 486, 487, 175, 488, 489, 490, 491, 492, 493, 494, 495, 496, 497, 498, 499, 500, 501, 502, 503, 504, 505, 506, 507, 508, 509, 173, 510, 511, 512, 513, 514, 515, 516, 517, 518, 519, 520, 521, 522, 523, 524, 525, 526, 527, 528, 529, 530, 531, 532, 533, 534, 178, 535, 536, 537, 538, 539, 540, 541, 542, 543, 544, 545, 546, 547, 548, 549, 550, 551, 552, 553, 554, 555, 556, 557, 558, 559, 560, 561, 562, 1424, 1425, 1426, 1427, 1428, 1429, 1430, 1431, 1432, 1433, 1434, 1435, 1436, 1437, 1438, 1439, 1440, 1441, 1442, 1443, 1444, 1445, 1446, 1447, 1448, 1449, 1450, 1451, 1452, 1453, 1454, 1455, 1456, 1457, 1458, 1459, 1460, 1461, 1462, 1463, 1464, 1465, 1466, 1467] (by decide +kernel) (by decide +kernel)
set_option maxRecDepth 20000 in
theorem gL_law_X12_rule : GoodIn wsL_law (wsV RL 31 RX12 yX12_rule wsX12_rule) := goodIn_app (goodIn_of _ (by decide +kernel)) ggL_law_X12_rule
set_option maxRecDepth 20000 in
theorem ggL_law_X11_force : GoodIn wsL_law wsX11_force := goodIn_r _ [647, 26, 30, 648, 1411, 1412, 1413, 1414, 1415, 1416, 1417, 1418, 1419, 1420, 1421, 1422, 1423, 1480, 1481, 1482, 1483, 1484, 1485, 1486, 1487, 1488, 1489, 1490, 1491, 1492] (by decide +kernel) (by decide +kernel)
set_option maxRecDepth 20000 in
theorem gL_law_X11_force : GoodIn wsL_law (wsV RL 32 RX11 yX11_force wsX11_force) := goodIn_app (goodIn_of _ (by decide +kernel)) ggL_law_X11_force
set_option maxRecDepth 20000 in
theorem ggL_law_X12_force : GoodIn wsL_law wsX12_force := goodIn_r _ [652, 182, 653, 654, 655, 5, 656, 643, 1424, 1425, 1426, 1427, 1428, 1429, 1430, 1431, 1432, 1433, 1434, 1435, 1436, 1437, 1438, 1439, 1440, 1441, 1442, 1443, 1444, 1445, 1446, 1447, 1448, 1449, 1450, 1451, 1452, 1453, 1454, 1455, 1456, 1457, 1458, 1459, 1460, 1461, 1462, 1463, 1464, 1465, 1466, 1467] (by decide +kernel) (by decide +kernel)
set_option maxRecDepth 20000 in
theorem gL_law_X12_force : GoodIn wsL_law (wsV RL 35 RX12 yX12_force wsX12_force) := goodIn_app (goodIn_of _ (by decide +kernel)) ggL_law_X12_force
set_option maxRecDepth 20000 in
theorem ggL_law_X11_at : GoodIn wsL_law wsX11_at := goodIn_r _ [660, 30, 229, 661, 346, 347, 34, 348, 78, 662, 350, 351, 352, 77, 663, 664, 665, 666, 86, 345, 349, 1411, 1412, 1413, 1414, 1415, 1416, 1417, 1418, 1419, 1420, 1421, 1422, 1423, 1480, 1481, 1482, 1483, 1484, 1485, 1486, 1487, 1488, 1489, 1490, 1491, 1492, 1493, 1494, 1495, 1496, 1497, 1498, 1499, 1500, 1501, 1502, 1503] (by decide +kernel) (by decide +kernel)
set_option maxRecDepth 20000 in
theorem gL_law_X11_at : GoodIn wsL_law (wsV RL 36 RX11 yX11_at wsX11_at) := goodIn_app (goodIn_of _ (by decide +kernel)) ggL_law_X11_at
set_option maxRecDepth 20000 in
theorem ggL_law_X12_at : GoodIn wsL_law wsX12_at := goodIn_r _ [670, 671, 672, 673, 5, 674, 181, 675, 676, 677, 678, 679, 680, 681, 682, 1424, 1425, 1426, 1427, 1428, 1429, 1430, 1431, 1432, 1433, 1434, 1435, 1436, 1437, 1438, 1439, 1440, 1441, 1442, 1443, 1444, 1445, 1446, 1447, 1448, 1449, 1450, 1451, 1452, 1453, 1454, 1455, 1456, 1457, 1458, 1459, 1460, 1461, 1462, 1463, 1464, 1465, 1466, 1467] (by decide +kernel) (by decide +kernel)
set_option maxRecDepth 20000 in
theorem gL_law_X12_at : GoodIn wsL_law (wsV RL 40 RX12 yX12_at wsX12_at) := goodIn_app (goodIn_of _ (by decide +kernel)) ggL_law_X12_at
set_option maxRecDepth 20000 in
theorem ggL_law_X11_person : GoodIn wsL_law wsX11_person := goodIn_r _ [686, 30, 229, 687, 688, 689, 690, 661, 346, 347, 34, 348, 78, 691, 692, 693, 694, 77, 695, 664, 665, 666, 86, 345, 349, 350, 351, 352, 696, 697, 698, 699, 87, 357, 338, 339, 340, 76, 1411, 1412, 1413, 1414, 1415, 1416, 1417, 1418, 1419, 1420, 1421, 1422, 1423, 1480, 1481, 1482, 1483, 1484, 1485, 1486, 1487, 1488, 1489, 1490, 1491, 1492, 1493, 1494, 1495, 1496, 1497, 1498, 1499, 1500, 1501, 1502, 1503] (by decide +kernel) (by decide +kernel)
set_option maxRecDepth 20000 in
theorem gL_law_X11_person : GoodIn wsL_law (wsV RL 41 RX11 yX11_person wsX11_person) := goodIn_app (goodIn_of _ (by decide +kernel)) ggL_law_X11_person
set_option maxRecDepth 20000 in
theorem ggL_law_X12_person : GoodIn wsL_law wsX12_person := goodIn_r _ [703, 704, 671, 672, 673, 5, 674, 181, 465, 466, 467, 705, 706, 707, 708, 709, 710, 711, 712, 713, 714, 715, 716, 717, 718, 719, 720, 679, 680, 681, 682, 1424, 1425, 1426, 1427, 1428, 1429, 1430, 1431, 1432, 1433, 1434, 1435, 1436, 1437, 1438, 1439, 1440, 1441, 1442, 1443, 1444, 1445, 1446, 1447, 1448, 1449, 1450, 1451, 1452, 1453, 1454, 1455, 1456, 1457, 1458, 1459, 1460, 1461, 1462, 1463, 1464, 1465, 1466, 1467] (by decide +kernel) (by decide +kernel)
set_option maxRecDepth 20000 in
theorem gL_law_X12_person : GoodIn wsL_law (wsV RL 44 RX12 yX12_person wsX12_person) := goodIn_app (goodIn_of _ (by decide +kernel)) ggL_law_X12_person
set_option maxRecDepth 20000 in
theorem ggL_law_X11_crowd : GoodIn wsL_law wsX11_crowd := goodIn_r _ [724, 30, 229, 725, 726, 727, 2, 728, 729, 338, 339, 34, 340, 76, 662, 350, 351, 352, 77, 730, 697, 698, 699, 87, 357, 349, 1411, 1412, 1413, 1414, 1415, 1416, 1417, 1418, 1419, 1420, 1421, 1422, 1423, 1480, 1481, 1482, 1483, 1484, 1485, 1486, 1487, 1488, 1489, 1490, 1491, 1492, 1493, 1494, 1495, 1496, 1497, 1498, 1499, 1500, 1501, 1502, 1503] (by decide +kernel) (by decide +kernel)
set_option maxRecDepth 20000 in
theorem gL_law_X11_crowd : GoodIn wsL_law (wsV RL 45 RX11 yX11_crowd wsX11_crowd) := goodIn_app (goodIn_of _ (by decide +kernel)) ggL_law_X11_crowd
set_option maxRecDepth 20000 in
theorem ggL_law_X12_crowd : GoodIn wsL_law wsX12_crowd := goodIn_r _ [734, 735, 736, 737, 5, 738, 181, 675, 676, 677, 678, 739, 740, 741, 742, 743, 744, 745, 746, 747, 748, 749, 679, 680, 681, 682, 1424, 1425, 1426, 1427, 1428, 1429, 1430, 1431, 1432, 1433, 1434, 1435, 1436, 1437, 1438, 1439, 1440, 1441, 1442, 1443, 1444, 1445, 1446, 1447, 1448, 1449, 1450, 1451, 1452, 1453, 1454, 1455, 1456, 1457, 1458, 1459, 1460, 1461, 1462, 1463, 1464, 1465, 1466, 1467] (by decide +kernel) (by decide +kernel)
set_option maxRecDepth 20000 in
theorem gL_law_X12_crowd : GoodIn wsL_law (wsV RL 48 RX12 yX12_crowd wsX12_crowd) := goodIn_app (goodIn_of _ (by decide +kernel)) ggL_law_X12_crowd
set_option maxRecDepth 20000 in
theorem ggL_law_X11_shake : GoodIn wsL_law wsX11_shake := goodIn_r _ [753, 30, 229, 754, 629, 630, 631, 755, 756, 757, 661, 346, 347, 34, 348, 78, 662, 350, 351, 352, 77, 758, 759, 760, 761, 695, 664, 665, 666, 86, 345, 349, 663, 730, 697, 698, 699, 87, 357, 338, 339, 340, 76, 762, 763, 764, 765, 766, 767, 768, 769, 770, 771, 2, 772, 648, 25, 39, 773, 774, 775, 776, 38, 777, 125, 127, 778, 779, 780, 781, 128, 782, 783, 784, 785, 786, 787, 788, 789, 85, 790, 791, 792, 793, 81, 82, 80, 794, 795, 796, 797, 798, 618, 799, 637, 800, 801, 802, 803, 804, 805, 806, 807, 808, 809, 810, 811, 812, 813, 1411, 1412, 1413, 1414, 1415, 1416, 1417, 1418, 1419, 1420, 1421, 1422, 1423, 1480, 1481, 1482, 1483, 1484, 1485, 1486, 1487, 1488, 1489, 1490, 1491, 1492, 1493, 1494, 1495, 1496, 1497, 1498, 1499, 1500, 1501, 1502, 1503, 1504, 1505, 1506, 1507, 1533, 1534] (by decide +kernel) (by decide +kernel)
set_option maxRecDepth 20000 in
theorem gL_law_X11_shake : GoodIn wsL_law (wsV RL 49 RX11 yX11_shake wsX11_shake) := goodIn_app (goodIn_of _ (by decide +kernel)) ggL_law_X11_shake
set_option maxRecDepth 20000 in
theorem ggL_law_X12_shake : GoodIn wsL_law wsX12_shake := goodIn_r _ [817, 671, 672, 673, 5, 674, 181, 675, 676, 677, 678, 717, 718, 719, 720, 679, 680, 681, 682, 739, 740, 741, 742, 743, 744, 745, 746, 747, 748, 749, 818, 819, 820, 821, 822, 823, 824, 182, 180, 176, 175, 825, 826, 827, 828, 829, 830, 705, 706, 707, 708, 831, 832, 833, 834, 835, 836, 837, 838, 839, 173, 840, 841, 842, 843, 179, 844, 845, 846, 847, 848, 849, 850, 1424, 1425, 1426, 1427, 1428, 1429, 1430, 1431, 1432, 1433, 1434, 1435, 1436, 1437, 1438, 1439, 1440, 1441, 1442, 1443, 1444, 1445, 1446, 1447, 1448, 1449, 1450, 1451, 1452, 1453, 1454, 1455, 1456, 1457, 1458, 1459, 1460, 1461, 1462, 1463, 1464, 1465, 1466, 1467] (by decide +kernel) (by decide +kernel)
set_option maxRecDepth 20000 in
theorem gL_law_X12_shake : GoodIn wsL_law (wsV RL 53 RX12 yX12_shake wsX12_shake) := goodIn_app (goodIn_of _ (by decide +kernel)) ggL_law_X12_shake
set_option maxRecDepth 20000 in
theorem ggL_law_X11_sum : GoodIn wsL_law wsX11_sum := goodIn_r _ [854, 30, 229, 855, 725, 726, 727, 2, 728, 729, 338, 339, 34, 340, 76, 662, 350, 351, 352, 77, 769, 770, 771, 772, 648, 25, 39, 773, 856, 857, 858, 38, 859, 129, 860, 697, 698, 699, 87, 357, 349, 861, 862, 863, 775, 776, 777, 125, 127, 778, 779, 780, 781, 128, 782, 783, 784, 785, 86, 345, 346, 347, 348, 78, 786, 787, 788, 789, 85, 790, 791, 792, 793, 81, 82, 80, 794, 664, 665, 666, 795, 763, 764, 765, 766, 767, 768, 796, 797, 798, 618, 799, 637, 800, 801, 802, 803, 804, 805, 806, 630, 807, 808, 809, 810, 811, 812, 813, 1411, 1412, 1413, 1414, 1415, 1416, 1417, 1418, 1419, 1420, 1421, 1422, 1423, 1480, 1481, 1482, 1483, 1484, 1485, 1486, 1487, 1488, 1489, 1490, 1491, 1492, 1493, 1494, 1495, 1496, 1497, 1498, 1499, 1500, 1501, 1502, 1503, 1504, 1505, 1506, 1507, 1533, 1534] (by decide +kernel) (by decide +kernel)
set_option maxRecDepth 20000 in
theorem gL_law_X11_sum : GoodIn wsL_law (wsV RL 54 RX11 yX11_sum wsX11_sum) := goodIn_app (goodIn_of _ (by decide +kernel)) ggL_law_X11_sum
set_option maxRecDepth 20000 in
theorem ggL_law_X12_sum : GoodIn wsL_law wsX12_sum := goodIn_r _ [867, 868, 735, 736, 737, 5, 738, 181, 675, 676, 677, 678, 739, 740, 741, 742, 869, 870, 871, 872, 743, 744, 745, 746, 747, 748, 749, 679, 680, 681, 682, 818, 819, 820, 821, 822, 823, 824, 182, 180, 176, 175, 825, 826, 827, 828, 829, 830, 717, 718, 719, 720, 705, 706, 707, 708, 831, 832, 833, 834, 835, 836, 837, 838, 839, 173, 840, 841, 842, 843, 179, 844, 845, 846, 847, 848, 849, 850, 1424, 1425, 1426, 1427, 1428, 1429, 1430, 1431, 1432, 1433, 1434, 1435, 1436, 1437, 1438, 1439, 1440, 1441, 1442, 1443, 1444, 1445, 1446, 1447, 1448, 1449, 1450, 1451, 1452, 1453, 1454, 1455, 1456, 1457, 1458, 1459, 1460, 1461, 1462, 1463, 1464, 1465, 1466, 1467] (by decide +kernel) (by decide +kernel)
set_option maxRecDepth 20000 in
theorem gL_law_X12_sum : GoodIn wsL_law (wsV RL 57 RX12 yX12_sum wsX12_sum) := goodIn_app (goodIn_of _ (by decide +kernel)) ggL_law_X12_sum
set_option maxRecDepth 20000 in
theorem ggL_law_X11_heard : GoodIn wsL_law wsX11_heard := goodIn_r _ [876, 30, 229, 877, 855, 725, 726, 727, 2, 728, 729, 338, 339, 34, 340, 76, 662, 350, 351, 352, 77, 769, 770, 771, 772, 648, 25, 39, 773, 856, 857, 858, 38, 859, 129, 860, 697, 698, 699, 87, 357, 349, 861, 862, 863, 775, 776, 777, 125, 127, 778, 779, 780, 781, 128, 782, 783, 784, 785, 86, 345, 346, 347, 348, 78, 786, 787, 788, 789, 85, 790, 791, 792, 793, 81, 82, 80, 794, 664, 665, 666, 795, 763, 764, 765, 766, 767, 768, 796, 797, 798, 618, 799, 637, 800, 801, 802, 803, 804, 805, 806, 630, 807, 808, 809, 810, 811, 812, 813, 1411, 1412, 1413, 1414, 1415, 1416, 1417, 1418, 1419, 1420, 1421, 1422, 1423, 1480, 1481, 1482, 1483, 1484, 1485, 1486, 1487, 1488, 1489, 1490, 1491, 1492, 1493, 1494, 1495, 1496, 1497, 1498, 1499, 1500, 1501, 1502, 1503, 1504, 1505, 1506, 1507, 1533, 1534] (by decide +kernel) (by decide +kernel)
set_option maxRecDepth 20000 in
theorem gL_law_X11_heard : GoodIn wsL_law (wsV RL 58 RX11 yX11_heard wsX11_heard) := goodIn_app (goodIn_of _ (by decide +kernel)) ggL_law_X11_heard
set_option maxRecDepth 20000 in
theorem ggL_law_X12_heard : GoodIn wsL_law wsX12_heard := goodIn_r _ [881, 181, 868, 735, 736, 737, 5, 738, 675, 676, 677, 678, 747, 748, 749, 739, 740, 741, 742, 869, 870, 871, 872, 743, 744, 745, 746, 679, 680, 681, 682, 818, 819, 820, 821, 822, 823, 824, 182, 180, 176, 175, 825, 826, 827, 828, 829, 830, 717, 718, 719, 720, 705, 706, 707, 708, 831, 832, 833, 834, 835, 836, 837, 838, 839, 173, 840, 841, 842, 843, 179, 844, 845, 846, 847, 848, 849, 850, 1424, 1425, 1426, 1427, 1428, 1429, 1430, 1431, 1432, 1433, 1434, 1435, 1436, 1437, 1438, 1439, 1440, 1441, 1442, 1443, 1444, 1445, 1446, 1447, 1448, 1449, 1450, 1451, 1452, 1453, 1454, 1455, 1456, 1457, 1458, 1459, 1460, 1461, 1462, 1463, 1464, 1465, 1466, 1467] (by decide +kernel) (by decide +kernel)
set_option maxRecDepth 20000 in
theorem gL_law_X12_heard : GoodIn wsL_law (wsV RL 61 RX12 yX12_heard wsX12_heard) := goodIn_app (goodIn_of _ (by decide +kernel)) ggL_law_X12_heard
set_option maxRecDepth 20000 in
theorem ggL_law_X11_total : GoodIn wsL_law wsX11_total := goodIn_r _ [885, 30, 229, 769, 770, 771, 2, 772, 648, 25, 39, 773, 886, 887, 888, 38, 889, 890, 891, 892, 893, 894, 895, 896, 857, 858, 859, 129, 860, 697, 698, 34, 699, 87, 357, 338, 339, 340, 76, 349, 350, 351, 352, 77, 861, 862, 863, 775, 776, 777, 125, 127, 778, 779, 780, 781, 128, 782, 783, 784, 785, 86, 345, 346, 347, 348, 78, 786, 787, 788, 789, 85, 790, 791, 792, 793, 81, 82, 80, 794, 664, 665, 666, 795, 763, 764, 765, 766, 767, 768, 796, 797, 798, 618, 799, 637, 800, 801, 802, 803, 804, 805, 806, 630, 807, 808, 809, 810, 811, 812, 813, 1411, 1412, 1413, 1414, 1415, 1416, 1417, 1418, 1419, 1420, 1421, 1422, 1423, 1480, 1481, 1482, 1483, 1484, 1485, 1486, 1487, 1488, 1489, 1490, 1491, 1492, 1504, 1505, 1506, 1507, 1493, 1494, 1495, 1496, 1497, 1498, 1499, 1500, 1501, 1502, 1503, 1533, 1534] (by decide +kernel) (by decide +kernel)
set_option maxRecDepth 20000 in
theorem gL_law_X11_total : GoodIn wsL_law (wsV RL 62 RX11 yX11_total wsX11_total) := goodIn_app (goodIn_of _ (by decide +kernel)) ggL_law_X11_total
set_option maxRecDepth 20000 in
theorem ggL_law_X12_total : GoodIn wsL_law wsX12_total := goodIn_r _ [900, 901, 902, 903, 5, 904, 181, 739, 740, 741, 742, 869, 870, 871, 872, 743, 744, 745, 746, 747, 748, 749, 679, 680, 681, 682, 818, 819, 820, 821, 822, 823, 824, 182, 180, 176, 175, 825, 826, 827, 828, 829, 830, 717, 718, 719, 720, 705, 706, 707, 708, 831, 832, 833, 834, 835, 836, 837, 838, 839, 173, 840, 841, 842, 843, 179, 844, 845, 846, 847, 848, 849, 850, 1424, 1425, 1426, 1427, 1428, 1429, 1430, 1431, 1432, 1433, 1434, 1435, 1436, 1437, 1438, 1439, 1440, 1441, 1442, 1443, 1444, 1445, 1446, 1447, 1448, 1449, 1450, 1451, 1452, 1453, 1454, 1455, 1456, 1457, 1458, 1459, 1460, 1461, 1462, 1463, 1464, 1465, 1466, 1467] (by decide +kernel) (by decide +kernel)
set_option maxRecDepth 20000 in
theorem gL_law_X12_total : GoodIn wsL_law (wsV RL 65 RX12 yX12_total wsX12_total) := goodIn_app (goodIn_of _ (by decide +kernel)) ggL_law_X12_total
set_option maxRecDepth 20000 in
theorem ggL_law_X11_street : GoodIn wsL_law wsX11_street := goodIn_r _ [908, 30, 229, 909, 855, 662, 350, 351, 34, 352, 77, 769, 770, 771, 2, 772, 648, 25, 39, 773, 910, 893, 894, 38, 895, 890, 896, 857, 858, 859, 129, 860, 697, 698, 699, 87, 357, 338, 339, 340, 76, 349, 861, 862, 863, 775, 776, 777, 125, 127, 778, 779, 780, 781, 128, 782, 783, 784, 785, 86, 345, 346, 347, 348, 78, 786, 787, 788, 789, 85, 790, 791, 792, 793, 81, 82, 80, 794, 664, 665, 666, 795, 763, 764, 765, 766, 767, 768, 796, 797, 798, 618, 799, 637, 800, 801, 802, 803, 804, 805, 806, 630, 807, 808, 809, 810, 811, 812, 813, 1411, 1412, 1413, 1414, 1415, 1416, 1417, 1418, 1419, 1420, 1421, 1422, 1423, 1480, 1481, 1482, 1483, 1484, 1485, 1486, 1487, 1488, 1489, 1490, 1491, 1492, 1493, 1494, 1495, 1496, 1497, 1498, 1499, 1500, 1501, 1502, 1503, 1504, 1505, 1506, 1507, 1533, 1534] (by decide +kernel) (by decide +kernel)
set_option maxRecDepth 20000 in
theorem gL_law_X11_street : GoodIn wsL_law (wsV RL 66 RX11 yX11_street wsX11_street) := goodIn_app (goodIn_of _ (by decide +kernel)) ggL_law_X11_street
set_option maxRecDepth 20000 in
theorem ggL_law_X12_street : GoodIn wsL_law wsX12_street := goodIn_r _ [914, 181, 868, 915, 916, 917, 5, 918, 675, 676, 677, 678, 747, 748, 749, 739, 740, 741, 742, 869, 870, 871, 872, 743, 744, 745, 746, 679, 680, 681, 682, 818, 819, 820, 821, 822, 823, 824, 182, 180, 176, 175, 825, 826, 827, 828, 829, 830, 717, 718, 719, 720, 705, 706, 707, 708, 831, 832, 833, 834, 835, 836, 837, 838, 839, 173, 840, 841, 842, 843, 179, 844, 845, 846, 847, 848, 849, 850, 1424, 1425, 1426, 1427, 1428, 1429, 1430, 1431, 1432, 1433, 1434, 1435, 1436, 1437, 1438, 1439, 1440, 1441, 1442, 1443, 1444, 1445, 1446, 1447, 1448, 1449, 1450, 1451, 1452, 1453, 1454, 1455, 1456, 1457, 1458, 1459, 1460, 1461, 1462, 1463, 1464, 1465, 1466, 1467] (by decide +kernel) (by decide +kernel)
set_option maxRecDepth 20000 in
theorem gL_law_X12_street : GoodIn wsL_law (wsV RL 69 RX12 yX12_street wsX12_street) := goodIn_app (goodIn_of _ (by decide +kernel)) ggL_law_X12_street
set_option maxRecDepth 20000 in
theorem ggL_law_X11_busy : GoodIn wsL_law wsX11_busy := goodIn_r _ [922, 55, 30, 229, 923, 909, 924, 925, 926, 927, 928, 2, 929, 930, 931, 932, 54, 933, 164, 769, 770, 771, 772, 648, 25, 39, 773, 856, 857, 858, 38, 859, 129, 860, 697, 698, 34, 699, 87, 357, 338, 339, 340, 76, 349, 350, 351, 352, 77, 861, 862, 863, 775, 776, 777, 125, 127, 778, 779, 780, 781, 128, 782, 783, 784, 785, 86, 345, 346, 347, 348, 78, 786, 787, 788, 789, 85, 790, 791, 792, 793, 81, 82, 80, 794, 664, 665, 666, 795, 763, 764, 765, 766, 767, 768, 796, 797, 798, 618, 799, 637, 800, 801, 802, 803, 804, 805, 806, 630, 807, 808, 809, 810, 811, 812, 813, 934, 935, 936, 937, 165, 166, 167, 1411, 1412, 1413, 1414, 1415, 1416, 1417, 1418, 1419, 1420, 1421, 1422, 1423, 1480, 1481, 1482, 1483, 1484, 1485, 1486, 1487, 1488, 1489, 1490, 1491, 1492, 1493, 1494, 1495, 1496, 1497, 1498, 1499, 1500, 1501, 1502, 1503, 1529, 1530, 1531, 1532, 1504, 1505, 1506, 1507, 1533, 1534] (by decide +kernel) (by decide +kernel)
set_option maxRecDepth 20000 in
theorem gL_law_X11_busy : GoodIn wsL_law (wsV RL 70 RX11 yX11_busy wsX11_busy) := goodIn_app (goodIn_of _ (by decide +kernel)) ggL_law_X11_busy
set_option maxRecDepth 20000 in
theorem ggL_law_X12_busy : GoodIn wsL_law wsX12_busy := goodIn_r _ [941, 181, 915, 916, 917, 5, 918, 465, 466, 467, 739, 740, 741, 742, 869, 870, 871, 872, 743, 744, 745, 746, 747, 748, 749, 679, 680, 681, 682, 818, 819, 820, 821, 822, 823, 824, 182, 180, 176, 175, 825, 826, 827, 828, 829, 830, 717, 718, 719, 720, 705, 706, 707, 708, 831, 832, 833, 834, 835, 836, 837, 838, 839, 173, 840, 841, 842, 843, 179, 844, 845, 846, 847, 848, 849, 850, 1424, 1425, 1426, 1427, 1428, 1429, 1430, 1431, 1432, 1433, 1434, 1435, 1436, 1437, 1438, 1439, 1440, 1441, 1442, 1443, 1444, 1445, 1446, 1447, 1448, 1449, 1450, 1451, 1452, 1453, 1454, 1455, 1456, 1457, 1458, 1459, 1460, 1461, 1462, 1463, 1464, 1465, 1466, 1467] (by decide +kernel) (by decide +kernel)
set_option maxRecDepth 20000 in
theorem gL_law_X12_busy : GoodIn wsL_law (wsV RL 73 RX12 yX12_busy wsX12_busy) := goodIn_app (goodIn_of _ (by decide +kernel)) ggL_law_X12_busy
set_option maxRecDepth 20000 in
theorem ggL_law_X11_go : GoodIn wsL_law wsX11_go := goodIn_r _ [945, 30, 229, 855, 661, 346, 347, 34, 348, 78, 662, 350, 351, 352, 77, 946, 354, 355, 356, 357, 338, 339, 340, 76, 663, 664, 665, 666, 86, 345, 349, 947, 948, 949, 29, 950, 114, 115, 116, 117, 118, 951, 952, 953, 954, 395, 396, 397, 955, 342, 343, 344, 87, 353, 769, 770, 771, 2, 772, 648, 25, 39, 773, 886, 887, 888, 38, 889, 890, 891, 892, 893, 894, 895, 896, 857, 858, 859, 129, 860, 697, 698, 699, 861, 862, 863, 775, 776, 777, 125, 127, 778, 779, 780, 781, 128, 782, 783, 784, 785, 786, 787, 788, 789, 85, 790, 791, 792, 793, 81, 82, 80, 794, 795, 763, 764, 765, 766, 767, 768, 796, 797, 798, 618, 799, 637, 800, 801, 802, 803, 804, 805, 806, 630, 807, 808, 809, 810, 811, 812, 813, 1411, 1412, 1413, 1414, 1415, 1416, 1417, 1418, 1419, 1420, 1421, 1422, 1423, 1480, 1481, 1482, 1483, 1484, 1485, 1486, 1487, 1488, 1489, 1490, 1491, 1492, 1493, 1494, 1495, 1496, 1497, 1498, 1499, 1500, 1501, 1502, 1503, 1504, 1505, 1506, 1507, 1533, 1534] (by decide +kernel) (by decide +kernel)
set_option maxRecDepth 20000 in
theorem gL_law_X11_go : GoodIn wsL_law (wsV RL 74 RX11 yX11_go wsX11_go) := goodIn_app (goodIn_of _ (by decide +kernel)) ggL_law_X11_go
set_option maxRecDepth 20000 in
theorem ggL_law_X12_go : GoodIn wsL_law wsX12_go := goodIn_r _ [959, 868, 181, 671, 672, 673, 5, 674, 675, 676, 677, 678, 735, 736, 737, 738, 679, 680, 681, 682, 960, 961, 962, 963, 404, 183, 901, 902, 903, 904, 739, 740, 741, 742, 869, 870, 871, 872, 743, 744, 745, 746, 747, 748, 749, 818, 819, 820, 821, 822, 823, 824, 182, 180, 176, 175, 825, 826, 827, 828, 829, 830, 717, 718, 719, 720, 705, 706, 707, 708, 831, 832, 833, 834, 835, 836, 837, 838, 839, 173, 840, 841, 842, 843, 179, 844, 845, 846, 847, 848, 849, 850, 1424, 1425, 1426, 1427, 1428, 1429, 1430, 1431, 1432, 1433, 1434, 1435, 1436, 1437, 1438, 1439, 1440, 1441, 1442, 1443, 1444, 1445, 1446, 1447, 1448, 1449, 1450, 1451, 1452, 1453, 1454, 1455, 1456, 1457, 1458, 1459, 1460, 1461, 1462, 1463, 1464, 1465, 1466, 1467] (by decide +kernel) (by decide +kernel)
set_option maxRecDepth 20000 in
theorem gL_law_X12_go : GoodIn wsL_law (wsV RL 77 RX12 yX12_go wsX12_go) := goodIn_app (goodIn_of _ (by decide +kernel)) ggL_law_X12_go
set_option maxRecDepth 20000 in
theorem ggL_law_X11_glove : GoodIn wsL_law wsX11_glove := goodIn_r _ [967, 30, 229, 688, 661, 346, 347, 34, 348, 78, 947, 948, 949, 29, 950, 114, 115, 116, 117, 118, 951, 952, 953, 954, 395, 396, 397, 1411, 1412, 1413, 1414, 1415, 1416, 1417, 1418, 1419, 1420, 1421, 1422, 1423, 1480, 1481, 1482, 1483, 1484, 1485, 1486, 1487, 1488, 1489, 1490, 1491, 1492, 1493, 1494, 1495, 1496, 1497, 1498, 1499, 1500, 1501, 1502, 1503] (by decide +kernel) (by decide +kernel)
set_option maxRecDepth 20000 in
theorem gL_law_X11_glove : GoodIn wsL_law (wsV RL 78 RX11 yX11_glove wsX11_glove) := goodIn_app (goodIn_of _ (by decide +kernel)) ggL_law_X11_glove
set_option maxRecDepth 20000 in
theorem ggL_law_X12_glove : GoodIn wsL_law wsX12_glove := goodIn_r _ [971, 181, 671, 672, 673, 5, 674, 705, 706, 707, 708, 960, 961, 962, 963, 404, 183, 1424, 1425, 1426, 1427, 1428, 1429, 1430, 1431, 1432, 1433, 1434, 1435, 1436, 1437, 1438, 1439, 1440, 1441, 1442, 1443, 1444, 1445, 1446, 1447, 1448, 1449, 1450, 1451, 1452, 1453, 1454, 1455, 1456, 1457, 1458, 1459, 1460, 1461, 1462, 1463, 1464, 1465, 1466, 1467] (by decide +kernel) (by decide +kernel)
set_option maxRecDepth 20000 in
theorem gL_law_X12_glove : GoodIn wsL_law (wsV RL 82 RX12 yX12_glove wsX12_glove) := goodIn_app (goodIn_of _ (by decide +kernel)) ggL_law_X12_glove
set_option maxRecDepth 20000 in
theorem ggL_law_X11_counter : GoodIn wsL_law wsX11_counter := goodIn_r _ [975, 30, 229, 877, 729, 338, 339, 34, 340, 76, 947, 948, 949, 29, 950, 114, 115, 116, 117, 118, 951, 952, 953, 954, 395, 396, 397, 1411, 1412, 1413, 1414, 1415, 1416, 1417, 1418, 1419, 1420, 1421, 1422, 1423, 1480, 1481, 1482, 1483, 1484, 1485, 1486, 1487, 1488, 1489, 1490, 1491, 1492, 1493, 1494, 1495, 1496, 1497, 1498, 1499, 1500, 1501, 1502, 1503] (by decide +kernel) (by decide +kernel)
set_option maxRecDepth 20000 in
theorem gL_law_X11_counter : GoodIn wsL_law (wsV RL 83 RX11 yX11_counter wsX11_counter) := goodIn_app (goodIn_of _ (by decide +kernel)) ggL_law_X11_counter
set_option maxRecDepth 20000 in
theorem ggL_law_X12_counter : GoodIn wsL_law wsX12_counter := goodIn_r _ [979, 181, 735, 736, 737, 5, 738, 747, 748, 749, 960, 961, 962, 963, 404, 183, 1424, 1425, 1426, 1427, 1428, 1429, 1430, 1431, 1432, 1433, 1434, 1435, 1436, 1437, 1438, 1439, 1440, 1441, 1442, 1443, 1444, 1445, 1446, 1447, 1448, 1449, 1450, 1451, 1452, 1453, 1454, 1455, 1456, 1457, 1458, 1459, 1460, 1461, 1462, 1463, 1464, 1465, 1466, 1467] (by decide +kernel) (by decide +kernel)
set_option maxRecDepth 20000 in
theorem gL_law_X12_counter : GoodIn wsL_law (wsV RL 86 RX12 yX12_counter wsX12_counter) := goodIn_app (goodIn_of _ (by decide +kernel)) ggL_law_X12_counter
set_option maxRecDepth 20000 in
theorem ggL_law_X11_night : GoodIn wsL_law wsX11_night := goodIn_r _ [983, 30, 229, 984, 926, 927, 928, 2, 929, 909, 947, 948, 949, 29, 950, 114, 115, 116, 117, 118, 951, 952, 953, 954, 395, 396, 397, 1411, 1412, 1413, 1414, 1415, 1416, 1417, 1418, 1419, 1420, 1421, 1422, 1423, 1480, 1481, 1482, 1483, 1484, 1485, 1486, 1487, 1488, 1489, 1490, 1491, 1492, 1493, 1494, 1495, 1496, 1497, 1498, 1499, 1500, 1501, 1502, 1503] (by decide +kernel) (by decide +kernel)
set_option maxRecDepth 20000 in
theorem gL_law_X11_night : GoodIn wsL_law (wsV RL 87 RX11 yX11_night wsX11_night) := goodIn_app (goodIn_of _ (by decide +kernel)) ggL_law_X11_night
set_option maxRecDepth 20000 in
theorem ggL_law_X12_night : GoodIn wsL_law wsX12_night := goodIn_r _ [988, 181, 915, 916, 917, 5, 918, 960, 961, 962, 963, 404, 183, 1424, 1425, 1426, 1427, 1428, 1429, 1430, 1431, 1432, 1433, 1434, 1435, 1436, 1437, 1438, 1439, 1440, 1441, 1442, 1443, 1444, 1445, 1446, 1447, 1448, 1449, 1450, 1451, 1452, 1453, 1454, 1455, 1456, 1457, 1458, 1459, 1460, 1461, 1462, 1463, 1464, 1465, 1466, 1467] (by decide +kernel) (by decide +kernel)
set_option maxRecDepth 20000 in
theorem gL_law_X12_night : GoodIn wsL_law (wsV RL 90 RX12 yX12_night wsX12_night) := goodIn_app (goodIn_of _ (by decide +kernel)) ggL_law_X12_night
set_option maxRecDepth 20000 in
theorem ggL_law_X11_undo : GoodIn wsL_law wsX11_undo := goodIn_r _ [992, 30, 993, 994, 995, 996, 29, 997, 114, 115, 106, 116, 117, 118, 998, 999, 1000, 1001, 342, 343, 34, 344, 86, 87, 345, 346, 347, 348, 78, 349, 350, 351, 352, 77, 353, 354, 355, 356, 357, 338, 339, 340, 76, 1411, 1412, 1413, 1414, 1415, 1416, 1417, 1418, 1419, 1420, 1421, 1422, 1423, 1480, 1481, 1482, 1483, 1484, 1485, 1486, 1487, 1488, 1489, 1490, 1491, 1492, 1493, 1494, 1495, 1496, 1497, 1498, 1499, 1500, 1501, 1502, 1503] (by decide +kernel) (by decide +kernel)
set_option maxRecDepth 20000 in
theorem gL_law_X11_undo : GoodIn wsL_law (wsV RL 91 RX11 yX11_undo wsX11_undo) := goodIn_app (goodIn_of _ (by decide +kernel)) ggL_law_X11_undo
set_option maxRecDepth 20000 in
theorem ggL_law_X12_undo : GoodIn wsL_law wsX12_undo := goodIn_r _ [1005, 404, 181, 183, 1424, 1425, 1426, 1427, 1428, 1429, 1430, 1431, 1432, 1433, 1434, 1435, 1436, 1437, 1438, 1439, 1440, 1441, 1442, 1443, 1444, 1445, 1446, 1447, 1448, 1449, 1450, 1451, 1452, 1453, 1454, 1455, 1456, 1457, 1458, 1459, 1460, 1461, 1462, 1463, 1464, 1465, 1466, 1467] (by decide +kernel) (by decide +kernel)
set_option maxRecDepth 20000 in
theorem gL_law_X12_undo : GoodIn wsL_law (wsV RL 94 RX12 yX12_undo wsX12_undo) := goodIn_app (goodIn_of _ (by decide +kernel)) ggL_law_X12_undo
set_option maxRecDepth 20000 in
theorem ggL_law_X11_told : GoodIn wsL_law wsX11_told := goodIn_r _ [1009, 30, 1010, 1011, 1012, 1013, 1014, 1015, 725, 726, 727, 2, 728, 229, 729, 338, 339, 34, 340, 76, 662, 350, 351, 352, 77, 1411, 1412, 1413, 1414, 1415, 1416, 1417, 1418, 1419, 1420, 1421, 1422, 1423, 1480, 1481, 1482, 1483, 1484, 1485, 1486, 1487, 1488, 1489, 1490, 1491, 1492, 1493, 1494, 1495, 1496, 1497, 1498, 1499, 1500, 1501, 1502, 1503] (by decide +kernel) (by decide +kernel)
set_option maxRecDepth 20000 in
theorem gL_law_X11_told : GoodIn wsL_law (wsV RL 95 RX11 yX11_told wsX11_told) := goodIn_app (goodIn_of _ (by decide +kernel)) ggL_law_X11_told
set_option maxRecDepth 20000 in
theorem ggL_law_X12_told : GoodIn wsL_law wsX12_told := goodIn_r _ [1019, 181, 1020, 1021, 735, 736, 737, 5, 738, 675, 676, 677, 678, 465, 466, 467, 1424, 1425, 1426, 1427, 1428, 1429, 1430, 1431, 1432, 1433, 1434, 1435, 1436, 1437, 1438, 1439, 1440, 1441, 1442, 1443, 1444, 1445, 1446, 1447, 1448, 1449, 1450, 1451, 1452, 1453, 1454, 1455, 1456, 1457, 1458, 1459, 1460, 1461, 1462, 1463, 1464, 1465, 1466, 1467] (by decide +kernel) (by decide +kernel)
set_option maxRecDepth 20000 in
theorem gL_law_X12_told : GoodIn wsL_law (wsV RL 98 RX12 yX12_told wsX12_told) := goodIn_app (goodIn_of _ (by decide +kernel)) ggL_law_X12_told
set_option maxRecDepth 20000 in
theorem ggL_law_X11_worlds : GoodIn wsL_law wsX11_worlds := goodIn_r _ [1025, 43, 30, 1026, 1027, 1028, 1029, 1030, 926, 927, 928, 2, 929, 229, 909, 769, 770, 771, 772, 648, 25, 39, 773, 1031, 1032, 1033, 42, 1034, 1035, 1036, 139, 1037, 1038, 1039, 141, 1040, 1041, 697, 698, 34, 699, 87, 357, 338, 339, 340, 76, 349, 350, 351, 352, 77, 1042, 1043, 1044, 1045, 1046, 1047, 1048, 1049, 143, 140, 861, 862, 1050, 1051, 1052, 38, 1053, 125, 1054, 1055, 775, 776, 777, 127, 778, 779, 780, 781, 128, 782, 783, 784, 785, 86, 345, 346, 347, 348, 78, 786, 787, 788, 789, 85, 790, 791, 792, 793, 81, 82, 80, 794, 664, 665, 666, 795, 763, 764, 765, 766, 767, 768, 796, 797, 798, 618, 799, 637, 800, 801, 802, 803, 804, 805, 806, 630, 807, 808, 809, 810, 811, 812, 813, 1056, 1057, 1058, 1059, 1060, 1061, 1062, 1063, 1064, 133, 134, 135, 136, 137, 1065, 629, 631, 1066, 756, 757, 1411, 1412, 1413, 1414, 1415, 1416, 1417, 1418, 1419, 1420, 1421, 1422, 1423, 1508, 1509, 1510, 1511, 1512, 1513, 1514, 1515, 1516, 1517, 1518, 1519, 1480, 1481, 1482, 1483, 1484, 1485, 1486, 1487, 1488, 1489, 1490, 1491, 1492, 1493, 1494, 1495, 1496, 1497, 1498, 1499, 1500, 1501, 1502, 1503, 1504, 1505, 1506, 1507, 1533, 1534] (by decide +kernel) (by decide +kernel)
set_option maxRecDepth 20000 in
theorem gL_law_X11_worlds : GoodIn wsL_law (wsV RL 99 RX11 yX11_worlds wsX11_worlds) := goodIn_app (goodIn_of _ (by decide +kernel)) ggL_law_X11_worlds
set_option maxRecDepth 20000 in
theorem ggL_law_X12_worlds : GoodIn wsL_law wsX12_worlds := goodIn_r _ [1070, 704, 1071, 184, 915, 916, 917, 5, 918, 181, 465, 466, 467, 1072, 1073, 1074, 1075, 739, 740, 741, 742, 1076, 1077, 1078, 1079, 869, 870, 871, 872, 743, 744, 745, 746, 747, 748, 749, 679, 680, 681, 682, 818, 819, 820, 821, 822, 823, 824, 182, 180, 176, 175, 825, 826, 827, 828, 829, 830, 717, 718, 719, 720, 705, 706, 707, 708, 831, 832, 833, 834, 835, 836, 837, 838, 839, 173, 840, 841, 842, 843, 179, 844, 845, 846, 847, 848, 849, 850, 1424, 1425, 1426, 1427, 1428, 1429, 1430, 1431, 1432, 1433, 1434, 1435, 1436, 1437, 1438, 1439, 1440, 1441, 1442, 1443, 1444, 1445, 1446, 1447, 1448, 1449, 1450, 1451, 1452, 1453, 1454, 1455, 1456, 1457, 1458, 1459, 1460, 1461, 1462, 1463, 1464, 1465, 1466, 1467] (by decide +kernel) (by decide +kernel)
set_option maxRecDepth 20000 in
theorem gL_law_X12_worlds : GoodIn wsL_law (wsV RL 102 RX12 yX12_worlds wsX12_worlds) := goodIn_app (goodIn_of _ (by decide +kernel)) ggL_law_X12_worlds
set_option maxRecDepth 20000 in
theorem ggL_law_X11_ask : GoodIn wsL_law wsX11_ask := goodIn_r _ [1083, 43, 30, 1026, 229, 55, 924, 925, 1084, 926, 927, 928, 2, 929, 909, 769, 770, 771, 772, 648, 25, 39, 773, 1031, 1032, 1033, 42, 1034, 1035, 1036, 139, 1037, 1038, 1039, 141, 1040, 1041, 697, 698, 34, 699, 87, 357, 338, 339, 340, 76, 349, 350, 351, 352, 77, 1042, 1043, 1044, 1045, 1046, 1047, 1048, 1049, 143, 140, 861, 862, 1050, 1051, 1052, 38, 1053, 125, 1054, 1055, 775, 776, 777, 127, 778, 779, 780, 781, 128, 782, 783, 784, 785, 86, 345, 346, 347, 348, 78, 786, 787, 788, 789, 85, 790, 791, 792, 793, 81, 82, 80, 794, 664, 665, 666, 795, 763, 764, 765, 766, 767, 768, 796, 797, 798, 618, 799, 637, 800, 801, 802, 803, 804, 805, 806, 630, 807, 808, 809, 810, 811, 812, 813, 1056, 1057, 1058, 1059, 1060, 1061, 1062, 1063, 1064, 133, 134, 135, 136, 137, 1065, 629, 631, 1066, 756, 757, 1085, 1086, 1087, 1088, 1089, 1090, 1091, 931, 932, 54, 933, 164, 1092, 1093, 1094, 1095, 142, 145, 1096, 89, 90, 91, 1097, 1098, 1099, 1100, 1101, 144, 1102, 935, 936, 937, 165, 166, 167, 1411, 1412, 1413, 1414, 1415, 1416, 1417, 1418, 1419, 1420, 1421, 1422, 1423, 1508, 1509, 1510, 1511, 1512, 1513, 1514, 1515, 1516, 1517, 1518, 1519, 1480, 1481, 1482, 1483, 1484, 1485, 1486, 1487, 1488, 1489, 1490, 1491, 1492, 1529, 1530, 1531, 1532, 1493, 1494, 1495, 1496, 1497, 1498, 1499, 1500, 1501, 1502, 1503, 1504, 1505, 1506, 1507, 1533, 1534] (by decide +kernel) (by decide +kernel)
set_option maxRecDepth 20000 in
theorem gL_law_X11_ask : GoodIn wsL_law (wsV RL 103 RX11 yX11_ask wsX11_ask) := goodIn_app (goodIn_of _ (by decide +kernel)) ggL_law_X11_ask
set_option maxRecDepth 20000 in
theorem ggL_law_X12_ask : GoodIn wsL_law wsX12_ask := goodIn_r _ [1106, 1107, 1071, 181, 915, 916, 917, 5, 918, 465, 466, 467, 1072, 1073, 1074, 1075, 184, 739, 740, 741, 742, 1076, 1077, 1078, 1079, 869, 870, 871, 872, 743, 744, 745, 746, 747, 748, 749, 679, 680, 681, 682, 818, 819, 820, 821, 822, 823, 824, 182, 180, 176, 175, 825, 826, 827, 828, 829, 830, 717, 718, 719, 720, 705, 706, 707, 708, 831, 832, 833, 834, 835, 836, 837, 838, 839, 173, 840, 841, 842, 843, 179, 844, 845, 846, 847, 848, 849, 850, 1108, 1109, 1110, 1111, 185, 1424, 1425, 1426, 1427, 1428, 1429, 1430, 1431, 1432, 1433, 1434, 1435, 1436, 1437, 1438, 1439, 1440, 1441, 1442, 1443, 1444, 1445, 1446, 1447, 1448, 1449, 1450, 1451, 1452, 1453, 1454, 1455, 1456, 1457, 1458, 1459, 1460, 1461, 1462, 1463, 1464, 1465, 1466, 1467] (by decide +kernel) (by decide +kernel)
set_option maxRecDepth 20000 in
theorem gL_law_X12_ask : GoodIn wsL_law (wsV RL 106 RX12 yX12_ask wsX12_ask) := goodIn_app (goodIn_of _ (by decide +kernel)) ggL_law_X12_ask
set_option maxRecDepth 20000 in
theorem ggL_law_X11_gates : GoodIn wsL_law wsX11_gates := goodIn_r _ [1115, 30, 229, 230, 926, 927, 928, 2, 929, 909, 1411, 1412, 1413, 1414, 1415, 1416, 1417, 1418, 1419, 1420, 1421, 1422, 1423, 1480, 1481, 1482, 1483, 1484, 1485, 1486, 1487, 1488, 1489, 1490, 1491, 1492, 1493, 1494, 1495, 1496, 1497, 1498, 1499, 1500, 1501, 1502, 1503] (by decide +kernel) (by decide +kernel)
set_option maxRecDepth 20000 in
theorem gL_law_X11_gates : GoodIn wsL_law (wsV RL 107 RX11 yX11_gates wsX11_gates) := goodIn_app (goodIn_of _ (by decide +kernel)) ggL_law_X11_gates
set_option maxRecDepth 20000 in
theorem ggL_law_X12_gates : GoodIn wsL_law wsX12_gates := goodIn_r _ [1119, 181, 915, 916, 917, 5, 918, 465, 466, 467, 1120, 1121, 1122, 1123, 187, 186, 739, 740, 741, 742, 869, 870, 871, 872, 743, 744, 745, 746, 747, 748, 749, 679, 680, 681, 682, 818, 819, 820, 821, 822, 823, 824, 182, 180, 176, 175, 825, 826, 827, 828, 829, 830, 717, 718, 719, 720, 705, 706, 707, 708, 831, 832, 833, 834, 835, 836, 837, 838, 839, 173, 840, 841, 842, 843, 179, 844, 845, 846, 847, 848, 849, 850, 1124, 1125, 1126, 1127, 1128, 1129, 1130, 1131, 1132, 1133, 1134, 1135, 1424, 1425, 1426, 1427, 1428, 1429, 1430, 1431, 1432, 1433, 1434, 1435, 1436, 1437, 1438, 1439, 1440, 1441, 1442, 1443, 1444, 1445, 1446, 1447, 1448, 1449, 1450, 1451, 1452, 1453, 1454, 1455, 1456, 1457, 1458, 1459, 1460, 1461, 1462, 1463, 1464, 1465, 1466, 1467] (by decide +kernel) (by decide +kernel)
set_option maxRecDepth 20000 in
theorem gL_law_X12_gates : GoodIn wsL_law (wsV RL 110 RX12 yX12_gates wsX12_gates) := goodIn_app (goodIn_of _ (by decide +kernel)) ggL_law_X12_gates
set_option maxRecDepth 20000 in
theorem ggL_law_X11_cheat : GoodIn wsL_law wsX11_cheat := goodIn_r _ [1139, 30, 229, 855, 35, 55, 1084, 925, 924, 661, 346, 347, 34, 348, 78, 1140, 391, 392, 393, 76, 77, 79, 80, 81, 82, 83, 85, 394, 395, 396, 397, 86, 87, 769, 770, 771, 2, 772, 648, 25, 39, 773, 1141, 1142, 1143, 38, 1144, 891, 890, 1145, 887, 888, 889, 892, 893, 894, 895, 896, 857, 858, 859, 129, 860, 697, 698, 699, 357, 338, 339, 340, 349, 350, 351, 352, 861, 862, 863, 775, 776, 777, 125, 127, 778, 779, 780, 781, 128, 782, 783, 784, 785, 345, 786, 787, 788, 789, 790, 791, 792, 793, 794, 664, 665, 666, 795, 763, 764, 765, 766, 767, 768, 796, 797, 798, 618, 799, 637, 800, 801, 802, 803, 804, 805, 806, 630, 807, 808, 809, 810, 811, 812, 813, 1146, 931, 932, 54, 933, 164, 1147, 1148, 1149, 1150, 1151, 342, 343, 344, 353, 354, 355, 356, 1152, 1153, 1154, 1155, 1156, 629, 631, 1157, 756, 757, 1158, 935, 936, 937, 165, 166, 167, 1411, 1412, 1413, 1414, 1415, 1416, 1417, 1418, 1419, 1420, 1421, 1422, 1423, 1480, 1481, 1482, 1483, 1484, 1485, 1486, 1487, 1488, 1489, 1490, 1491, 1492, 1529, 1530, 1531, 1532, 1493, 1494, 1495, 1496, 1497, 1498, 1499, 1500, 1501, 1502, 1503, 1504, 1505, 1506, 1507, 1533, 1534] (by decide +kernel) (by decide +kernel)
set_option maxRecDepth 20000 in
theorem gL_law_X11_cheat : GoodIn wsL_law (wsV RL 111 RX11 yX11_cheat wsX11_cheat) := goodIn_app (goodIn_of _ (by decide +kernel)) ggL_law_X11_cheat
set_option maxRecDepth 20000 in
theorem ggL_law_X12_cheat : GoodIn wsL_law wsX12_cheat := goodIn_r _ [1162, 1107, 868, 181, 671, 672, 673, 5, 674, 465, 466, 467, 679, 680, 681, 682, 901, 902, 903, 904, 739, 740, 741, 742, 869, 870, 871, 872, 743, 744, 745, 746, 747, 748, 749, 818, 819, 820, 821, 822, 823, 824, 182, 180, 176, 175, 825, 826, 827, 828, 829, 830, 717, 718, 719, 720, 705, 706, 707, 708, 831, 832, 833, 834, 835, 836, 837, 838, 839, 173, 840, 841, 842, 843, 179, 844, 845, 846, 847, 848, 849, 850, 1424, 1425, 1426, 1427, 1428, 1429, 1430, 1431, 1432, 1433, 1434, 1435, 1436, 1437, 1438, 1439, 1440, 1441, 1442, 1443, 1444, 1445, 1446, 1447, 1448, 1449, 1450, 1451, 1452, 1453, 1454, 1455, 1456, 1457, 1458, 1459, 1460, 1461, 1462, 1463, 1464, 1465, 1466, 1467] (by decide +kernel) (by decide +kernel)
set_option maxRecDepth 20000 in
theorem gL_law_X12_cheat : GoodIn wsL_law (wsV RL 114 RX12 yX12_cheat wsX12_cheat) := goodIn_app (goodIn_of _ (by decide +kernel)) ggL_law_X12_cheat
set_option maxRecDepth 20000 in
theorem ggL_law_X11_odd : GoodIn wsL_law wsX11_odd := goodIn_r _ [1166, 35, 30, 229, 47, 230, 688, 926, 927, 928, 2, 929, 909, 1140, 391, 392, 34, 393, 76, 77, 78, 79, 80, 81, 82, 83, 85, 394, 395, 396, 397, 86, 87, 769, 770, 771, 772, 648, 25, 39, 773, 1167, 1168, 1169, 46, 1170, 149, 150, 151, 1171, 1172, 89, 90, 91, 1173, 1174, 1175, 1176, 1177, 1178, 1179, 1180, 1181, 1182, 1183, 38, 1184, 891, 1185, 759, 760, 761, 695, 664, 665, 666, 345, 346, 347, 348, 349, 350, 351, 352, 794, 860, 697, 698, 699, 357, 338, 339, 340, 795, 763, 764, 765, 766, 767, 768, 863, 775, 776, 777, 125, 127, 778, 779, 780, 781, 128, 782, 783, 784, 785, 786, 787, 788, 789, 790, 791, 792, 793, 796, 797, 798, 618, 799, 637, 800, 801, 802, 803, 804, 805, 806, 630, 807, 808, 809, 810, 811, 812, 813, 1186, 1187, 1188, 1189, 1190, 1191, 1192, 1193, 1194, 762, 1411, 1412, 1413, 1414, 1415, 1416, 1417, 1418, 1419, 1420, 1421, 1422, 1423, 1480, 1481, 1482, 1483, 1484, 1485, 1486, 1487, 1488, 1489, 1490, 1491, 1492, 1493, 1494, 1495, 1496, 1497, 1498, 1499, 1500, 1501, 1502, 1503, 1504, 1505, 1506, 1507, 1520, 1521, 1522, 1533, 1534] (by decide +kernel) (by decide +kernel)
set_option maxRecDepth 20000 in
theorem gL_law_X11_odd : GoodIn wsL_law (wsV RL 115 RX11 yX11_odd wsX11_odd) := goodIn_app (goodIn_of _ (by decide +kernel)) ggL_law_X11_odd
set_option maxRecDepth 20000 in
theorem ggL_law_X12_odd : GoodIn wsL_law wsX12_odd := goodIn_r _ [1198, 915, 916, 917, 5, 918, 181, 465, 466, 467, 739, 740, 741, 742, 818, 819, 820, 1199, 1200, 1201, 1202, 747, 748, 749, 705, 706, 707, 708, 901, 902, 903, 904, 869, 870, 871, 872, 743, 744, 745, 746, 679, 680, 681, 682, 821, 822, 823, 824, 182, 180, 176, 175, 825, 826, 827, 828, 829, 830, 717, 718, 719, 720, 831, 832, 833, 834, 835, 836, 837, 838, 839, 173, 840, 841, 842, 843, 179, 844, 845, 846, 847, 848, 849, 850, 1424, 1425, 1426, 1427, 1428, 1429, 1430, 1431, 1432, 1433, 1434, 1435, 1436, 1437, 1438, 1439, 1440, 1441, 1442, 1443, 1444, 1445, 1446, 1447, 1448, 1449, 1450, 1451, 1452, 1453, 1454, 1455, 1456, 1457, 1458, 1459, 1460, 1461, 1462, 1463, 1464, 1465, 1466, 1467] (by decide +kernel) (by decide +kernel)
set_option maxRecDepth 20000 in
theorem gL_law_X12_odd : GoodIn wsL_law (wsV RL 118 RX12 yX12_odd wsX12_odd) := goodIn_app (goodIn_of _ (by decide +kernel)) ggL_law_X12_odd
set_option maxRecDepth 20000 in
theorem ggL_law_X11_palms : GoodIn wsL_law wsX11_palms := goodIn_r _ [1206, 30, 229, 1207, 661, 346, 347, 34, 348, 78, 1411, 1412, 1413, 1414, 1415, 1416, 1417, 1418, 1419, 1420, 1421, 1422, 1423, 1480, 1481, 1482, 1483, 1484, 1485, 1486, 1487, 1488, 1489, 1490, 1491, 1492, 1493, 1494, 1495, 1496, 1497, 1498, 1499, 1500, 1501, 1502, 1503] (by decide +kernel) (by decide +kernel)
set_option maxRecDepth 20000 in
theorem gL_law_X11_palms : GoodIn wsL_law (wsV RL 119 RX11 yX11_palms wsX11_palms) := goodIn_app (goodIn_of _ (by decide +kernel)) ggL_law_X11_palms
set_option maxRecDepth 20000 in
theorem ggL_law_X12_palms : GoodIn wsL_law wsX12_palms := goodIn_r _ [1211, 1212, 1213, 181, 671, 672, 673, 5, 674, 465, 466, 467, 1424, 1425, 1426, 1427, 1428, 1429, 1430, 1431, 1432, 1433, 1434, 1435, 1436, 1437, 1438, 1439, 1440, 1441, 1442, 1443, 1444, 1445, 1446, 1447, 1448, 1449, 1450, 1451, 1452, 1453, 1454, 1455, 1456, 1457, 1458, 1459, 1460, 1461, 1462, 1463, 1464, 1465, 1466, 1467] (by decide +kernel) (by decide +kernel)
set_option maxRecDepth 20000 in
theorem gL_law_X12_palms : GoodIn wsL_law (wsV RL 123 RX12 yX12_palms wsX12_palms) := goodIn_app (goodIn_of _ (by decide +kernel)) ggL_law_X12_palms
set_option maxRecDepth 20000 in
theorem ggL_law_X11_shuns : GoodIn wsL_law wsX11_shuns := goodIn_r _ [1217, 30, 229, 51, 926, 927, 928, 2, 929, 909, 1218, 1219, 1220, 34, 1221, 78, 1222, 692, 693, 694, 77, 695, 664, 665, 666, 86, 345, 346, 347, 348, 349, 350, 351, 352, 696, 697, 698, 699, 87, 357, 338, 339, 340, 76, 1223, 763, 764, 765, 766, 767, 768, 1224, 1225, 1226, 50, 1227, 1228, 155, 158, 1229, 159, 160, 1230, 156, 157, 1231, 1232, 1233, 1234, 1235, 1236, 1237, 1238, 1239, 1240, 1241, 1242, 1243, 1244, 1245, 1411, 1412, 1413, 1414, 1415, 1416, 1417, 1418, 1419, 1420, 1421, 1422, 1423, 1480, 1481, 1482, 1483, 1484, 1485, 1486, 1487, 1488, 1489, 1490, 1491, 1492, 1493, 1494, 1495, 1496, 1497, 1498, 1499, 1500, 1501, 1502, 1503, 1523, 1524, 1525, 1526, 1527, 1528] (by decide +kernel) (by decide +kernel)
set_option maxRecDepth 20000 in
theorem gL_law_X11_shuns : GoodIn wsL_law (wsV RL 124 RX11 yX11_shuns wsX11_shuns) := goodIn_app (goodIn_of _ (by decide +kernel)) ggL_law_X11_shuns
set_option maxRecDepth 20000 in
theorem ggL_law_X12_shuns : GoodIn wsL_law wsX12_shuns := goodIn_r _ [1249, 1250, 915, 916, 917, 5, 918, 181, 1251, 1252, 1253, 1254, 1255, 1256, 1257, 1258, 1259, 1260, 1261, 188, 189, 713, 714, 715, 716, 717, 718, 719, 720, 679, 680, 681, 682, 1262, 1263, 1264, 1265, 747, 748, 749, 1424, 1425, 1426, 1427, 1428, 1429, 1430, 1431, 1432, 1433, 1434, 1435, 1436, 1437, 1438, 1439, 1440, 1441, 1442, 1443, 1444, 1445, 1446, 1447, 1448, 1449, 1450, 1451, 1452, 1453, 1454, 1455, 1456, 1457, 1458, 1459, 1460, 1461, 1462, 1463, 1464, 1465, 1466, 1467] (by decide +kernel) (by decide +kernel)
set_option maxRecDepth 20000 in
theorem gL_law_X12_shuns : GoodIn wsL_law (wsV RL 127 RX12 yX12_shuns wsX12_shuns) := goodIn_app (goodIn_of _ (by decide +kernel)) ggL_law_X12_shuns
set_option maxRecDepth 20000 in
theorem ggL_law_X11_shook : GoodIn wsL_law wsX11_shook := goodIn_r _ [1269, 30, 229, 51, 754, 629, 630, 631, 755, 756, 757, 661, 346, 347, 34, 348, 78, 691, 692, 693, 694, 77, 695, 664, 665, 666, 86, 345, 349, 350, 351, 352, 696, 697, 698, 699, 87, 357, 338, 339, 340, 76, 1218, 1219, 1220, 1221, 1222, 1223, 763, 764, 765, 766, 767, 768, 1224, 1225, 1226, 50, 1227, 1228, 155, 158, 1229, 159, 160, 1230, 156, 157, 1231, 1232, 1233, 1234, 1235, 1236, 1237, 1238, 1239, 1240, 1241, 1242, 1243, 1244, 1245, 1270, 1271, 1272, 1273, 1411, 1412, 1413, 1414, 1415, 1416, 1417, 1418, 1419, 1420, 1421, 1422, 1423, 1480, 1481, 1482, 1483, 1484, 1485, 1486, 1487, 1488, 1489, 1490, 1491, 1492, 1493, 1494, 1495, 1496, 1497, 1498, 1499, 1500, 1501, 1502, 1503, 1523, 1524, 1525, 1526, 1527, 1528] (by decide +kernel) (by decide +kernel)
set_option maxRecDepth 20000 in
theorem gL_law_X11_shook : GoodIn wsL_law (wsV RL 128 RX11 yX11_shook wsX11_shook) := goodIn_app (goodIn_of _ (by decide +kernel)) ggL_law_X11_shook
set_option maxRecDepth 20000 in
theorem ggL_law_X12_shook : GoodIn wsL_law wsX12_shook := goodIn_r _ [1277, 1250, 188, 189, 1256, 1257, 671, 672, 673, 5, 674, 181, 713, 714, 715, 716, 717, 718, 719, 720, 679, 680, 681, 682, 1251, 1252, 1253, 1254, 1255, 1258, 1259, 1260, 1261, 1262, 1263, 1264, 1265, 747, 748, 749, 1424, 1425, 1426, 1427, 1428, 1429, 1430, 1431, 1432, 1433, 1434, 1435, 1436, 1437, 1438, 1439, 1440, 1441, 1442, 1443, 1444, 1445, 1446, 1447, 1448, 1449, 1450, 1451, 1452, 1453, 1454, 1455, 1456, 1457, 1458, 1459, 1460, 1461, 1462, 1463, 1464, 1465, 1466, 1467] (by decide +kernel) (by decide +kernel)
set_option maxRecDepth 20000 in
theorem gL_law_X12_shook : GoodIn wsL_law (wsV RL 131 RX12 yX12_shook wsX12_shook) := goodIn_app (goodIn_of _ (by decide +kernel)) ggL_law_X12_shook
set_option maxRecDepth 20000 in
theorem ggL_law_X11_passes : GoodIn wsL_law wsX11_passes := goodIn_r _ [1281, 30, 229, 923, 661, 346, 347, 34, 348, 78, 1282, 1283, 1284, 1285, 76, 696, 697, 698, 699, 87, 357, 338, 339, 340, 349, 350, 351, 352, 77, 1411, 1412, 1413, 1414, 1415, 1416, 1417, 1418, 1419, 1420, 1421, 1422, 1423, 1480, 1481, 1482, 1483, 1484, 1485, 1486, 1487, 1488, 1489, 1490, 1491, 1492, 1493, 1494, 1495, 1496, 1497, 1498, 1499, 1500, 1501, 1502, 1503] (by decide +kernel) (by decide +kernel)
set_option maxRecDepth 20000 in
theorem gL_law_X11_passes : GoodIn wsL_law (wsV RL 132 RX11 yX11_passes wsX11_passes) := goodIn_app (goodIn_of _ (by decide +kernel)) ggL_law_X11_passes
set_option maxRecDepth 20000 in
theorem ggL_law_X12_passes : GoodIn wsL_law wsX12_passes := goodIn_r _ [1289, 181, 671, 672, 673, 5, 674, 1290, 1291, 1292, 1293, 747, 748, 749, 717, 718, 719, 720, 679, 680, 681, 682, 1424, 1425, 1426, 1427, 1428, 1429, 1430, 1431, 1432, 1433, 1434, 1435, 1436, 1437, 1438, 1439, 1440, 1441, 1442, 1443, 1444, 1445, 1446, 1447, 1448, 1449, 1450, 1451, 1452, 1453, 1454, 1455, 1456, 1457, 1458, 1459, 1460, 1461, 1462, 1463, 1464, 1465, 1466, 1467] (by decide +kernel) (by decide +kernel)
set_option maxRecDepth 20000 in
theorem gL_law_X12_passes : GoodIn wsL_law (wsV RL 135 RX12 yX12_passes wsX12_passes) := goodIn_app (goodIn_of _ (by decide +kernel)) ggL_law_X12_passes
set_option maxRecDepth 20000 in
theorem ggL_law_X11_have : GoodIn wsL_law wsX11_have := goodIn_r _ [1297, 30, 229, 661, 346, 347, 34, 348, 78, 662, 350, 351, 352, 77, 1282, 1283, 1284, 1285, 76, 696, 697, 698, 699, 87, 357, 338, 339, 340, 349, 1411, 1412, 1413, 1414, 1415, 1416, 1417, 1418, 1419, 1420, 1421, 1422, 1423, 1480, 1481, 1482, 1483, 1484, 1485, 1486, 1487, 1488, 1489, 1490, 1491, 1492, 1493, 1494, 1495, 1496, 1497, 1498, 1499, 1500, 1501, 1502, 1503] (by decide +kernel) (by decide +kernel)
set_option maxRecDepth 20000 in
theorem gL_law_X11_have : GoodIn wsL_law (wsV RL 136 RX11 yX11_have wsX11_have) := goodIn_app (goodIn_of _ (by decide +kernel)) ggL_law_X11_have
set_option maxRecDepth 20000 in
theorem ggL_law_X12_have : GoodIn wsL_law wsX12_have := goodIn_r _ [1301, 671, 672, 673, 5, 674, 181, 675, 676, 677, 678, 1290, 1291, 1292, 1293, 747, 748, 749, 717, 718, 719, 720, 679, 680, 681, 682, 1424, 1425, 1426, 1427, 1428, 1429, 1430, 1431, 1432, 1433, 1434, 1435, 1436, 1437, 1438, 1439, 1440, 1441, 1442, 1443, 1444, 1445, 1446, 1447, 1448, 1449, 1450, 1451, 1452, 1453, 1454, 1455, 1456, 1457, 1458, 1459, 1460, 1461, 1462, 1463, 1464, 1465, 1466, 1467] (by decide +kernel) (by decide +kernel)
set_option maxRecDepth 20000 in
theorem gL_law_X12_have : GoodIn wsL_law (wsV RL 139 RX12 yX12_have wsX12_have) := goodIn_app (goodIn_of _ (by decide +kernel)) ggL_law_X12_have
set_option maxRecDepth 20000 in
theorem ggL_law_X11_islands : GoodIn wsL_law wsX11_islands := goodIn_r _ [1305, 30, 229, 230, 926, 927, 928, 2, 929, 909, 1306, 1307, 1308, 34, 1309, 78, 77, 1310, 1283, 1284, 1285, 76, 696, 697, 698, 699, 87, 357, 338, 339, 340, 349, 350, 351, 352, 1411, 1412, 1413, 1414, 1415, 1416, 1417, 1418, 1419, 1420, 1421, 1422, 1423, 1480, 1481, 1482, 1483, 1484, 1485, 1486, 1487, 1488, 1489, 1490, 1491, 1492, 1493, 1494, 1495, 1496, 1497, 1498, 1499, 1500, 1501, 1502, 1503] (by decide +kernel) (by decide +kernel)
set_option maxRecDepth 20000 in
theorem gL_law_X11_islands : GoodIn wsL_law (wsV RL 140 RX11 yX11_islands wsX11_islands) := goodIn_app (goodIn_of _ (by decide +kernel)) ggL_law_X11_islands
set_option maxRecDepth 20000 in
theorem ggL_law_X12_islands : GoodIn wsL_law wsX12_islands := goodIn_r _ [1314, 181, 915, 916, 917, 5, 918, 739, 740, 741, 742, 747, 748, 749, 709, 710, 711, 712, 713, 714, 715, 716, 717, 718, 719, 720, 679, 680, 681, 682, 1424, 1425, 1426, 1427, 1428, 1429, 1430, 1431, 1432, 1433, 1434, 1435, 1436, 1437, 1438, 1439, 1440, 1441, 1442, 1443, 1444, 1445, 1446, 1447, 1448, 1449, 1450, 1451, 1452, 1453, 1454, 1455, 1456, 1457, 1458, 1459, 1460, 1461, 1462, 1463, 1464, 1465, 1466, 1467] (by decide +kernel) (by decide +kernel)
set_option maxRecDepth 20000 in
theorem gL_law_X12_islands : GoodIn wsL_law (wsV RL 143 RX12 yX12_islands wsX12_islands) := goodIn_app (goodIn_of _ (by decide +kernel)) ggL_law_X12_islands
set_option maxRecDepth 20000 in
theorem ggL_law_X11_rounds : GoodIn wsL_law wsX11_rounds := goodIn_r _ [1318, 30, 229, 230, 754, 629, 630, 631, 755, 756, 757, 762, 763, 764, 765, 766, 767, 768, 1411, 1412, 1413, 1414, 1415, 1416, 1417, 1418, 1419, 1420, 1421, 1422, 1423, 1480, 1481, 1482, 1483, 1484, 1485, 1486, 1487, 1488, 1489, 1490, 1491, 1492, 1493, 1494, 1495, 1496, 1497, 1498, 1499, 1500, 1501, 1502, 1503] (by decide +kernel) (by decide +kernel)
set_option maxRecDepth 20000 in
theorem gL_law_X11_rounds : GoodIn wsL_law (wsV RL 144 RX11 yX11_rounds wsX11_rounds) := goodIn_app (goodIn_of _ (by decide +kernel)) ggL_law_X11_rounds
set_option maxRecDepth 20000 in
theorem ggL_law_X12_rounds : GoodIn wsL_law wsX12_rounds := goodIn_r _ [1322, 1323, 915, 916, 917, 5, 918, 181, 739, 740, 741, 742, 465, 466, 467, 818, 819, 820, 1424, 1425, 1426, 1427, 1428, 1429, 1430, 1431, 1432, 1433, 1434, 1435, 1436, 1437, 1438, 1439, 1440, 1441, 1442, 1443, 1444, 1445, 1446, 1447, 1448, 1449, 1450, 1451, 1452, 1453, 1454, 1455, 1456, 1457, 1458, 1459, 1460, 1461, 1462, 1463, 1464, 1465, 1466, 1467] (by decide +kernel) (by decide +kernel)
set_option maxRecDepth 20000 in
theorem gL_law_X12_rounds : GoodIn wsL_law (wsV RL 147 RX12 yX12_rounds wsX12_rounds) := goodIn_app (goodIn_of _ (by decide +kernel)) ggL_law_X12_rounds
set_option maxRecDepth 20000 in
theorem ggL_law_X11_census : GoodIn wsL_law wsX11_census := goodIn_r _ [1327, 30, 229, 1328, 1329, 630, 1330, 926, 927, 928, 2, 929, 909, 769, 770, 771, 772, 648, 25, 39, 773, 886, 887, 888, 38, 889, 890, 891, 892, 893, 894, 895, 896, 857, 858, 859, 129, 860, 697, 698, 34, 699, 87, 357, 338, 339, 340, 76, 349, 350, 351, 352, 77, 861, 862, 863, 775, 776, 777, 125, 127, 778, 779, 780, 781, 128, 782, 783, 784, 785, 86, 345, 346, 347, 348, 78, 786, 787, 788, 789, 85, 790, 791, 792, 793, 81, 82, 80, 794, 664, 665, 666, 795, 763, 764, 765, 766, 767, 768, 796, 797, 798, 618, 799, 637, 800, 801, 802, 803, 804, 805, 806, 807, 808, 809, 810, 811, 812, 813, 1411, 1412, 1413, 1414, 1415, 1416, 1417, 1418, 1419, 1420, 1421, 1422, 1423, 1480, 1481, 1482, 1483, 1484, 1485, 1486, 1487, 1488, 1489, 1490, 1491, 1492, 1493, 1494, 1495, 1496, 1497, 1498, 1499, 1500, 1501, 1502, 1503, 1504, 1505, 1506, 1507, 1533, 1534] (by decide +kernel) (by decide +kernel)
set_option maxRecDepth 20000 in
theorem gL_law_X11_census : GoodIn wsL_law (wsV RL 148 RX11 yX11_census wsX11_census) := goodIn_app (goodIn_of _ (by decide +kernel)) ggL_law_X11_census
set_option maxRecDepth 20000 in
theorem ggL_law_X12_census : GoodIn wsL_law wsX12_census := goodIn_r _ [1334, 915, 916, 917, 5, 918, 181, 901, 902, 903, 904, 739, 740, 741, 742, 869, 870, 871, 872, 743, 744, 745, 746, 747, 748, 749, 679, 680, 681, 682, 818, 819, 820, 821, 822, 823, 824, 182, 180, 176, 175, 825, 826, 827, 828, 829, 830, 717, 718, 719, 720, 705, 706, 707, 708, 831, 832, 833, 834, 835, 836, 837, 838, 839, 173, 840, 841, 842, 843, 179, 844, 845, 846, 847, 848, 849, 850, 1424, 1425, 1426, 1427, 1428, 1429, 1430, 1431, 1432, 1433, 1434, 1435, 1436, 1437, 1438, 1439, 1440, 1441, 1442, 1443, 1444, 1445, 1446, 1447, 1448, 1449, 1450, 1451, 1452, 1453, 1454, 1455, 1456, 1457, 1458, 1459, 1460, 1461, 1462, 1463, 1464, 1465, 1466, 1467] (by decide +kernel) (by decide +kernel)
set_option maxRecDepth 20000 in
theorem gL_law_X12_census : GoodIn wsL_law (wsV RL 151 RX12 yX12_census wsX12_census) := goodIn_app (goodIn_of _ (by decide +kernel)) ggL_law_X12_census
set_option maxRecDepth 20000 in
theorem ggL_law_X11_seed : GoodIn wsL_law wsX11_seed := goodIn_r _ [1338, 30, 1339, 1411, 1412, 1413, 1414, 1415, 1416, 1417, 1418, 1419, 1420, 1421, 1422, 1423, 1480, 1481, 1482, 1483, 1484, 1485, 1486, 1487, 1488, 1489, 1490, 1491, 1492] (by decide +kernel) (by decide +kernel)
set_option maxRecDepth 20000 in
theorem gL_law_X11_seed : GoodIn wsL_law (wsV RL 152 RX11 yX11_seed wsX11_seed) := goodIn_app (goodIn_of _ (by decide +kernel)) ggL_law_X11_seed
set_option maxRecDepth 20000 in
theorem ggL_law_X12_seed : GoodIn wsL_law wsX12_seed := goodIn_r _ [1343, 1344, 1424, 1425, 1426, 1427, 1428, 1429, 1430, 1431, 1432, 1433, 1434, 1435, 1436, 1437, 1438, 1439, 1440, 1441, 1442, 1443, 1444, 1445, 1446, 1447, 1448, 1449, 1450, 1451, 1452, 1453, 1454, 1455, 1456, 1457, 1458, 1459, 1460, 1461, 1462, 1463, 1464, 1465, 1466, 1467] (by decide +kernel) (by decide +kernel)
set_option maxRecDepth 20000 in
theorem gL_law_X12_seed : GoodIn wsL_law (wsV RL 155 RX12 yX12_seed wsX12_seed) := goodIn_app (goodIn_of _ (by decide +kernel)) ggL_law_X12_seed
set_option maxRecDepth 20000 in
theorem ggL_law_X11_drawn : GoodIn wsL_law wsX11_drawn := goodIn_r _ [1348, 855, 30, 229, 1339, 35, 926, 927, 928, 2, 929, 909, 769, 770, 771, 772, 648, 25, 39, 773, 886, 887, 888, 38, 889, 890, 891, 892, 893, 894, 895, 896, 857, 858, 859, 129, 860, 697, 698, 34, 699, 87, 357, 338, 339, 340, 76, 349, 350, 351, 352, 77, 861, 862, 863, 775, 776, 777, 125, 127, 778, 779, 780, 781, 128, 782, 783, 784, 785, 86, 345, 346, 347, 348, 78, 786, 787, 788, 789, 85, 790, 791, 792, 793, 81, 82, 80, 794, 664, 665, 666, 795, 763, 764, 765, 766, 767, 768, 796, 797, 798, 618, 799, 637, 800, 801, 802, 803, 804, 805, 806, 630, 807, 808, 809, 810, 811, 812, 813, 1140, 391, 392, 393, 79, 83, 394, 395, 396, 397, 1349, 1350, 1351, 1352, 1353, 1354, 1355, 1356, 1357, 1358, 342, 343, 344, 353, 354, 355, 356, 1411, 1412, 1413, 1414, 1415, 1416, 1417, 1418, 1419, 1420, 1421, 1422, 1423, 1480, 1481, 1482, 1483, 1484, 1485, 1486, 1487, 1488, 1489, 1490, 1491, 1492, 1493, 1494, 1495, 1496, 1497, 1498, 1499, 1500, 1501, 1502, 1503, 1504, 1505, 1506, 1507, 1533, 1534] (by decide +kernel) (by decide +kernel)
set_option maxRecDepth 20000 in
theorem gL_law_X11_drawn : GoodIn wsL_law (wsV RL 156 RX11 yX11_drawn wsX11_drawn) := goodIn_app (goodIn_of _ (by decide +kernel)) ggL_law_X11_drawn
set_option maxRecDepth 20000 in
theorem ggL_law_X12_drawn : GoodIn wsL_law wsX12_drawn := goodIn_r _ [1362, 1363, 1364, 1107, 868, 1344, 1365, 190, 181, 915, 916, 917, 5, 918, 465, 466, 467, 901, 902, 903, 904, 739, 740, 741, 742, 869, 870, 871, 872, 743, 744, 745, 746, 747, 748, 749, 679, 680, 681, 682, 818, 819, 820, 821, 822, 823, 824, 182, 180, 176, 175, 825, 826, 827, 828, 829, 830, 717, 718, 719, 720, 705, 706, 707, 708, 831, 832, 833, 834, 835, 836, 837, 838, 839, 173, 840, 841, 842, 843, 179, 844, 845, 846, 847, 848, 849, 850, 1366, 1367, 1368, 1369, 1370, 1371, 1372, 1373, 1374, 1375, 1376, 1377, 1424, 1425, 1426, 1427, 1428, 1429, 1430, 1431, 1432, 1433, 1434, 1435, 1436, 1437, 1438, 1439, 1440, 1441, 1442, 1443, 1444, 1445, 1446, 1447, 1448, 1449, 1450, 1451, 1452, 1453, 1454, 1455, 1456, 1457, 1458, 1459, 1460, 1461, 1462, 1463, 1464, 1465, 1466, 1467] (by decide +kernel) (by decide +kernel)
set_option maxRecDepth 20000 in
theorem gL_law_X12_drawn : GoodIn wsL_law (wsV RL 159 RX12 yX12_drawn wsX12_drawn) := goodIn_app (goodIn_of _ (by decide +kernel)) ggL_law_X12_drawn
set_option maxRecDepth 20000 in
theorem ggL_law_X11_count : GoodIn wsL_law wsX11_count := goodIn_r _ [1381, 30, 229, 909, 923, 230, 26, 648, 984, 877, 1010, 993, 1339, 15, 201, 1218, 1219, 1220, 34, 1221, 78, 1222, 692, 693, 694, 77, 695, 664, 665, 666, 86, 345, 346, 347, 348, 349, 350, 351, 352, 696, 697, 698, 699, 87, 357, 338, 339, 340, 76, 1223, 763, 764, 765, 766, 767, 768, 1382, 1383, 1384, 29, 1385, 113, 1411, 1412, 1413, 1414, 1415, 1416, 1417, 1418, 1419, 1420, 1421, 1422, 1423, 1480, 1481, 1482, 1483, 1484, 1485, 1486, 1487, 1488, 1489, 1490, 1491, 1492, 1493, 1494, 1495, 1496, 1497, 1498, 1499, 1500, 1501, 1502, 1503, 1468, 1469, 1470, 1471, 1472] (by decide +kernel) (by decide +kernel)
set_option maxRecDepth 20000 in
theorem gL_law_X11_count : GoodIn wsL_law (wsV RL 160 RX11 yX11_count wsX11_count) := goodIn_app (goodIn_of _ (by decide +kernel)) ggL_law_X11_count
set_option maxRecDepth 20000 in
theorem ggL_law_X12_count : GoodIn wsL_law wsX12_count := goodIn_r _ [1389, 181, 643, 182, 1255, 404, 1344, 210, 1258, 1259, 1260, 5, 1261, 188, 189, 713, 714, 715, 716, 717, 718, 719, 720, 679, 680, 681, 682, 1424, 1425, 1426, 1427, 1428, 1429, 1430, 1431, 1432, 1433, 1434, 1435, 1436, 1437, 1438, 1439, 1440, 1441, 1442, 1443, 1444, 1445, 1446, 1447, 1448, 1449, 1450, 1451, 1452, 1453, 1454, 1455, 1456, 1457, 1458, 1459, 1460, 1461, 1462, 1463, 1464, 1465, 1466, 1467] (by decide +kernel) (by decide +kernel)
set_option maxRecDepth 20000 in
theorem gL_law_X12_count : GoodIn wsL_law (wsV RL 163 RX12 yX12_count wsX12_count) := goodIn_app (goodIn_of _ (by decide +kernel)) ggL_law_X12_count
set_option maxRecDepth 20000 in
theorem ggL_law_X11_image : GoodIn wsL_law wsX11_image := goodIn_r _ [1393, 31, 27, 28, 29, 30, 229, 984, 101, 102, 103, 104, 10, 11, 105, 33, 34, 106, 107, 108, 109, 84, 110, 111, 112, 113, 114, 115, 116, 117, 118, 119, 73, 74, 75, 76, 77, 78, 79, 80, 81, 82, 83, 85, 86, 87, 88, 89, 90, 91, 120, 1394, 1395, 1396, 1397, 954, 395, 396, 397, 390, 391, 392, 393, 394, 1411, 1412, 1413, 1414, 1415, 1416, 1417, 1418, 1419, 1420, 1421, 1422, 1423, 1480, 1481, 1482, 1483, 1484, 1485, 1486, 1487, 1488, 1489, 1490, 1491, 1492, 1493, 1494, 1495, 1496, 1497, 1498, 1499, 1500, 1501, 1502, 1503] (by decide +kernel) (by decide +kernel)
set_option maxRecDepth 20000 in
theorem gL_law_X11_image : GoodIn wsL_law (wsV RL 164 RX11 yX11_image wsX11_image) := goodIn_app (goodIn_of _ (by decide +kernel)) ggL_law_X11_image
set_option maxRecDepth 20000 in
theorem ggL_law_X12_image : GoodIn wsL_law wsX12_image := goodIn_r _ [1401, 1402, 196, 193, 404, 194, 182, 195, 1344, 191, 181, 192, 183, 465, 466, 5, 467, 1424, 1425, 1426, 1427, 1428, 1429, 1430, 1431, 1432, 1433, 1434, 1435, 1436, 1437, 1438, 1439, 1440, 1441, 1442, 1443, 1444, 1445, 1446, 1447, 1448, 1449, 1450, 1451, 1452, 1453, 1454, 1455, 1456, 1457, 1458, 1459, 1460, 1461, 1462, 1463, 1464, 1465, 1466, 1467] (by decide +kernel) (by decide +kernel)
set_option maxRecDepth 20000 in
theorem gL_law_X12_image : GoodIn wsL_law (wsV RL 167 RX12 yX12_image wsX12_image) := goodIn_app (goodIn_of _ (by decide +kernel)) ggL_law_X12_image
set_option maxRecDepth 20000 in
theorem ggL_law_X11_back : GoodIn wsL_law wsX11_back := goodIn_r _ [1406, 31, 30, 229, 984, 1394, 1395, 1396, 29, 1397, 106, 107, 108, 109, 110, 954, 395, 396, 397, 111, 112, 113, 114, 115, 116, 117, 118, 390, 391, 392, 34, 393, 76, 77, 78, 79, 80, 81, 82, 83, 85, 394, 86, 87, 1411, 1412, 1413, 1414, 1415, 1416, 1417, 1418, 1419, 1420, 1421, 1422, 1423, 1480, 1481, 1482, 1483, 1484, 1485, 1486, 1487, 1488, 1489, 1490, 1491, 1492, 1493, 1494, 1495, 1496, 1497, 1498, 1499, 1500, 1501, 1502, 1503] (by decide +kernel) (by decide +kernel)
set_option maxRecDepth 20000 in
theorem gL_law_X11_back : GoodIn wsL_law (wsV RL 168 RX11 yX11_back wsX11_back) := goodIn_app (goodIn_of _ (by decide +kernel)) ggL_law_X11_back
set_option maxRecDepth 20000 in
theorem ggL_law_X12_back : GoodIn wsL_law wsX12_back := goodIn_r _ [1410, 1402, 196, 193, 404, 194, 182, 195, 1344, 181, 191, 183, 192, 465, 466, 5, 467, 1424, 1425, 1426, 1427, 1428, 1429, 1430, 1431, 1432, 1433, 1434, 1435, 1436, 1437, 1438, 1439, 1440, 1441, 1442, 1443, 1444, 1445, 1446, 1447, 1448, 1449, 1450, 1451, 1452, 1453, 1454, 1455, 1456, 1457, 1458, 1459, 1460, 1461, 1462, 1463, 1464, 1465, 1466, 1467] (by decide +kernel) (by decide +kernel)
set_option maxRecDepth 20000 in
theorem gL_law_X12_back : GoodIn wsL_law (wsV RL 171 RX12 yX12_back wsX12_back) := goodIn_app (goodIn_of _ (by decide +kernel)) ggL_law_X12_back
theorem dL_law_0 : decode cL_law 0 = .ok (.new 7, 3) := by decide +kernel
theorem dL_law_3 : decode cL_law 3 = .ok (.dup, 1) := by decide +kernel
theorem dL_law_4 : decode cL_law 4 = .ok (.invokespecial 9, 3) := by decide +kernel
theorem dL_law_7 : decode cL_law 7 = .ok (.astore_n 1, 1) := by decide +kernel
theorem dL_law_8 : decode cL_law 8 = .ok (.new 10, 3) := by decide +kernel
theorem dL_law_11 : decode cL_law 11 = .ok (.dup, 1) := by decide +kernel
theorem dL_law_12 : decode cL_law 12 = .ok (.invokespecial 12, 3) := by decide +kernel
theorem dL_law_15 : decode cL_law 15 = .ok (.astore_n 2, 1) := by decide +kernel
theorem dL_law_16 : decode cL_law 16 = .ok (.iconst 0, 1) := by decide +kernel
theorem dL_law_17 : decode cL_law 17 = .ok (.istore_n 3, 1) := by decide +kernel
theorem dL_law_18 : decode cL_law 18 = .ok (.iload_n 3, 1) := by decide +kernel
theorem dL_law_19 : decode cL_law 19 = .ok (.aload_n 0, 1) := by decide +kernel
theorem dL_law_20 : decode cL_law 20 = .ok (.arraylength, 1) := by decide +kernel
theorem dL_law_21 : decode cL_law 21 = .ok (.bipush 6, 2) := by decide +kernel
theorem dL_law_23 : decode cL_law 23 = .ok (.isub, 1) := by decide +kernel
theorem dL_law_24 : decode cL_law 24 = .ok (.if_icmp .gt 1278, 3) := by decide +kernel
theorem dL_law_27 : decode cL_law 27 = .ok (.aload_n 0, 1) := by decide +kernel
theorem dL_law_28 : decode cL_law 28 = .ok (.iload_n 3, 1) := by decide +kernel
theorem dL_law_29 : decode cL_law 29 = .ok (.iaload, 1) := by decide +kernel
theorem dL_law_30 : decode cL_law 30 = .ok (.bipush 63, 2) := by decide +kernel
theorem dL_law_32 : decode cL_law 32 = .ok (.iand, 1) := by decide +kernel
theorem dL_law_33 : decode cL_law 33 = .ok (.tableswitch 1263 0 37 #[167, 230, 253, 266, 279, 302, 335, 368, 401, 444, 477, 510, 523, 566, 589, 632, 681, 730, 743, 756, 799, 822, 845, 868, 901, 924, 957, 970, 1003, 1036, 1069, 1082, 1115, 1128, 1151, 1194, 1217, 1240], 167) := by decide +kernel
theorem dL_law_200 : decode cL_law 200 = .ok (.aload_n 1, 1) := by decide +kernel
theorem dL_law_201 : decode cL_law 201 = .ok (.aload_n 0, 1) := by decide +kernel
theorem dL_law_202 : decode cL_law 202 = .ok (.iload_n 3, 1) := by decide +kernel
theorem dL_law_203 : decode cL_law 203 = .ok (.iconst 1, 1) := by decide +kernel
theorem dL_law_204 : decode cL_law 204 = .ok (.iadd, 1) := by decide +kernel
theorem dL_law_205 : decode cL_law 205 = .ok (.iaload, 1) := by decide +kernel
theorem dL_law_206 : decode cL_law 206 = .ok (.aload_n 0, 1) := by decide +kernel
theorem dL_law_207 : decode cL_law 207 = .ok (.iload_n 3, 1) := by decide +kernel
theorem dL_law_208 : decode cL_law 208 = .ok (.iconst 2, 1) := by decide +kernel
theorem dL_law_209 : decode cL_law 209 = .ok (.iadd, 1) := by decide +kernel
theorem dL_law_210 : decode cL_law 210 = .ok (.iaload, 1) := by decide +kernel
theorem dL_law_211 : decode cL_law 211 = .ok (.aload_n 0, 1) := by decide +kernel
theorem dL_law_212 : decode cL_law 212 = .ok (.iload_n 3, 1) := by decide +kernel
theorem dL_law_213 : decode cL_law 213 = .ok (.iconst 3, 1) := by decide +kernel
theorem dL_law_214 : decode cL_law 214 = .ok (.iadd, 1) := by decide +kernel
theorem dL_law_215 : decode cL_law 215 = .ok (.iaload, 1) := by decide +kernel
theorem dL_law_216 : decode cL_law 216 = .ok (.aload_n 0, 1) := by decide +kernel
theorem dL_law_217 : decode cL_law 217 = .ok (.iload_n 3, 1) := by decide +kernel
theorem dL_law_218 : decode cL_law 218 = .ok (.iconst 4, 1) := by decide +kernel
theorem dL_law_219 : decode cL_law 219 = .ok (.iadd, 1) := by decide +kernel
theorem dL_law_220 : decode cL_law 220 = .ok (.iaload, 1) := by decide +kernel
theorem dL_law_221 : decode cL_law 221 = .ok (.aload_n 0, 1) := by decide +kernel
theorem dL_law_222 : decode cL_law 222 = .ok (.iload_n 3, 1) := by decide +kernel
theorem dL_law_223 : decode cL_law 223 = .ok (.iconst 5, 1) := by decide +kernel
theorem dL_law_224 : decode cL_law 224 = .ok (.iadd, 1) := by decide +kernel
theorem dL_law_225 : decode cL_law 225 = .ok (.iaload, 1) := by decide +kernel
theorem dL_law_226 : decode cL_law 226 = .ok (.invokevirtual 13, 3) := by decide +kernel
theorem dL_law_229 : decode cL_law 229 = .ok (.pop, 1) := by decide +kernel
theorem dL_law_230 : decode cL_law 230 = .ok (.aload_n 2, 1) := by decide +kernel
theorem dL_law_231 : decode cL_law 231 = .ok (.aload_n 0, 1) := by decide +kernel
theorem dL_law_232 : decode cL_law 232 = .ok (.iload_n 3, 1) := by decide +kernel
theorem dL_law_233 : decode cL_law 233 = .ok (.iconst 1, 1) := by decide +kernel
theorem dL_law_234 : decode cL_law 234 = .ok (.iadd, 1) := by decide +kernel
theorem dL_law_235 : decode cL_law 235 = .ok (.iaload, 1) := by decide +kernel
theorem dL_law_236 : decode cL_law 236 = .ok (.aload_n 0, 1) := by decide +kernel
theorem dL_law_237 : decode cL_law 237 = .ok (.iload_n 3, 1) := by decide +kernel
theorem dL_law_238 : decode cL_law 238 = .ok (.iconst 2, 1) := by decide +kernel
theorem dL_law_239 : decode cL_law 239 = .ok (.iadd, 1) := by decide +kernel
theorem dL_law_240 : decode cL_law 240 = .ok (.iaload, 1) := by decide +kernel
theorem dL_law_241 : decode cL_law 241 = .ok (.aload_n 0, 1) := by decide +kernel
theorem dL_law_242 : decode cL_law 242 = .ok (.iload_n 3, 1) := by decide +kernel
theorem dL_law_243 : decode cL_law 243 = .ok (.iconst 3, 1) := by decide +kernel
theorem dL_law_244 : decode cL_law 244 = .ok (.iadd, 1) := by decide +kernel
theorem dL_law_245 : decode cL_law 245 = .ok (.iaload, 1) := by decide +kernel
theorem dL_law_246 : decode cL_law 246 = .ok (.aload_n 0, 1) := by decide +kernel
theorem dL_law_247 : decode cL_law 247 = .ok (.iload_n 3, 1) := by decide +kernel
theorem dL_law_248 : decode cL_law 248 = .ok (.iconst 4, 1) := by decide +kernel
theorem dL_law_249 : decode cL_law 249 = .ok (.iadd, 1) := by decide +kernel
theorem dL_law_250 : decode cL_law 250 = .ok (.iaload, 1) := by decide +kernel
theorem dL_law_251 : decode cL_law 251 = .ok (.aload_n 0, 1) := by decide +kernel
theorem dL_law_252 : decode cL_law 252 = .ok (.iload_n 3, 1) := by decide +kernel
theorem dL_law_253 : decode cL_law 253 = .ok (.iconst 5, 1) := by decide +kernel
theorem dL_law_254 : decode cL_law 254 = .ok (.iadd, 1) := by decide +kernel
theorem dL_law_255 : decode cL_law 255 = .ok (.iaload, 1) := by decide +kernel
theorem dL_law_256 : decode cL_law 256 = .ok (.invokevirtual 17, 3) := by decide +kernel
theorem dL_law_259 : decode cL_law 259 = .ok (.pop, 1) := by decide +kernel
theorem dL_law_260 : decode cL_law 260 = .ok (.goto 1036, 3) := by decide +kernel
theorem dL_law_263 : decode cL_law 263 = .ok (.aload_n 1, 1) := by decide +kernel
theorem dL_law_264 : decode cL_law 264 = .ok (.aload_n 0, 1) := by decide +kernel
theorem dL_law_265 : decode cL_law 265 = .ok (.iload_n 3, 1) := by decide +kernel
theorem dL_law_266 : decode cL_law 266 = .ok (.iconst 1, 1) := by decide +kernel
theorem dL_law_267 : decode cL_law 267 = .ok (.iadd, 1) := by decide +kernel
theorem dL_law_268 : decode cL_law 268 = .ok (.iaload, 1) := by decide +kernel
theorem dL_law_269 : decode cL_law 269 = .ok (.invokevirtual 18, 3) := by decide +kernel
theorem dL_law_272 : decode cL_law 272 = .ok (.pop, 1) := by decide +kernel
theorem dL_law_273 : decode cL_law 273 = .ok (.aload_n 2, 1) := by decide +kernel
theorem dL_law_274 : decode cL_law 274 = .ok (.aload_n 0, 1) := by decide +kernel
theorem dL_law_275 : decode cL_law 275 = .ok (.iload_n 3, 1) := by decide +kernel
theorem dL_law_276 : decode cL_law 276 = .ok (.iconst 1, 1) := by decide +kernel
theorem dL_law_277 : decode cL_law 277 = .ok (.iadd, 1) := by decide +kernel
theorem dL_law_278 : decode cL_law 278 = .ok (.iaload, 1) := by decide +kernel
theorem dL_law_279 : decode cL_law 279 = .ok (.invokevirtual 22, 3) := by decide +kernel
theorem dL_law_282 : decode cL_law 282 = .ok (.pop, 1) := by decide +kernel
theorem dL_law_283 : decode cL_law 283 = .ok (.goto 1013, 3) := by decide +kernel
theorem dL_law_286 : decode cL_law 286 = .ok (.aload_n 1, 1) := by decide +kernel
theorem dL_law_287 : decode cL_law 287 = .ok (.invokevirtual 23, 3) := by decide +kernel
theorem dL_law_290 : decode cL_law 290 = .ok (.pop, 1) := by decide +kernel
theorem dL_law_291 : decode cL_law 291 = .ok (.aload_n 2, 1) := by decide +kernel
theorem dL_law_292 : decode cL_law 292 = .ok (.invokevirtual 27, 3) := by decide +kernel
theorem dL_law_295 : decode cL_law 295 = .ok (.pop, 1) := by decide +kernel
theorem dL_law_296 : decode cL_law 296 = .ok (.goto 1000, 3) := by decide +kernel
theorem dL_law_299 : decode cL_law 299 = .ok (.aload_n 1, 1) := by decide +kernel
theorem dL_law_300 : decode cL_law 300 = .ok (.invokevirtual 28, 3) := by decide +kernel
theorem dL_law_303 : decode cL_law 303 = .ok (.pop, 1) := by decide +kernel
theorem dL_law_304 : decode cL_law 304 = .ok (.aload_n 2, 1) := by decide +kernel
theorem dL_law_305 : decode cL_law 305 = .ok (.invokevirtual 31, 3) := by decide +kernel
theorem dL_law_308 : decode cL_law 308 = .ok (.pop, 1) := by decide +kernel
theorem dL_law_309 : decode cL_law 309 = .ok (.goto 987, 3) := by decide +kernel
theorem dL_law_312 : decode cL_law 312 = .ok (.aload_n 1, 1) := by decide +kernel
theorem dL_law_313 : decode cL_law 313 = .ok (.aload_n 0, 1) := by decide +kernel
theorem dL_law_314 : decode cL_law 314 = .ok (.iload_n 3, 1) := by decide +kernel
theorem dL_law_315 : decode cL_law 315 = .ok (.iconst 1, 1) := by decide +kernel
theorem dL_law_316 : decode cL_law 316 = .ok (.iadd, 1) := by decide +kernel
theorem dL_law_317 : decode cL_law 317 = .ok (.iaload, 1) := by decide +kernel
theorem dL_law_318 : decode cL_law 318 = .ok (.invokevirtual 32, 3) := by decide +kernel
theorem dL_law_321 : decode cL_law 321 = .ok (.pop, 1) := by decide +kernel
theorem dL_law_322 : decode cL_law 322 = .ok (.aload_n 2, 1) := by decide +kernel
theorem dL_law_323 : decode cL_law 323 = .ok (.aload_n 0, 1) := by decide +kernel
theorem dL_law_324 : decode cL_law 324 = .ok (.iload_n 3, 1) := by decide +kernel
theorem dL_law_325 : decode cL_law 325 = .ok (.iconst 1, 1) := by decide +kernel
theorem dL_law_326 : decode cL_law 326 = .ok (.iadd, 1) := by decide +kernel
theorem dL_law_327 : decode cL_law 327 = .ok (.iaload, 1) := by decide +kernel
theorem dL_law_328 : decode cL_law 328 = .ok (.invokevirtual 35, 3) := by decide +kernel
theorem dL_law_331 : decode cL_law 331 = .ok (.pop, 1) := by decide +kernel
theorem dL_law_332 : decode cL_law 332 = .ok (.goto 964, 3) := by decide +kernel
theorem dL_law_335 : decode cL_law 335 = .ok (.aload_n 1, 1) := by decide +kernel
theorem dL_law_336 : decode cL_law 336 = .ok (.aload_n 0, 1) := by decide +kernel
theorem dL_law_337 : decode cL_law 337 = .ok (.iload_n 3, 1) := by decide +kernel
theorem dL_law_338 : decode cL_law 338 = .ok (.iconst 1, 1) := by decide +kernel
theorem dL_law_339 : decode cL_law 339 = .ok (.iadd, 1) := by decide +kernel
theorem dL_law_340 : decode cL_law 340 = .ok (.iaload, 1) := by decide +kernel
theorem dL_law_341 : decode cL_law 341 = .ok (.aload_n 0, 1) := by decide +kernel
theorem dL_law_342 : decode cL_law 342 = .ok (.iload_n 3, 1) := by decide +kernel
theorem dL_law_343 : decode cL_law 343 = .ok (.iconst 2, 1) := by decide +kernel
theorem dL_law_344 : decode cL_law 344 = .ok (.iadd, 1) := by decide +kernel
theorem dL_law_345 : decode cL_law 345 = .ok (.iaload, 1) := by decide +kernel
theorem dL_law_346 : decode cL_law 346 = .ok (.invokevirtual 36, 3) := by decide +kernel
theorem dL_law_349 : decode cL_law 349 = .ok (.pop, 1) := by decide +kernel
theorem dL_law_350 : decode cL_law 350 = .ok (.aload_n 2, 1) := by decide +kernel
theorem dL_law_351 : decode cL_law 351 = .ok (.aload_n 0, 1) := by decide +kernel
theorem dL_law_352 : decode cL_law 352 = .ok (.iload_n 3, 1) := by decide +kernel
theorem dL_law_353 : decode cL_law 353 = .ok (.iconst 1, 1) := by decide +kernel
theorem dL_law_354 : decode cL_law 354 = .ok (.iadd, 1) := by decide +kernel
theorem dL_law_355 : decode cL_law 355 = .ok (.iaload, 1) := by decide +kernel
theorem dL_law_356 : decode cL_law 356 = .ok (.aload_n 0, 1) := by decide +kernel
theorem dL_law_357 : decode cL_law 357 = .ok (.iload_n 3, 1) := by decide +kernel
theorem dL_law_358 : decode cL_law 358 = .ok (.iconst 2, 1) := by decide +kernel
theorem dL_law_359 : decode cL_law 359 = .ok (.iadd, 1) := by decide +kernel
theorem dL_law_360 : decode cL_law 360 = .ok (.iaload, 1) := by decide +kernel
theorem dL_law_361 : decode cL_law 361 = .ok (.invokevirtual 40, 3) := by decide +kernel
theorem dL_law_364 : decode cL_law 364 = .ok (.pop, 1) := by decide +kernel
theorem dL_law_365 : decode cL_law 365 = .ok (.goto 931, 3) := by decide +kernel
theorem dL_law_368 : decode cL_law 368 = .ok (.aload_n 1, 1) := by decide +kernel
theorem dL_law_369 : decode cL_law 369 = .ok (.aload_n 0, 1) := by decide +kernel
theorem dL_law_370 : decode cL_law 370 = .ok (.iload_n 3, 1) := by decide +kernel
theorem dL_law_371 : decode cL_law 371 = .ok (.iconst 1, 1) := by decide +kernel
theorem dL_law_372 : decode cL_law 372 = .ok (.iadd, 1) := by decide +kernel
theorem dL_law_373 : decode cL_law 373 = .ok (.iaload, 1) := by decide +kernel
theorem dL_law_374 : decode cL_law 374 = .ok (.aload_n 0, 1) := by decide +kernel
theorem dL_law_375 : decode cL_law 375 = .ok (.iload_n 3, 1) := by decide +kernel
theorem dL_law_376 : decode cL_law 376 = .ok (.iconst 2, 1) := by decide +kernel
theorem dL_law_377 : decode cL_law 377 = .ok (.iadd, 1) := by decide +kernel
theorem dL_law_378 : decode cL_law 378 = .ok (.iaload, 1) := by decide +kernel
theorem dL_law_379 : decode cL_law 379 = .ok (.invokevirtual 41, 3) := by decide +kernel
theorem dL_law_382 : decode cL_law 382 = .ok (.pop, 1) := by decide +kernel
theorem dL_law_383 : decode cL_law 383 = .ok (.aload_n 2, 1) := by decide +kernel
theorem dL_law_384 : decode cL_law 384 = .ok (.aload_n 0, 1) := by decide +kernel
theorem dL_law_385 : decode cL_law 385 = .ok (.iload_n 3, 1) := by decide +kernel
theorem dL_law_386 : decode cL_law 386 = .ok (.iconst 1, 1) := by decide +kernel
theorem dL_law_387 : decode cL_law 387 = .ok (.iadd, 1) := by decide +kernel
theorem dL_law_388 : decode cL_law 388 = .ok (.iaload, 1) := by decide +kernel
theorem dL_law_389 : decode cL_law 389 = .ok (.aload_n 0, 1) := by decide +kernel
theorem dL_law_390 : decode cL_law 390 = .ok (.iload_n 3, 1) := by decide +kernel
theorem dL_law_391 : decode cL_law 391 = .ok (.iconst 2, 1) := by decide +kernel
theorem dL_law_392 : decode cL_law 392 = .ok (.iadd, 1) := by decide +kernel
theorem dL_law_393 : decode cL_law 393 = .ok (.iaload, 1) := by decide +kernel
theorem dL_law_394 : decode cL_law 394 = .ok (.invokevirtual 44, 3) := by decide +kernel
theorem dL_law_397 : decode cL_law 397 = .ok (.pop, 1) := by decide +kernel
theorem dL_law_398 : decode cL_law 398 = .ok (.goto 898, 3) := by decide +kernel
theorem dL_law_401 : decode cL_law 401 = .ok (.aload_n 1, 1) := by decide +kernel
theorem dL_law_402 : decode cL_law 402 = .ok (.aload_n 0, 1) := by decide +kernel
theorem dL_law_403 : decode cL_law 403 = .ok (.iload_n 3, 1) := by decide +kernel
theorem dL_law_404 : decode cL_law 404 = .ok (.iconst 1, 1) := by decide +kernel
theorem dL_law_405 : decode cL_law 405 = .ok (.iadd, 1) := by decide +kernel
theorem dL_law_406 : decode cL_law 406 = .ok (.iaload, 1) := by decide +kernel
theorem dL_law_407 : decode cL_law 407 = .ok (.aload_n 0, 1) := by decide +kernel
theorem dL_law_408 : decode cL_law 408 = .ok (.iload_n 3, 1) := by decide +kernel
theorem dL_law_409 : decode cL_law 409 = .ok (.iconst 2, 1) := by decide +kernel
theorem dL_law_410 : decode cL_law 410 = .ok (.iadd, 1) := by decide +kernel
theorem dL_law_411 : decode cL_law 411 = .ok (.iaload, 1) := by decide +kernel
theorem dL_law_412 : decode cL_law 412 = .ok (.invokevirtual 45, 3) := by decide +kernel
theorem dL_law_415 : decode cL_law 415 = .ok (.pop, 1) := by decide +kernel
theorem dL_law_416 : decode cL_law 416 = .ok (.aload_n 2, 1) := by decide +kernel
theorem dL_law_417 : decode cL_law 417 = .ok (.aload_n 0, 1) := by decide +kernel
theorem dL_law_418 : decode cL_law 418 = .ok (.iload_n 3, 1) := by decide +kernel
theorem dL_law_419 : decode cL_law 419 = .ok (.iconst 1, 1) := by decide +kernel
theorem dL_law_420 : decode cL_law 420 = .ok (.iadd, 1) := by decide +kernel
theorem dL_law_421 : decode cL_law 421 = .ok (.iaload, 1) := by decide +kernel
theorem dL_law_422 : decode cL_law 422 = .ok (.aload_n 0, 1) := by decide +kernel
theorem dL_law_423 : decode cL_law 423 = .ok (.iload_n 3, 1) := by decide +kernel
theorem dL_law_424 : decode cL_law 424 = .ok (.iconst 2, 1) := by decide +kernel
theorem dL_law_425 : decode cL_law 425 = .ok (.iadd, 1) := by decide +kernel
theorem dL_law_426 : decode cL_law 426 = .ok (.iaload, 1) := by decide +kernel
theorem dL_law_427 : decode cL_law 427 = .ok (.invokevirtual 48, 3) := by decide +kernel
theorem dL_law_430 : decode cL_law 430 = .ok (.pop, 1) := by decide +kernel
theorem dL_law_431 : decode cL_law 431 = .ok (.goto 865, 3) := by decide +kernel
theorem dL_law_434 : decode cL_law 434 = .ok (.aload_n 1, 1) := by decide +kernel
theorem dL_law_435 : decode cL_law 435 = .ok (.aload_n 0, 1) := by decide +kernel
theorem dL_law_436 : decode cL_law 436 = .ok (.iload_n 3, 1) := by decide +kernel
theorem dL_law_437 : decode cL_law 437 = .ok (.iconst 1, 1) := by decide +kernel
theorem dL_law_438 : decode cL_law 438 = .ok (.iadd, 1) := by decide +kernel
theorem dL_law_439 : decode cL_law 439 = .ok (.iaload, 1) := by decide +kernel
theorem dL_law_440 : decode cL_law 440 = .ok (.aload_n 0, 1) := by decide +kernel
theorem dL_law_441 : decode cL_law 441 = .ok (.iload_n 3, 1) := by decide +kernel
theorem dL_law_442 : decode cL_law 442 = .ok (.iconst 2, 1) := by decide +kernel
theorem dL_law_443 : decode cL_law 443 = .ok (.iadd, 1) := by decide +kernel
theorem dL_law_444 : decode cL_law 444 = .ok (.iaload, 1) := by decide +kernel
theorem dL_law_445 : decode cL_law 445 = .ok (.aload_n 0, 1) := by decide +kernel
theorem dL_law_446 : decode cL_law 446 = .ok (.iload_n 3, 1) := by decide +kernel
theorem dL_law_447 : decode cL_law 447 = .ok (.iconst 3, 1) := by decide +kernel
theorem dL_law_448 : decode cL_law 448 = .ok (.iadd, 1) := by decide +kernel
theorem dL_law_449 : decode cL_law 449 = .ok (.iaload, 1) := by decide +kernel
theorem dL_law_450 : decode cL_law 450 = .ok (.invokevirtual 49, 3) := by decide +kernel
theorem dL_law_453 : decode cL_law 453 = .ok (.pop, 1) := by decide +kernel
theorem dL_law_454 : decode cL_law 454 = .ok (.aload_n 2, 1) := by decide +kernel
theorem dL_law_455 : decode cL_law 455 = .ok (.aload_n 0, 1) := by decide +kernel
theorem dL_law_456 : decode cL_law 456 = .ok (.iload_n 3, 1) := by decide +kernel
theorem dL_law_457 : decode cL_law 457 = .ok (.iconst 1, 1) := by decide +kernel
theorem dL_law_458 : decode cL_law 458 = .ok (.iadd, 1) := by decide +kernel
theorem dL_law_459 : decode cL_law 459 = .ok (.iaload, 1) := by decide +kernel
theorem dL_law_460 : decode cL_law 460 = .ok (.aload_n 0, 1) := by decide +kernel
theorem dL_law_461 : decode cL_law 461 = .ok (.iload_n 3, 1) := by decide +kernel
theorem dL_law_462 : decode cL_law 462 = .ok (.iconst 2, 1) := by decide +kernel
theorem dL_law_463 : decode cL_law 463 = .ok (.iadd, 1) := by decide +kernel
theorem dL_law_464 : decode cL_law 464 = .ok (.iaload, 1) := by decide +kernel
theorem dL_law_465 : decode cL_law 465 = .ok (.aload_n 0, 1) := by decide +kernel
theorem dL_law_466 : decode cL_law 466 = .ok (.iload_n 3, 1) := by decide +kernel
theorem dL_law_467 : decode cL_law 467 = .ok (.iconst 3, 1) := by decide +kernel
theorem dL_law_468 : decode cL_law 468 = .ok (.iadd, 1) := by decide +kernel
theorem dL_law_469 : decode cL_law 469 = .ok (.iaload, 1) := by decide +kernel
theorem dL_law_470 : decode cL_law 470 = .ok (.invokevirtual 53, 3) := by decide +kernel
theorem dL_law_473 : decode cL_law 473 = .ok (.pop, 1) := by decide +kernel
theorem dL_law_474 : decode cL_law 474 = .ok (.goto 822, 3) := by decide +kernel
theorem dL_law_477 : decode cL_law 477 = .ok (.aload_n 1, 1) := by decide +kernel
theorem dL_law_478 : decode cL_law 478 = .ok (.aload_n 0, 1) := by decide +kernel
theorem dL_law_479 : decode cL_law 479 = .ok (.iload_n 3, 1) := by decide +kernel
theorem dL_law_480 : decode cL_law 480 = .ok (.iconst 1, 1) := by decide +kernel
theorem dL_law_481 : decode cL_law 481 = .ok (.iadd, 1) := by decide +kernel
theorem dL_law_482 : decode cL_law 482 = .ok (.iaload, 1) := by decide +kernel
theorem dL_law_483 : decode cL_law 483 = .ok (.aload_n 0, 1) := by decide +kernel
theorem dL_law_484 : decode cL_law 484 = .ok (.iload_n 3, 1) := by decide +kernel
theorem dL_law_485 : decode cL_law 485 = .ok (.iconst 2, 1) := by decide +kernel
theorem dL_law_486 : decode cL_law 486 = .ok (.iadd, 1) := by decide +kernel
theorem dL_law_487 : decode cL_law 487 = .ok (.iaload, 1) := by decide +kernel
theorem dL_law_488 : decode cL_law 488 = .ok (.invokevirtual 54, 3) := by decide +kernel
theorem dL_law_491 : decode cL_law 491 = .ok (.pop, 1) := by decide +kernel
theorem dL_law_492 : decode cL_law 492 = .ok (.aload_n 2, 1) := by decide +kernel
theorem dL_law_493 : decode cL_law 493 = .ok (.aload_n 0, 1) := by decide +kernel
theorem dL_law_494 : decode cL_law 494 = .ok (.iload_n 3, 1) := by decide +kernel
theorem dL_law_495 : decode cL_law 495 = .ok (.iconst 1, 1) := by decide +kernel
theorem dL_law_496 : decode cL_law 496 = .ok (.iadd, 1) := by decide +kernel
theorem dL_law_497 : decode cL_law 497 = .ok (.iaload, 1) := by decide +kernel
theorem dL_law_498 : decode cL_law 498 = .ok (.aload_n 0, 1) := by decide +kernel
theorem dL_law_499 : decode cL_law 499 = .ok (.iload_n 3, 1) := by decide +kernel
theorem dL_law_500 : decode cL_law 500 = .ok (.iconst 2, 1) := by decide +kernel
theorem dL_law_501 : decode cL_law 501 = .ok (.iadd, 1) := by decide +kernel
theorem dL_law_502 : decode cL_law 502 = .ok (.iaload, 1) := by decide +kernel
theorem dL_law_503 : decode cL_law 503 = .ok (.invokevirtual 57, 3) := by decide +kernel
theorem dL_law_506 : decode cL_law 506 = .ok (.pop, 1) := by decide +kernel
theorem dL_law_507 : decode cL_law 507 = .ok (.goto 789, 3) := by decide +kernel
theorem dL_law_510 : decode cL_law 510 = .ok (.aload_n 1, 1) := by decide +kernel
theorem dL_law_511 : decode cL_law 511 = .ok (.aload_n 0, 1) := by decide +kernel
theorem dL_law_512 : decode cL_law 512 = .ok (.iload_n 3, 1) := by decide +kernel
theorem dL_law_513 : decode cL_law 513 = .ok (.iconst 1, 1) := by decide +kernel
theorem dL_law_514 : decode cL_law 514 = .ok (.iadd, 1) := by decide +kernel
theorem dL_law_515 : decode cL_law 515 = .ok (.iaload, 1) := by decide +kernel
theorem dL_law_516 : decode cL_law 516 = .ok (.aload_n 0, 1) := by decide +kernel
theorem dL_law_517 : decode cL_law 517 = .ok (.iload_n 3, 1) := by decide +kernel
theorem dL_law_518 : decode cL_law 518 = .ok (.iconst 2, 1) := by decide +kernel
theorem dL_law_519 : decode cL_law 519 = .ok (.iadd, 1) := by decide +kernel
theorem dL_law_520 : decode cL_law 520 = .ok (.iaload, 1) := by decide +kernel
theorem dL_law_521 : decode cL_law 521 = .ok (.invokevirtual 58, 3) := by decide +kernel
theorem dL_law_524 : decode cL_law 524 = .ok (.pop, 1) := by decide +kernel
theorem dL_law_525 : decode cL_law 525 = .ok (.aload_n 2, 1) := by decide +kernel
theorem dL_law_526 : decode cL_law 526 = .ok (.aload_n 0, 1) := by decide +kernel
theorem dL_law_527 : decode cL_law 527 = .ok (.iload_n 3, 1) := by decide +kernel
theorem dL_law_528 : decode cL_law 528 = .ok (.iconst 1, 1) := by decide +kernel
theorem dL_law_529 : decode cL_law 529 = .ok (.iadd, 1) := by decide +kernel
theorem dL_law_530 : decode cL_law 530 = .ok (.iaload, 1) := by decide +kernel
theorem dL_law_531 : decode cL_law 531 = .ok (.aload_n 0, 1) := by decide +kernel
theorem dL_law_532 : decode cL_law 532 = .ok (.iload_n 3, 1) := by decide +kernel
theorem dL_law_533 : decode cL_law 533 = .ok (.iconst 2, 1) := by decide +kernel
theorem dL_law_534 : decode cL_law 534 = .ok (.iadd, 1) := by decide +kernel
theorem dL_law_535 : decode cL_law 535 = .ok (.iaload, 1) := by decide +kernel
theorem dL_law_536 : decode cL_law 536 = .ok (.invokevirtual 61, 3) := by decide +kernel
theorem dL_law_539 : decode cL_law 539 = .ok (.pop, 1) := by decide +kernel
theorem dL_law_540 : decode cL_law 540 = .ok (.goto 756, 3) := by decide +kernel
theorem dL_law_543 : decode cL_law 543 = .ok (.aload_n 1, 1) := by decide +kernel
theorem dL_law_544 : decode cL_law 544 = .ok (.invokevirtual 62, 3) := by decide +kernel
theorem dL_law_547 : decode cL_law 547 = .ok (.pop, 1) := by decide +kernel
theorem dL_law_548 : decode cL_law 548 = .ok (.aload_n 2, 1) := by decide +kernel
theorem dL_law_549 : decode cL_law 549 = .ok (.invokevirtual 65, 3) := by decide +kernel
theorem dL_law_552 : decode cL_law 552 = .ok (.pop, 1) := by decide +kernel
theorem dL_law_553 : decode cL_law 553 = .ok (.goto 743, 3) := by decide +kernel
theorem dL_law_556 : decode cL_law 556 = .ok (.aload_n 1, 1) := by decide +kernel
theorem dL_law_557 : decode cL_law 557 = .ok (.aload_n 0, 1) := by decide +kernel
theorem dL_law_558 : decode cL_law 558 = .ok (.iload_n 3, 1) := by decide +kernel
theorem dL_law_559 : decode cL_law 559 = .ok (.iconst 1, 1) := by decide +kernel
theorem dL_law_560 : decode cL_law 560 = .ok (.iadd, 1) := by decide +kernel
theorem dL_law_561 : decode cL_law 561 = .ok (.iaload, 1) := by decide +kernel
theorem dL_law_562 : decode cL_law 562 = .ok (.aload_n 0, 1) := by decide +kernel
theorem dL_law_563 : decode cL_law 563 = .ok (.iload_n 3, 1) := by decide +kernel
theorem dL_law_564 : decode cL_law 564 = .ok (.iconst 2, 1) := by decide +kernel
theorem dL_law_565 : decode cL_law 565 = .ok (.iadd, 1) := by decide +kernel
theorem dL_law_566 : decode cL_law 566 = .ok (.iaload, 1) := by decide +kernel
theorem dL_law_567 : decode cL_law 567 = .ok (.aload_n 0, 1) := by decide +kernel
theorem dL_law_568 : decode cL_law 568 = .ok (.iload_n 3, 1) := by decide +kernel
theorem dL_law_569 : decode cL_law 569 = .ok (.iconst 3, 1) := by decide +kernel
theorem dL_law_570 : decode cL_law 570 = .ok (.iadd, 1) := by decide +kernel
theorem dL_law_571 : decode cL_law 571 = .ok (.iaload, 1) := by decide +kernel
theorem dL_law_572 : decode cL_law 572 = .ok (.invokevirtual 66, 3) := by decide +kernel
theorem dL_law_575 : decode cL_law 575 = .ok (.pop, 1) := by decide +kernel
theorem dL_law_576 : decode cL_law 576 = .ok (.aload_n 2, 1) := by decide +kernel
theorem dL_law_577 : decode cL_law 577 = .ok (.aload_n 0, 1) := by decide +kernel
theorem dL_law_578 : decode cL_law 578 = .ok (.iload_n 3, 1) := by decide +kernel
theorem dL_law_579 : decode cL_law 579 = .ok (.iconst 1, 1) := by decide +kernel
theorem dL_law_580 : decode cL_law 580 = .ok (.iadd, 1) := by decide +kernel
theorem dL_law_581 : decode cL_law 581 = .ok (.iaload, 1) := by decide +kernel
theorem dL_law_582 : decode cL_law 582 = .ok (.aload_n 0, 1) := by decide +kernel
theorem dL_law_583 : decode cL_law 583 = .ok (.iload_n 3, 1) := by decide +kernel
theorem dL_law_584 : decode cL_law 584 = .ok (.iconst 2, 1) := by decide +kernel
theorem dL_law_585 : decode cL_law 585 = .ok (.iadd, 1) := by decide +kernel
theorem dL_law_586 : decode cL_law 586 = .ok (.iaload, 1) := by decide +kernel
theorem dL_law_587 : decode cL_law 587 = .ok (.aload_n 0, 1) := by decide +kernel
theorem dL_law_588 : decode cL_law 588 = .ok (.iload_n 3, 1) := by decide +kernel
theorem dL_law_589 : decode cL_law 589 = .ok (.iconst 3, 1) := by decide +kernel
theorem dL_law_590 : decode cL_law 590 = .ok (.iadd, 1) := by decide +kernel
theorem dL_law_591 : decode cL_law 591 = .ok (.iaload, 1) := by decide +kernel
theorem dL_law_592 : decode cL_law 592 = .ok (.invokevirtual 69, 3) := by decide +kernel
theorem dL_law_595 : decode cL_law 595 = .ok (.pop, 1) := by decide +kernel
theorem dL_law_596 : decode cL_law 596 = .ok (.goto 700, 3) := by decide +kernel
theorem dL_law_599 : decode cL_law 599 = .ok (.aload_n 1, 1) := by decide +kernel
theorem dL_law_600 : decode cL_law 600 = .ok (.aload_n 0, 1) := by decide +kernel
theorem dL_law_601 : decode cL_law 601 = .ok (.iload_n 3, 1) := by decide +kernel
theorem dL_law_602 : decode cL_law 602 = .ok (.iconst 1, 1) := by decide +kernel
theorem dL_law_603 : decode cL_law 603 = .ok (.iadd, 1) := by decide +kernel
theorem dL_law_604 : decode cL_law 604 = .ok (.iaload, 1) := by decide +kernel
theorem dL_law_605 : decode cL_law 605 = .ok (.invokevirtual 70, 3) := by decide +kernel
theorem dL_law_608 : decode cL_law 608 = .ok (.pop, 1) := by decide +kernel
theorem dL_law_609 : decode cL_law 609 = .ok (.aload_n 2, 1) := by decide +kernel
theorem dL_law_610 : decode cL_law 610 = .ok (.aload_n 0, 1) := by decide +kernel
theorem dL_law_611 : decode cL_law 611 = .ok (.iload_n 3, 1) := by decide +kernel
theorem dL_law_612 : decode cL_law 612 = .ok (.iconst 1, 1) := by decide +kernel
theorem dL_law_613 : decode cL_law 613 = .ok (.iadd, 1) := by decide +kernel
theorem dL_law_614 : decode cL_law 614 = .ok (.iaload, 1) := by decide +kernel
theorem dL_law_615 : decode cL_law 615 = .ok (.invokevirtual 73, 3) := by decide +kernel
theorem dL_law_618 : decode cL_law 618 = .ok (.pop, 1) := by decide +kernel
theorem dL_law_619 : decode cL_law 619 = .ok (.goto 677, 3) := by decide +kernel
theorem dL_law_622 : decode cL_law 622 = .ok (.aload_n 1, 1) := by decide +kernel
theorem dL_law_623 : decode cL_law 623 = .ok (.aload_n 0, 1) := by decide +kernel
theorem dL_law_624 : decode cL_law 624 = .ok (.iload_n 3, 1) := by decide +kernel
theorem dL_law_625 : decode cL_law 625 = .ok (.iconst 1, 1) := by decide +kernel
theorem dL_law_626 : decode cL_law 626 = .ok (.iadd, 1) := by decide +kernel
theorem dL_law_627 : decode cL_law 627 = .ok (.iaload, 1) := by decide +kernel
theorem dL_law_628 : decode cL_law 628 = .ok (.aload_n 0, 1) := by decide +kernel
theorem dL_law_629 : decode cL_law 629 = .ok (.iload_n 3, 1) := by decide +kernel
theorem dL_law_630 : decode cL_law 630 = .ok (.iconst 2, 1) := by decide +kernel
theorem dL_law_631 : decode cL_law 631 = .ok (.iadd, 1) := by decide +kernel
theorem dL_law_632 : decode cL_law 632 = .ok (.iaload, 1) := by decide +kernel
theorem dL_law_633 : decode cL_law 633 = .ok (.aload_n 0, 1) := by decide +kernel
theorem dL_law_634 : decode cL_law 634 = .ok (.iload_n 3, 1) := by decide +kernel
theorem dL_law_635 : decode cL_law 635 = .ok (.iconst 3, 1) := by decide +kernel
theorem dL_law_636 : decode cL_law 636 = .ok (.iadd, 1) := by decide +kernel
theorem dL_law_637 : decode cL_law 637 = .ok (.iaload, 1) := by decide +kernel
theorem dL_law_638 : decode cL_law 638 = .ok (.invokevirtual 74, 3) := by decide +kernel
theorem dL_law_641 : decode cL_law 641 = .ok (.pop, 1) := by decide +kernel
theorem dL_law_642 : decode cL_law 642 = .ok (.aload_n 2, 1) := by decide +kernel
theorem dL_law_643 : decode cL_law 643 = .ok (.aload_n 0, 1) := by decide +kernel
theorem dL_law_644 : decode cL_law 644 = .ok (.iload_n 3, 1) := by decide +kernel
theorem dL_law_645 : decode cL_law 645 = .ok (.iconst 1, 1) := by decide +kernel
theorem dL_law_646 : decode cL_law 646 = .ok (.iadd, 1) := by decide +kernel
theorem dL_law_647 : decode cL_law 647 = .ok (.iaload, 1) := by decide +kernel
theorem dL_law_648 : decode cL_law 648 = .ok (.aload_n 0, 1) := by decide +kernel
theorem dL_law_649 : decode cL_law 649 = .ok (.iload_n 3, 1) := by decide +kernel
theorem dL_law_650 : decode cL_law 650 = .ok (.iconst 2, 1) := by decide +kernel
theorem dL_law_651 : decode cL_law 651 = .ok (.iadd, 1) := by decide +kernel
theorem dL_law_652 : decode cL_law 652 = .ok (.iaload, 1) := by decide +kernel
theorem dL_law_653 : decode cL_law 653 = .ok (.aload_n 0, 1) := by decide +kernel
theorem dL_law_654 : decode cL_law 654 = .ok (.iload_n 3, 1) := by decide +kernel
theorem dL_law_655 : decode cL_law 655 = .ok (.iconst 3, 1) := by decide +kernel
theorem dL_law_656 : decode cL_law 656 = .ok (.iadd, 1) := by decide +kernel
theorem dL_law_657 : decode cL_law 657 = .ok (.iaload, 1) := by decide +kernel
theorem dL_law_658 : decode cL_law 658 = .ok (.invokevirtual 77, 3) := by decide +kernel
theorem dL_law_661 : decode cL_law 661 = .ok (.pop, 1) := by decide +kernel
theorem dL_law_662 : decode cL_law 662 = .ok (.goto 634, 3) := by decide +kernel
theorem dL_law_665 : decode cL_law 665 = .ok (.aload_n 1, 1) := by decide +kernel
theorem dL_law_666 : decode cL_law 666 = .ok (.aload_n 0, 1) := by decide +kernel
theorem dL_law_667 : decode cL_law 667 = .ok (.iload_n 3, 1) := by decide +kernel
theorem dL_law_668 : decode cL_law 668 = .ok (.iconst 1, 1) := by decide +kernel
theorem dL_law_669 : decode cL_law 669 = .ok (.iadd, 1) := by decide +kernel
theorem dL_law_670 : decode cL_law 670 = .ok (.iaload, 1) := by decide +kernel
theorem dL_law_671 : decode cL_law 671 = .ok (.aload_n 0, 1) := by decide +kernel
theorem dL_law_672 : decode cL_law 672 = .ok (.iload_n 3, 1) := by decide +kernel
theorem dL_law_673 : decode cL_law 673 = .ok (.iconst 2, 1) := by decide +kernel
theorem dL_law_674 : decode cL_law 674 = .ok (.iadd, 1) := by decide +kernel
theorem dL_law_675 : decode cL_law 675 = .ok (.iaload, 1) := by decide +kernel
theorem dL_law_676 : decode cL_law 676 = .ok (.ifCond .eq 7, 3) := by decide +kernel
theorem dL_law_679 : decode cL_law 679 = .ok (.iconst 1, 1) := by decide +kernel
theorem dL_law_680 : decode cL_law 680 = .ok (.goto 4, 3) := by decide +kernel
theorem dL_law_683 : decode cL_law 683 = .ok (.iconst 0, 1) := by decide +kernel
theorem dL_law_684 : decode cL_law 684 = .ok (.invokevirtual 78, 3) := by decide +kernel
theorem dL_law_687 : decode cL_law 687 = .ok (.pop, 1) := by decide +kernel
theorem dL_law_688 : decode cL_law 688 = .ok (.aload_n 2, 1) := by decide +kernel
theorem dL_law_689 : decode cL_law 689 = .ok (.aload_n 0, 1) := by decide +kernel
theorem dL_law_690 : decode cL_law 690 = .ok (.iload_n 3, 1) := by decide +kernel
theorem dL_law_691 : decode cL_law 691 = .ok (.iconst 1, 1) := by decide +kernel
theorem dL_law_692 : decode cL_law 692 = .ok (.iadd, 1) := by decide +kernel
theorem dL_law_693 : decode cL_law 693 = .ok (.iaload, 1) := by decide +kernel
theorem dL_law_694 : decode cL_law 694 = .ok (.aload_n 0, 1) := by decide +kernel
theorem dL_law_695 : decode cL_law 695 = .ok (.iload_n 3, 1) := by decide +kernel
theorem dL_law_696 : decode cL_law 696 = .ok (.iconst 2, 1) := by decide +kernel
theorem dL_law_697 : decode cL_law 697 = .ok (.iadd, 1) := by decide +kernel
theorem dL_law_698 : decode cL_law 698 = .ok (.iaload, 1) := by decide +kernel
theorem dL_law_699 : decode cL_law 699 = .ok (.ifCond .eq 7, 3) := by decide +kernel
theorem dL_law_702 : decode cL_law 702 = .ok (.iconst 1, 1) := by decide +kernel
theorem dL_law_703 : decode cL_law 703 = .ok (.goto 4, 3) := by decide +kernel
theorem dL_law_706 : decode cL_law 706 = .ok (.iconst 0, 1) := by decide +kernel
theorem dL_law_707 : decode cL_law 707 = .ok (.invokevirtual 82, 3) := by decide +kernel
theorem dL_law_710 : decode cL_law 710 = .ok (.pop, 1) := by decide +kernel
theorem dL_law_711 : decode cL_law 711 = .ok (.goto 585, 3) := by decide +kernel
theorem dL_law_714 : decode cL_law 714 = .ok (.aload_n 1, 1) := by decide +kernel
theorem dL_law_715 : decode cL_law 715 = .ok (.aload_n 0, 1) := by decide +kernel
theorem dL_law_716 : decode cL_law 716 = .ok (.iload_n 3, 1) := by decide +kernel
theorem dL_law_717 : decode cL_law 717 = .ok (.iconst 1, 1) := by decide +kernel
theorem dL_law_718 : decode cL_law 718 = .ok (.iadd, 1) := by decide +kernel
theorem dL_law_719 : decode cL_law 719 = .ok (.iaload, 1) := by decide +kernel
theorem dL_law_720 : decode cL_law 720 = .ok (.aload_n 0, 1) := by decide +kernel
theorem dL_law_721 : decode cL_law 721 = .ok (.iload_n 3, 1) := by decide +kernel
theorem dL_law_722 : decode cL_law 722 = .ok (.iconst 2, 1) := by decide +kernel
theorem dL_law_723 : decode cL_law 723 = .ok (.iadd, 1) := by decide +kernel
theorem dL_law_724 : decode cL_law 724 = .ok (.iaload, 1) := by decide +kernel
theorem dL_law_725 : decode cL_law 725 = .ok (.ifCond .eq 7, 3) := by decide +kernel
theorem dL_law_728 : decode cL_law 728 = .ok (.iconst 1, 1) := by decide +kernel
theorem dL_law_729 : decode cL_law 729 = .ok (.goto 4, 3) := by decide +kernel
theorem dL_law_732 : decode cL_law 732 = .ok (.iconst 0, 1) := by decide +kernel
theorem dL_law_733 : decode cL_law 733 = .ok (.invokevirtual 83, 3) := by decide +kernel
theorem dL_law_736 : decode cL_law 736 = .ok (.pop, 1) := by decide +kernel
theorem dL_law_737 : decode cL_law 737 = .ok (.aload_n 2, 1) := by decide +kernel
theorem dL_law_738 : decode cL_law 738 = .ok (.aload_n 0, 1) := by decide +kernel
theorem dL_law_739 : decode cL_law 739 = .ok (.iload_n 3, 1) := by decide +kernel
theorem dL_law_740 : decode cL_law 740 = .ok (.iconst 1, 1) := by decide +kernel
theorem dL_law_741 : decode cL_law 741 = .ok (.iadd, 1) := by decide +kernel
theorem dL_law_742 : decode cL_law 742 = .ok (.iaload, 1) := by decide +kernel
theorem dL_law_743 : decode cL_law 743 = .ok (.aload_n 0, 1) := by decide +kernel
theorem dL_law_744 : decode cL_law 744 = .ok (.iload_n 3, 1) := by decide +kernel
theorem dL_law_745 : decode cL_law 745 = .ok (.iconst 2, 1) := by decide +kernel
theorem dL_law_746 : decode cL_law 746 = .ok (.iadd, 1) := by decide +kernel
theorem dL_law_747 : decode cL_law 747 = .ok (.iaload, 1) := by decide +kernel
theorem dL_law_748 : decode cL_law 748 = .ok (.ifCond .eq 7, 3) := by decide +kernel
theorem dL_law_751 : decode cL_law 751 = .ok (.iconst 1, 1) := by decide +kernel
theorem dL_law_752 : decode cL_law 752 = .ok (.goto 4, 3) := by decide +kernel
theorem dL_law_755 : decode cL_law 755 = .ok (.iconst 0, 1) := by decide +kernel
theorem dL_law_756 : decode cL_law 756 = .ok (.invokevirtual 86, 3) := by decide +kernel
theorem dL_law_759 : decode cL_law 759 = .ok (.pop, 1) := by decide +kernel
theorem dL_law_760 : decode cL_law 760 = .ok (.goto 536, 3) := by decide +kernel
theorem dL_law_763 : decode cL_law 763 = .ok (.aload_n 1, 1) := by decide +kernel
theorem dL_law_764 : decode cL_law 764 = .ok (.invokevirtual 87, 3) := by decide +kernel
theorem dL_law_767 : decode cL_law 767 = .ok (.pop, 1) := by decide +kernel
theorem dL_law_768 : decode cL_law 768 = .ok (.aload_n 2, 1) := by decide +kernel
theorem dL_law_769 : decode cL_law 769 = .ok (.invokevirtual 90, 3) := by decide +kernel
theorem dL_law_772 : decode cL_law 772 = .ok (.pop, 1) := by decide +kernel
theorem dL_law_773 : decode cL_law 773 = .ok (.goto 523, 3) := by decide +kernel
theorem dL_law_776 : decode cL_law 776 = .ok (.aload_n 1, 1) := by decide +kernel
theorem dL_law_777 : decode cL_law 777 = .ok (.invokevirtual 91, 3) := by decide +kernel
theorem dL_law_780 : decode cL_law 780 = .ok (.pop, 1) := by decide +kernel
theorem dL_law_781 : decode cL_law 781 = .ok (.aload_n 2, 1) := by decide +kernel
theorem dL_law_782 : decode cL_law 782 = .ok (.invokevirtual 94, 3) := by decide +kernel
theorem dL_law_785 : decode cL_law 785 = .ok (.pop, 1) := by decide +kernel
theorem dL_law_786 : decode cL_law 786 = .ok (.goto 510, 3) := by decide +kernel
theorem dL_law_789 : decode cL_law 789 = .ok (.aload_n 1, 1) := by decide +kernel
theorem dL_law_790 : decode cL_law 790 = .ok (.aload_n 0, 1) := by decide +kernel
theorem dL_law_791 : decode cL_law 791 = .ok (.iload_n 3, 1) := by decide +kernel
theorem dL_law_792 : decode cL_law 792 = .ok (.iconst 1, 1) := by decide +kernel
theorem dL_law_793 : decode cL_law 793 = .ok (.iadd, 1) := by decide +kernel
theorem dL_law_794 : decode cL_law 794 = .ok (.iaload, 1) := by decide +kernel
theorem dL_law_795 : decode cL_law 795 = .ok (.aload_n 0, 1) := by decide +kernel
theorem dL_law_796 : decode cL_law 796 = .ok (.iload_n 3, 1) := by decide +kernel
theorem dL_law_797 : decode cL_law 797 = .ok (.iconst 2, 1) := by decide +kernel
theorem dL_law_798 : decode cL_law 798 = .ok (.iadd, 1) := by decide +kernel
theorem dL_law_799 : decode cL_law 799 = .ok (.iaload, 1) := by decide +kernel
theorem dL_law_800 : decode cL_law 800 = .ok (.aload_n 0, 1) := by decide +kernel
theorem dL_law_801 : decode cL_law 801 = .ok (.iload_n 3, 1) := by decide +kernel
theorem dL_law_802 : decode cL_law 802 = .ok (.iconst 3, 1) := by decide +kernel
theorem dL_law_803 : decode cL_law 803 = .ok (.iadd, 1) := by decide +kernel
theorem dL_law_804 : decode cL_law 804 = .ok (.iaload, 1) := by decide +kernel
theorem dL_law_805 : decode cL_law 805 = .ok (.invokevirtual 95, 3) := by decide +kernel
theorem dL_law_808 : decode cL_law 808 = .ok (.pop, 1) := by decide +kernel
theorem dL_law_809 : decode cL_law 809 = .ok (.aload_n 2, 1) := by decide +kernel
theorem dL_law_810 : decode cL_law 810 = .ok (.aload_n 0, 1) := by decide +kernel
theorem dL_law_811 : decode cL_law 811 = .ok (.iload_n 3, 1) := by decide +kernel
theorem dL_law_812 : decode cL_law 812 = .ok (.iconst 1, 1) := by decide +kernel
theorem dL_law_813 : decode cL_law 813 = .ok (.iadd, 1) := by decide +kernel
theorem dL_law_814 : decode cL_law 814 = .ok (.iaload, 1) := by decide +kernel
theorem dL_law_815 : decode cL_law 815 = .ok (.aload_n 0, 1) := by decide +kernel
theorem dL_law_816 : decode cL_law 816 = .ok (.iload_n 3, 1) := by decide +kernel
theorem dL_law_817 : decode cL_law 817 = .ok (.iconst 2, 1) := by decide +kernel
theorem dL_law_818 : decode cL_law 818 = .ok (.iadd, 1) := by decide +kernel
theorem dL_law_819 : decode cL_law 819 = .ok (.iaload, 1) := by decide +kernel
theorem dL_law_820 : decode cL_law 820 = .ok (.aload_n 0, 1) := by decide +kernel
theorem dL_law_821 : decode cL_law 821 = .ok (.iload_n 3, 1) := by decide +kernel
theorem dL_law_822 : decode cL_law 822 = .ok (.iconst 3, 1) := by decide +kernel
theorem dL_law_823 : decode cL_law 823 = .ok (.iadd, 1) := by decide +kernel
theorem dL_law_824 : decode cL_law 824 = .ok (.iaload, 1) := by decide +kernel
theorem dL_law_825 : decode cL_law 825 = .ok (.invokevirtual 98, 3) := by decide +kernel
theorem dL_law_828 : decode cL_law 828 = .ok (.pop, 1) := by decide +kernel
theorem dL_law_829 : decode cL_law 829 = .ok (.goto 467, 3) := by decide +kernel
theorem dL_law_832 : decode cL_law 832 = .ok (.aload_n 1, 1) := by decide +kernel
theorem dL_law_833 : decode cL_law 833 = .ok (.aload_n 0, 1) := by decide +kernel
theorem dL_law_834 : decode cL_law 834 = .ok (.iload_n 3, 1) := by decide +kernel
theorem dL_law_835 : decode cL_law 835 = .ok (.iconst 1, 1) := by decide +kernel
theorem dL_law_836 : decode cL_law 836 = .ok (.iadd, 1) := by decide +kernel
theorem dL_law_837 : decode cL_law 837 = .ok (.iaload, 1) := by decide +kernel
theorem dL_law_838 : decode cL_law 838 = .ok (.invokevirtual 99, 3) := by decide +kernel
theorem dL_law_841 : decode cL_law 841 = .ok (.pop, 1) := by decide +kernel
theorem dL_law_842 : decode cL_law 842 = .ok (.aload_n 2, 1) := by decide +kernel
theorem dL_law_843 : decode cL_law 843 = .ok (.aload_n 0, 1) := by decide +kernel
theorem dL_law_844 : decode cL_law 844 = .ok (.iload_n 3, 1) := by decide +kernel
theorem dL_law_845 : decode cL_law 845 = .ok (.iconst 1, 1) := by decide +kernel
theorem dL_law_846 : decode cL_law 846 = .ok (.iadd, 1) := by decide +kernel
theorem dL_law_847 : decode cL_law 847 = .ok (.iaload, 1) := by decide +kernel
theorem dL_law_848 : decode cL_law 848 = .ok (.invokevirtual 102, 3) := by decide +kernel
theorem dL_law_851 : decode cL_law 851 = .ok (.pop, 1) := by decide +kernel
theorem dL_law_852 : decode cL_law 852 = .ok (.goto 444, 3) := by decide +kernel
theorem dL_law_855 : decode cL_law 855 = .ok (.aload_n 1, 1) := by decide +kernel
theorem dL_law_856 : decode cL_law 856 = .ok (.aload_n 0, 1) := by decide +kernel
theorem dL_law_857 : decode cL_law 857 = .ok (.iload_n 3, 1) := by decide +kernel
theorem dL_law_858 : decode cL_law 858 = .ok (.iconst 1, 1) := by decide +kernel
theorem dL_law_859 : decode cL_law 859 = .ok (.iadd, 1) := by decide +kernel
theorem dL_law_860 : decode cL_law 860 = .ok (.iaload, 1) := by decide +kernel
theorem dL_law_861 : decode cL_law 861 = .ok (.invokevirtual 103, 3) := by decide +kernel
theorem dL_law_864 : decode cL_law 864 = .ok (.pop, 1) := by decide +kernel
theorem dL_law_865 : decode cL_law 865 = .ok (.aload_n 2, 1) := by decide +kernel
theorem dL_law_866 : decode cL_law 866 = .ok (.aload_n 0, 1) := by decide +kernel
theorem dL_law_867 : decode cL_law 867 = .ok (.iload_n 3, 1) := by decide +kernel
theorem dL_law_868 : decode cL_law 868 = .ok (.iconst 1, 1) := by decide +kernel
theorem dL_law_869 : decode cL_law 869 = .ok (.iadd, 1) := by decide +kernel
theorem dL_law_870 : decode cL_law 870 = .ok (.iaload, 1) := by decide +kernel
theorem dL_law_871 : decode cL_law 871 = .ok (.invokevirtual 106, 3) := by decide +kernel
theorem dL_law_874 : decode cL_law 874 = .ok (.pop, 1) := by decide +kernel
theorem dL_law_875 : decode cL_law 875 = .ok (.goto 421, 3) := by decide +kernel
theorem dL_law_878 : decode cL_law 878 = .ok (.aload_n 1, 1) := by decide +kernel
theorem dL_law_879 : decode cL_law 879 = .ok (.aload_n 0, 1) := by decide +kernel
theorem dL_law_880 : decode cL_law 880 = .ok (.iload_n 3, 1) := by decide +kernel
theorem dL_law_881 : decode cL_law 881 = .ok (.iconst 1, 1) := by decide +kernel
theorem dL_law_882 : decode cL_law 882 = .ok (.iadd, 1) := by decide +kernel
theorem dL_law_883 : decode cL_law 883 = .ok (.iaload, 1) := by decide +kernel
theorem dL_law_884 : decode cL_law 884 = .ok (.invokevirtual 107, 3) := by decide +kernel
theorem dL_law_887 : decode cL_law 887 = .ok (.pop, 1) := by decide +kernel
theorem dL_law_888 : decode cL_law 888 = .ok (.aload_n 2, 1) := by decide +kernel
theorem dL_law_889 : decode cL_law 889 = .ok (.aload_n 0, 1) := by decide +kernel
theorem dL_law_890 : decode cL_law 890 = .ok (.iload_n 3, 1) := by decide +kernel
theorem dL_law_891 : decode cL_law 891 = .ok (.iconst 1, 1) := by decide +kernel
theorem dL_law_892 : decode cL_law 892 = .ok (.iadd, 1) := by decide +kernel
theorem dL_law_893 : decode cL_law 893 = .ok (.iaload, 1) := by decide +kernel
theorem dL_law_894 : decode cL_law 894 = .ok (.invokevirtual 110, 3) := by decide +kernel
theorem dL_law_897 : decode cL_law 897 = .ok (.pop, 1) := by decide +kernel
theorem dL_law_898 : decode cL_law 898 = .ok (.goto 398, 3) := by decide +kernel
theorem dL_law_901 : decode cL_law 901 = .ok (.aload_n 1, 1) := by decide +kernel
theorem dL_law_902 : decode cL_law 902 = .ok (.aload_n 0, 1) := by decide +kernel
theorem dL_law_903 : decode cL_law 903 = .ok (.iload_n 3, 1) := by decide +kernel
theorem dL_law_904 : decode cL_law 904 = .ok (.iconst 1, 1) := by decide +kernel
theorem dL_law_905 : decode cL_law 905 = .ok (.iadd, 1) := by decide +kernel
theorem dL_law_906 : decode cL_law 906 = .ok (.iaload, 1) := by decide +kernel
theorem dL_law_907 : decode cL_law 907 = .ok (.aload_n 0, 1) := by decide +kernel
theorem dL_law_908 : decode cL_law 908 = .ok (.iload_n 3, 1) := by decide +kernel
theorem dL_law_909 : decode cL_law 909 = .ok (.iconst 2, 1) := by decide +kernel
theorem dL_law_910 : decode cL_law 910 = .ok (.iadd, 1) := by decide +kernel
theorem dL_law_911 : decode cL_law 911 = .ok (.iaload, 1) := by decide +kernel
theorem dL_law_912 : decode cL_law 912 = .ok (.invokevirtual 111, 3) := by decide +kernel
theorem dL_law_915 : decode cL_law 915 = .ok (.pop, 1) := by decide +kernel
theorem dL_law_916 : decode cL_law 916 = .ok (.aload_n 2, 1) := by decide +kernel
theorem dL_law_917 : decode cL_law 917 = .ok (.aload_n 0, 1) := by decide +kernel
theorem dL_law_918 : decode cL_law 918 = .ok (.iload_n 3, 1) := by decide +kernel
theorem dL_law_919 : decode cL_law 919 = .ok (.iconst 1, 1) := by decide +kernel
theorem dL_law_920 : decode cL_law 920 = .ok (.iadd, 1) := by decide +kernel
theorem dL_law_921 : decode cL_law 921 = .ok (.iaload, 1) := by decide +kernel
theorem dL_law_922 : decode cL_law 922 = .ok (.aload_n 0, 1) := by decide +kernel
theorem dL_law_923 : decode cL_law 923 = .ok (.iload_n 3, 1) := by decide +kernel
theorem dL_law_924 : decode cL_law 924 = .ok (.iconst 2, 1) := by decide +kernel
theorem dL_law_925 : decode cL_law 925 = .ok (.iadd, 1) := by decide +kernel
theorem dL_law_926 : decode cL_law 926 = .ok (.iaload, 1) := by decide +kernel
theorem dL_law_927 : decode cL_law 927 = .ok (.invokevirtual 114, 3) := by decide +kernel
theorem dL_law_930 : decode cL_law 930 = .ok (.pop, 1) := by decide +kernel
theorem dL_law_931 : decode cL_law 931 = .ok (.goto 365, 3) := by decide +kernel
theorem dL_law_934 : decode cL_law 934 = .ok (.aload_n 1, 1) := by decide +kernel
theorem dL_law_935 : decode cL_law 935 = .ok (.aload_n 0, 1) := by decide +kernel
theorem dL_law_936 : decode cL_law 936 = .ok (.iload_n 3, 1) := by decide +kernel
theorem dL_law_937 : decode cL_law 937 = .ok (.iconst 1, 1) := by decide +kernel
theorem dL_law_938 : decode cL_law 938 = .ok (.iadd, 1) := by decide +kernel
theorem dL_law_939 : decode cL_law 939 = .ok (.iaload, 1) := by decide +kernel
theorem dL_law_940 : decode cL_law 940 = .ok (.invokevirtual 115, 3) := by decide +kernel
theorem dL_law_943 : decode cL_law 943 = .ok (.pop, 1) := by decide +kernel
theorem dL_law_944 : decode cL_law 944 = .ok (.aload_n 2, 1) := by decide +kernel
theorem dL_law_945 : decode cL_law 945 = .ok (.aload_n 0, 1) := by decide +kernel
theorem dL_law_946 : decode cL_law 946 = .ok (.iload_n 3, 1) := by decide +kernel
theorem dL_law_947 : decode cL_law 947 = .ok (.iconst 1, 1) := by decide +kernel
theorem dL_law_948 : decode cL_law 948 = .ok (.iadd, 1) := by decide +kernel
theorem dL_law_949 : decode cL_law 949 = .ok (.iaload, 1) := by decide +kernel
theorem dL_law_950 : decode cL_law 950 = .ok (.invokevirtual 118, 3) := by decide +kernel
theorem dL_law_953 : decode cL_law 953 = .ok (.pop, 1) := by decide +kernel
theorem dL_law_954 : decode cL_law 954 = .ok (.goto 342, 3) := by decide +kernel
theorem dL_law_957 : decode cL_law 957 = .ok (.aload_n 1, 1) := by decide +kernel
theorem dL_law_958 : decode cL_law 958 = .ok (.aload_n 0, 1) := by decide +kernel
theorem dL_law_959 : decode cL_law 959 = .ok (.iload_n 3, 1) := by decide +kernel
theorem dL_law_960 : decode cL_law 960 = .ok (.iconst 1, 1) := by decide +kernel
theorem dL_law_961 : decode cL_law 961 = .ok (.iadd, 1) := by decide +kernel
theorem dL_law_962 : decode cL_law 962 = .ok (.iaload, 1) := by decide +kernel
theorem dL_law_963 : decode cL_law 963 = .ok (.aload_n 0, 1) := by decide +kernel
theorem dL_law_964 : decode cL_law 964 = .ok (.iload_n 3, 1) := by decide +kernel
theorem dL_law_965 : decode cL_law 965 = .ok (.iconst 2, 1) := by decide +kernel
theorem dL_law_966 : decode cL_law 966 = .ok (.iadd, 1) := by decide +kernel
theorem dL_law_967 : decode cL_law 967 = .ok (.iaload, 1) := by decide +kernel
theorem dL_law_968 : decode cL_law 968 = .ok (.invokevirtual 119, 3) := by decide +kernel
theorem dL_law_971 : decode cL_law 971 = .ok (.pop, 1) := by decide +kernel
theorem dL_law_972 : decode cL_law 972 = .ok (.aload_n 2, 1) := by decide +kernel
theorem dL_law_973 : decode cL_law 973 = .ok (.aload_n 0, 1) := by decide +kernel
theorem dL_law_974 : decode cL_law 974 = .ok (.iload_n 3, 1) := by decide +kernel
theorem dL_law_975 : decode cL_law 975 = .ok (.iconst 1, 1) := by decide +kernel
theorem dL_law_976 : decode cL_law 976 = .ok (.iadd, 1) := by decide +kernel
theorem dL_law_977 : decode cL_law 977 = .ok (.iaload, 1) := by decide +kernel
theorem dL_law_978 : decode cL_law 978 = .ok (.aload_n 0, 1) := by decide +kernel
theorem dL_law_979 : decode cL_law 979 = .ok (.iload_n 3, 1) := by decide +kernel
theorem dL_law_980 : decode cL_law 980 = .ok (.iconst 2, 1) := by decide +kernel
theorem dL_law_981 : decode cL_law 981 = .ok (.iadd, 1) := by decide +kernel
theorem dL_law_982 : decode cL_law 982 = .ok (.iaload, 1) := by decide +kernel
theorem dL_law_983 : decode cL_law 983 = .ok (.invokevirtual 123, 3) := by decide +kernel
theorem dL_law_986 : decode cL_law 986 = .ok (.pop, 1) := by decide +kernel
theorem dL_law_987 : decode cL_law 987 = .ok (.goto 309, 3) := by decide +kernel
theorem dL_law_990 : decode cL_law 990 = .ok (.aload_n 1, 1) := by decide +kernel
theorem dL_law_991 : decode cL_law 991 = .ok (.invokevirtual 124, 3) := by decide +kernel
theorem dL_law_994 : decode cL_law 994 = .ok (.pop, 1) := by decide +kernel
theorem dL_law_995 : decode cL_law 995 = .ok (.aload_n 2, 1) := by decide +kernel
theorem dL_law_996 : decode cL_law 996 = .ok (.invokevirtual 127, 3) := by decide +kernel
theorem dL_law_999 : decode cL_law 999 = .ok (.pop, 1) := by decide +kernel
theorem dL_law_1000 : decode cL_law 1000 = .ok (.goto 296, 3) := by decide +kernel
theorem dL_law_1003 : decode cL_law 1003 = .ok (.aload_n 1, 1) := by decide +kernel
theorem dL_law_1004 : decode cL_law 1004 = .ok (.aload_n 0, 1) := by decide +kernel
theorem dL_law_1005 : decode cL_law 1005 = .ok (.iload_n 3, 1) := by decide +kernel
theorem dL_law_1006 : decode cL_law 1006 = .ok (.iconst 1, 1) := by decide +kernel
theorem dL_law_1007 : decode cL_law 1007 = .ok (.iadd, 1) := by decide +kernel
theorem dL_law_1008 : decode cL_law 1008 = .ok (.iaload, 1) := by decide +kernel
theorem dL_law_1009 : decode cL_law 1009 = .ok (.aload_n 0, 1) := by decide +kernel
theorem dL_law_1010 : decode cL_law 1010 = .ok (.iload_n 3, 1) := by decide +kernel
theorem dL_law_1011 : decode cL_law 1011 = .ok (.iconst 2, 1) := by decide +kernel
theorem dL_law_1012 : decode cL_law 1012 = .ok (.iadd, 1) := by decide +kernel
theorem dL_law_1013 : decode cL_law 1013 = .ok (.iaload, 1) := by decide +kernel
theorem dL_law_1014 : decode cL_law 1014 = .ok (.invokevirtual 128, 3) := by decide +kernel
theorem dL_law_1017 : decode cL_law 1017 = .ok (.pop, 1) := by decide +kernel
theorem dL_law_1018 : decode cL_law 1018 = .ok (.aload_n 2, 1) := by decide +kernel
theorem dL_law_1019 : decode cL_law 1019 = .ok (.aload_n 0, 1) := by decide +kernel
theorem dL_law_1020 : decode cL_law 1020 = .ok (.iload_n 3, 1) := by decide +kernel
theorem dL_law_1021 : decode cL_law 1021 = .ok (.iconst 1, 1) := by decide +kernel
theorem dL_law_1022 : decode cL_law 1022 = .ok (.iadd, 1) := by decide +kernel
theorem dL_law_1023 : decode cL_law 1023 = .ok (.iaload, 1) := by decide +kernel
theorem dL_law_1024 : decode cL_law 1024 = .ok (.aload_n 0, 1) := by decide +kernel
theorem dL_law_1025 : decode cL_law 1025 = .ok (.iload_n 3, 1) := by decide +kernel
theorem dL_law_1026 : decode cL_law 1026 = .ok (.iconst 2, 1) := by decide +kernel
theorem dL_law_1027 : decode cL_law 1027 = .ok (.iadd, 1) := by decide +kernel
theorem dL_law_1028 : decode cL_law 1028 = .ok (.iaload, 1) := by decide +kernel
theorem dL_law_1029 : decode cL_law 1029 = .ok (.invokevirtual 131, 3) := by decide +kernel
theorem dL_law_1032 : decode cL_law 1032 = .ok (.pop, 1) := by decide +kernel
theorem dL_law_1033 : decode cL_law 1033 = .ok (.goto 263, 3) := by decide +kernel
theorem dL_law_1036 : decode cL_law 1036 = .ok (.aload_n 1, 1) := by decide +kernel
theorem dL_law_1037 : decode cL_law 1037 = .ok (.aload_n 0, 1) := by decide +kernel
theorem dL_law_1038 : decode cL_law 1038 = .ok (.iload_n 3, 1) := by decide +kernel
theorem dL_law_1039 : decode cL_law 1039 = .ok (.iconst 1, 1) := by decide +kernel
theorem dL_law_1040 : decode cL_law 1040 = .ok (.iadd, 1) := by decide +kernel
theorem dL_law_1041 : decode cL_law 1041 = .ok (.iaload, 1) := by decide +kernel
theorem dL_law_1042 : decode cL_law 1042 = .ok (.aload_n 0, 1) := by decide +kernel
theorem dL_law_1043 : decode cL_law 1043 = .ok (.iload_n 3, 1) := by decide +kernel
theorem dL_law_1044 : decode cL_law 1044 = .ok (.iconst 2, 1) := by decide +kernel
theorem dL_law_1045 : decode cL_law 1045 = .ok (.iadd, 1) := by decide +kernel
theorem dL_law_1046 : decode cL_law 1046 = .ok (.iaload, 1) := by decide +kernel
theorem dL_law_1047 : decode cL_law 1047 = .ok (.invokevirtual 132, 3) := by decide +kernel
theorem dL_law_1050 : decode cL_law 1050 = .ok (.pop, 1) := by decide +kernel
theorem dL_law_1051 : decode cL_law 1051 = .ok (.aload_n 2, 1) := by decide +kernel
theorem dL_law_1052 : decode cL_law 1052 = .ok (.aload_n 0, 1) := by decide +kernel
theorem dL_law_1053 : decode cL_law 1053 = .ok (.iload_n 3, 1) := by decide +kernel
theorem dL_law_1054 : decode cL_law 1054 = .ok (.iconst 1, 1) := by decide +kernel
theorem dL_law_1055 : decode cL_law 1055 = .ok (.iadd, 1) := by decide +kernel
theorem dL_law_1056 : decode cL_law 1056 = .ok (.iaload, 1) := by decide +kernel
theorem dL_law_1057 : decode cL_law 1057 = .ok (.aload_n 0, 1) := by decide +kernel
theorem dL_law_1058 : decode cL_law 1058 = .ok (.iload_n 3, 1) := by decide +kernel
theorem dL_law_1059 : decode cL_law 1059 = .ok (.iconst 2, 1) := by decide +kernel
theorem dL_law_1060 : decode cL_law 1060 = .ok (.iadd, 1) := by decide +kernel
theorem dL_law_1061 : decode cL_law 1061 = .ok (.iaload, 1) := by decide +kernel
theorem dL_law_1062 : decode cL_law 1062 = .ok (.invokevirtual 135, 3) := by decide +kernel
theorem dL_law_1065 : decode cL_law 1065 = .ok (.pop, 1) := by decide +kernel
theorem dL_law_1066 : decode cL_law 1066 = .ok (.goto 230, 3) := by decide +kernel
theorem dL_law_1069 : decode cL_law 1069 = .ok (.aload_n 1, 1) := by decide +kernel
theorem dL_law_1070 : decode cL_law 1070 = .ok (.aload_n 0, 1) := by decide +kernel
theorem dL_law_1071 : decode cL_law 1071 = .ok (.iload_n 3, 1) := by decide +kernel
theorem dL_law_1072 : decode cL_law 1072 = .ok (.iconst 1, 1) := by decide +kernel
theorem dL_law_1073 : decode cL_law 1073 = .ok (.iadd, 1) := by decide +kernel
theorem dL_law_1074 : decode cL_law 1074 = .ok (.iaload, 1) := by decide +kernel
theorem dL_law_1075 : decode cL_law 1075 = .ok (.aload_n 0, 1) := by decide +kernel
theorem dL_law_1076 : decode cL_law 1076 = .ok (.iload_n 3, 1) := by decide +kernel
theorem dL_law_1077 : decode cL_law 1077 = .ok (.iconst 2, 1) := by decide +kernel
theorem dL_law_1078 : decode cL_law 1078 = .ok (.iadd, 1) := by decide +kernel
theorem dL_law_1079 : decode cL_law 1079 = .ok (.iaload, 1) := by decide +kernel
theorem dL_law_1080 : decode cL_law 1080 = .ok (.invokevirtual 136, 3) := by decide +kernel
theorem dL_law_1083 : decode cL_law 1083 = .ok (.pop, 1) := by decide +kernel
theorem dL_law_1084 : decode cL_law 1084 = .ok (.aload_n 2, 1) := by decide +kernel
theorem dL_law_1085 : decode cL_law 1085 = .ok (.aload_n 0, 1) := by decide +kernel
theorem dL_law_1086 : decode cL_law 1086 = .ok (.iload_n 3, 1) := by decide +kernel
theorem dL_law_1087 : decode cL_law 1087 = .ok (.iconst 1, 1) := by decide +kernel
theorem dL_law_1088 : decode cL_law 1088 = .ok (.iadd, 1) := by decide +kernel
theorem dL_law_1089 : decode cL_law 1089 = .ok (.iaload, 1) := by decide +kernel
theorem dL_law_1090 : decode cL_law 1090 = .ok (.aload_n 0, 1) := by decide +kernel
theorem dL_law_1091 : decode cL_law 1091 = .ok (.iload_n 3, 1) := by decide +kernel
theorem dL_law_1092 : decode cL_law 1092 = .ok (.iconst 2, 1) := by decide +kernel
theorem dL_law_1093 : decode cL_law 1093 = .ok (.iadd, 1) := by decide +kernel
theorem dL_law_1094 : decode cL_law 1094 = .ok (.iaload, 1) := by decide +kernel
theorem dL_law_1095 : decode cL_law 1095 = .ok (.invokevirtual 139, 3) := by decide +kernel
theorem dL_law_1098 : decode cL_law 1098 = .ok (.pop, 1) := by decide +kernel
theorem dL_law_1099 : decode cL_law 1099 = .ok (.goto 197, 3) := by decide +kernel
theorem dL_law_1102 : decode cL_law 1102 = .ok (.aload_n 1, 1) := by decide +kernel
theorem dL_law_1103 : decode cL_law 1103 = .ok (.invokevirtual 140, 3) := by decide +kernel
theorem dL_law_1106 : decode cL_law 1106 = .ok (.pop, 1) := by decide +kernel
theorem dL_law_1107 : decode cL_law 1107 = .ok (.aload_n 2, 1) := by decide +kernel
theorem dL_law_1108 : decode cL_law 1108 = .ok (.invokevirtual 143, 3) := by decide +kernel
theorem dL_law_1111 : decode cL_law 1111 = .ok (.pop, 1) := by decide +kernel
theorem dL_law_1112 : decode cL_law 1112 = .ok (.goto 184, 3) := by decide +kernel
theorem dL_law_1115 : decode cL_law 1115 = .ok (.aload_n 1, 1) := by decide +kernel
theorem dL_law_1116 : decode cL_law 1116 = .ok (.aload_n 0, 1) := by decide +kernel
theorem dL_law_1117 : decode cL_law 1117 = .ok (.iload_n 3, 1) := by decide +kernel
theorem dL_law_1118 : decode cL_law 1118 = .ok (.iconst 1, 1) := by decide +kernel
theorem dL_law_1119 : decode cL_law 1119 = .ok (.iadd, 1) := by decide +kernel
theorem dL_law_1120 : decode cL_law 1120 = .ok (.iaload, 1) := by decide +kernel
theorem dL_law_1121 : decode cL_law 1121 = .ok (.aload_n 0, 1) := by decide +kernel
theorem dL_law_1122 : decode cL_law 1122 = .ok (.iload_n 3, 1) := by decide +kernel
theorem dL_law_1123 : decode cL_law 1123 = .ok (.iconst 2, 1) := by decide +kernel
theorem dL_law_1124 : decode cL_law 1124 = .ok (.iadd, 1) := by decide +kernel
theorem dL_law_1125 : decode cL_law 1125 = .ok (.iaload, 1) := by decide +kernel
theorem dL_law_1126 : decode cL_law 1126 = .ok (.invokevirtual 144, 3) := by decide +kernel
theorem dL_law_1129 : decode cL_law 1129 = .ok (.pop, 1) := by decide +kernel
theorem dL_law_1130 : decode cL_law 1130 = .ok (.aload_n 2, 1) := by decide +kernel
theorem dL_law_1131 : decode cL_law 1131 = .ok (.aload_n 0, 1) := by decide +kernel
theorem dL_law_1132 : decode cL_law 1132 = .ok (.iload_n 3, 1) := by decide +kernel
theorem dL_law_1133 : decode cL_law 1133 = .ok (.iconst 1, 1) := by decide +kernel
theorem dL_law_1134 : decode cL_law 1134 = .ok (.iadd, 1) := by decide +kernel
theorem dL_law_1135 : decode cL_law 1135 = .ok (.iaload, 1) := by decide +kernel
theorem dL_law_1136 : decode cL_law 1136 = .ok (.aload_n 0, 1) := by decide +kernel
theorem dL_law_1137 : decode cL_law 1137 = .ok (.iload_n 3, 1) := by decide +kernel
theorem dL_law_1138 : decode cL_law 1138 = .ok (.iconst 2, 1) := by decide +kernel
theorem dL_law_1139 : decode cL_law 1139 = .ok (.iadd, 1) := by decide +kernel
theorem dL_law_1140 : decode cL_law 1140 = .ok (.iaload, 1) := by decide +kernel
theorem dL_law_1141 : decode cL_law 1141 = .ok (.invokevirtual 147, 3) := by decide +kernel
theorem dL_law_1144 : decode cL_law 1144 = .ok (.pop, 1) := by decide +kernel
theorem dL_law_1145 : decode cL_law 1145 = .ok (.goto 151, 3) := by decide +kernel
theorem dL_law_1148 : decode cL_law 1148 = .ok (.aload_n 1, 1) := by decide +kernel
theorem dL_law_1149 : decode cL_law 1149 = .ok (.invokevirtual 148, 3) := by decide +kernel
theorem dL_law_1152 : decode cL_law 1152 = .ok (.pop, 1) := by decide +kernel
theorem dL_law_1153 : decode cL_law 1153 = .ok (.aload_n 2, 1) := by decide +kernel
theorem dL_law_1154 : decode cL_law 1154 = .ok (.invokevirtual 151, 3) := by decide +kernel
theorem dL_law_1157 : decode cL_law 1157 = .ok (.pop, 1) := by decide +kernel
theorem dL_law_1158 : decode cL_law 1158 = .ok (.goto 138, 3) := by decide +kernel
theorem dL_law_1161 : decode cL_law 1161 = .ok (.aload_n 1, 1) := by decide +kernel
theorem dL_law_1162 : decode cL_law 1162 = .ok (.aload_n 0, 1) := by decide +kernel
theorem dL_law_1163 : decode cL_law 1163 = .ok (.iload_n 3, 1) := by decide +kernel
theorem dL_law_1164 : decode cL_law 1164 = .ok (.iconst 1, 1) := by decide +kernel
theorem dL_law_1165 : decode cL_law 1165 = .ok (.iadd, 1) := by decide +kernel
theorem dL_law_1166 : decode cL_law 1166 = .ok (.iaload, 1) := by decide +kernel
theorem dL_law_1167 : decode cL_law 1167 = .ok (.invokevirtual 152, 3) := by decide +kernel
theorem dL_law_1170 : decode cL_law 1170 = .ok (.aload_n 2, 1) := by decide +kernel
theorem dL_law_1171 : decode cL_law 1171 = .ok (.aload_n 0, 1) := by decide +kernel
theorem dL_law_1172 : decode cL_law 1172 = .ok (.iload_n 3, 1) := by decide +kernel
theorem dL_law_1173 : decode cL_law 1173 = .ok (.iconst 1, 1) := by decide +kernel
theorem dL_law_1174 : decode cL_law 1174 = .ok (.iadd, 1) := by decide +kernel
theorem dL_law_1175 : decode cL_law 1175 = .ok (.iaload, 1) := by decide +kernel
theorem dL_law_1176 : decode cL_law 1176 = .ok (.invokevirtual 155, 3) := by decide +kernel
theorem dL_law_1179 : decode cL_law 1179 = .ok (.if_icmp .eq 117, 3) := by decide +kernel
theorem dL_law_1182 : decode cL_law 1182 = .ok (.iconst 0, 1) := by decide +kernel
theorem dL_law_1183 : decode cL_law 1183 = .ok (.ireturn, 1) := by decide +kernel
theorem dL_law_1184 : decode cL_law 1184 = .ok (.aload_n 1, 1) := by decide +kernel
theorem dL_law_1185 : decode cL_law 1185 = .ok (.aload_n 0, 1) := by decide +kernel
theorem dL_law_1186 : decode cL_law 1186 = .ok (.iload_n 3, 1) := by decide +kernel
theorem dL_law_1187 : decode cL_law 1187 = .ok (.iconst 1, 1) := by decide +kernel
theorem dL_law_1188 : decode cL_law 1188 = .ok (.iadd, 1) := by decide +kernel
theorem dL_law_1189 : decode cL_law 1189 = .ok (.iaload, 1) := by decide +kernel
theorem dL_law_1190 : decode cL_law 1190 = .ok (.aload_n 0, 1) := by decide +kernel
theorem dL_law_1191 : decode cL_law 1191 = .ok (.iload_n 3, 1) := by decide +kernel
theorem dL_law_1192 : decode cL_law 1192 = .ok (.iconst 2, 1) := by decide +kernel
theorem dL_law_1193 : decode cL_law 1193 = .ok (.iadd, 1) := by decide +kernel
theorem dL_law_1194 : decode cL_law 1194 = .ok (.iaload, 1) := by decide +kernel
theorem dL_law_1195 : decode cL_law 1195 = .ok (.aload_n 0, 1) := by decide +kernel
theorem dL_law_1196 : decode cL_law 1196 = .ok (.iload_n 3, 1) := by decide +kernel
theorem dL_law_1197 : decode cL_law 1197 = .ok (.iconst 3, 1) := by decide +kernel
theorem dL_law_1198 : decode cL_law 1198 = .ok (.iadd, 1) := by decide +kernel
theorem dL_law_1199 : decode cL_law 1199 = .ok (.iaload, 1) := by decide +kernel
theorem dL_law_1200 : decode cL_law 1200 = .ok (.invokevirtual 156, 3) := by decide +kernel
theorem dL_law_1203 : decode cL_law 1203 = .ok (.pop, 1) := by decide +kernel
theorem dL_law_1204 : decode cL_law 1204 = .ok (.aload_n 2, 1) := by decide +kernel
theorem dL_law_1205 : decode cL_law 1205 = .ok (.aload_n 0, 1) := by decide +kernel
theorem dL_law_1206 : decode cL_law 1206 = .ok (.iload_n 3, 1) := by decide +kernel
theorem dL_law_1207 : decode cL_law 1207 = .ok (.iconst 1, 1) := by decide +kernel
theorem dL_law_1208 : decode cL_law 1208 = .ok (.iadd, 1) := by decide +kernel
theorem dL_law_1209 : decode cL_law 1209 = .ok (.iaload, 1) := by decide +kernel
theorem dL_law_1210 : decode cL_law 1210 = .ok (.aload_n 0, 1) := by decide +kernel
theorem dL_law_1211 : decode cL_law 1211 = .ok (.iload_n 3, 1) := by decide +kernel
theorem dL_law_1212 : decode cL_law 1212 = .ok (.iconst 2, 1) := by decide +kernel
theorem dL_law_1213 : decode cL_law 1213 = .ok (.iadd, 1) := by decide +kernel
theorem dL_law_1214 : decode cL_law 1214 = .ok (.iaload, 1) := by decide +kernel
theorem dL_law_1215 : decode cL_law 1215 = .ok (.aload_n 0, 1) := by decide +kernel
theorem dL_law_1216 : decode cL_law 1216 = .ok (.iload_n 3, 1) := by decide +kernel
theorem dL_law_1217 : decode cL_law 1217 = .ok (.iconst 3, 1) := by decide +kernel
theorem dL_law_1218 : decode cL_law 1218 = .ok (.iadd, 1) := by decide +kernel
theorem dL_law_1219 : decode cL_law 1219 = .ok (.iaload, 1) := by decide +kernel
theorem dL_law_1220 : decode cL_law 1220 = .ok (.invokevirtual 159, 3) := by decide +kernel
theorem dL_law_1223 : decode cL_law 1223 = .ok (.pop, 1) := by decide +kernel
theorem dL_law_1224 : decode cL_law 1224 = .ok (.goto 72, 3) := by decide +kernel
theorem dL_law_1227 : decode cL_law 1227 = .ok (.aload_n 1, 1) := by decide +kernel
theorem dL_law_1228 : decode cL_law 1228 = .ok (.aload_n 0, 1) := by decide +kernel
theorem dL_law_1229 : decode cL_law 1229 = .ok (.iload_n 3, 1) := by decide +kernel
theorem dL_law_1230 : decode cL_law 1230 = .ok (.iconst 1, 1) := by decide +kernel
theorem dL_law_1231 : decode cL_law 1231 = .ok (.iadd, 1) := by decide +kernel
theorem dL_law_1232 : decode cL_law 1232 = .ok (.iaload, 1) := by decide +kernel
theorem dL_law_1233 : decode cL_law 1233 = .ok (.invokevirtual 160, 3) := by decide +kernel
theorem dL_law_1236 : decode cL_law 1236 = .ok (.pop, 1) := by decide +kernel
theorem dL_law_1237 : decode cL_law 1237 = .ok (.aload_n 2, 1) := by decide +kernel
theorem dL_law_1238 : decode cL_law 1238 = .ok (.aload_n 0, 1) := by decide +kernel
theorem dL_law_1239 : decode cL_law 1239 = .ok (.iload_n 3, 1) := by decide +kernel
theorem dL_law_1240 : decode cL_law 1240 = .ok (.iconst 1, 1) := by decide +kernel
theorem dL_law_1241 : decode cL_law 1241 = .ok (.iadd, 1) := by decide +kernel
theorem dL_law_1242 : decode cL_law 1242 = .ok (.iaload, 1) := by decide +kernel
theorem dL_law_1243 : decode cL_law 1243 = .ok (.invokevirtual 163, 3) := by decide +kernel
theorem dL_law_1246 : decode cL_law 1246 = .ok (.pop, 1) := by decide +kernel
theorem dL_law_1247 : decode cL_law 1247 = .ok (.goto 49, 3) := by decide +kernel
theorem dL_law_1250 : decode cL_law 1250 = .ok (.aload_n 1, 1) := by decide +kernel
theorem dL_law_1251 : decode cL_law 1251 = .ok (.aload_n 0, 1) := by decide +kernel
theorem dL_law_1252 : decode cL_law 1252 = .ok (.iload_n 3, 1) := by decide +kernel
theorem dL_law_1253 : decode cL_law 1253 = .ok (.iconst 1, 1) := by decide +kernel
theorem dL_law_1254 : decode cL_law 1254 = .ok (.iadd, 1) := by decide +kernel
theorem dL_law_1255 : decode cL_law 1255 = .ok (.iaload, 1) := by decide +kernel
theorem dL_law_1256 : decode cL_law 1256 = .ok (.invokevirtual 164, 3) := by decide +kernel
theorem dL_law_1259 : decode cL_law 1259 = .ok (.pop, 1) := by decide +kernel
theorem dL_law_1260 : decode cL_law 1260 = .ok (.aload_n 2, 1) := by decide +kernel
theorem dL_law_1261 : decode cL_law 1261 = .ok (.aload_n 0, 1) := by decide +kernel
theorem dL_law_1262 : decode cL_law 1262 = .ok (.iload_n 3, 1) := by decide +kernel
theorem dL_law_1263 : decode cL_law 1263 = .ok (.iconst 1, 1) := by decide +kernel
theorem dL_law_1264 : decode cL_law 1264 = .ok (.iadd, 1) := by decide +kernel
theorem dL_law_1265 : decode cL_law 1265 = .ok (.iaload, 1) := by decide +kernel
theorem dL_law_1266 : decode cL_law 1266 = .ok (.invokevirtual 167, 3) := by decide +kernel
theorem dL_law_1269 : decode cL_law 1269 = .ok (.pop, 1) := by decide +kernel
theorem dL_law_1270 : decode cL_law 1270 = .ok (.goto 26, 3) := by decide +kernel
theorem dL_law_1273 : decode cL_law 1273 = .ok (.aload_n 1, 1) := by decide +kernel
theorem dL_law_1274 : decode cL_law 1274 = .ok (.aload_n 0, 1) := by decide +kernel
theorem dL_law_1275 : decode cL_law 1275 = .ok (.iload_n 3, 1) := by decide +kernel
theorem dL_law_1276 : decode cL_law 1276 = .ok (.iconst 1, 1) := by decide +kernel
theorem dL_law_1277 : decode cL_law 1277 = .ok (.iadd, 1) := by decide +kernel
theorem dL_law_1278 : decode cL_law 1278 = .ok (.iaload, 1) := by decide +kernel
theorem dL_law_1279 : decode cL_law 1279 = .ok (.invokevirtual 168, 3) := by decide +kernel
theorem dL_law_1282 : decode cL_law 1282 = .ok (.pop, 1) := by decide +kernel
theorem dL_law_1283 : decode cL_law 1283 = .ok (.aload_n 2, 1) := by decide +kernel
theorem dL_law_1284 : decode cL_law 1284 = .ok (.aload_n 0, 1) := by decide +kernel
theorem dL_law_1285 : decode cL_law 1285 = .ok (.iload_n 3, 1) := by decide +kernel
theorem dL_law_1286 : decode cL_law 1286 = .ok (.iconst 1, 1) := by decide +kernel
theorem dL_law_1287 : decode cL_law 1287 = .ok (.iadd, 1) := by decide +kernel
theorem dL_law_1288 : decode cL_law 1288 = .ok (.iaload, 1) := by decide +kernel
theorem dL_law_1289 : decode cL_law 1289 = .ok (.invokevirtual 171, 3) := by decide +kernel
theorem dL_law_1292 : decode cL_law 1292 = .ok (.pop, 1) := by decide +kernel
theorem dL_law_1293 : decode cL_law 1293 = .ok (.goto 3, 3) := by decide +kernel
theorem dL_law_1296 : decode cL_law 1296 = .ok (.iinc 3 6, 3) := by decide +kernel
theorem dL_law_1299 : decode cL_law 1299 = .ok (.goto (-1281), 3) := by decide +kernel
theorem dL_law_1302 : decode cL_law 1302 = .ok (.iconst 1, 1) := by decide +kernel
theorem dL_law_1303 : decode cL_law 1303 = .ok (.ireturn, 1) := by decide +kernel
