theorem dX11_drawn_140 : decode cX11_drawn 140 = .ok (.iload 10, 2) := by decide +kernel
theorem dX11_drawn_142 : decode cX11_drawn 142 = .ok (.iload 4, 2) := by decide +kernel
theorem dX11_drawn_144 : decode cX11_drawn 144 = .ok (.if_icmp .ne 7, 3) := by decide +kernel
theorem dX11_drawn_147 : decode cX11_drawn 147 = .ok (.iconst 1, 1) := by decide +kernel
theorem dX11_drawn_148 : decode cX11_drawn 148 = .ok (.goto 4, 3) := by decide +kernel
theorem dX11_drawn_151 : decode cX11_drawn 151 = .ok (.iconst 0, 1) := by decide +kernel
theorem dX11_drawn_152 : decode cX11_drawn 152 = .ok (.iadd, 1) := by decide +kernel
theorem dX11_drawn_153 : decode cX11_drawn 153 = .ok (.istore 8, 2) := by decide +kernel
theorem dX11_drawn_155 : decode cX11_drawn 155 = .ok (.iinc 9 1, 3) := by decide +kernel
theorem dX11_drawn_158 : decode cX11_drawn 158 = .ok (.goto (-81), 3) := by decide +kernel
theorem dX11_drawn_161 : decode cX11_drawn 161 = .ok (.iload_n 3, 1) := by decide +kernel
theorem dX11_drawn_162 : decode cX11_drawn 162 = .ok (.lookupswitch 32 #[(0, 26), (1, 29)], 26) := by decide +kernel
theorem dX11_drawn_188 : decode cX11_drawn 188 = .ok (.iload 6, 2) := by decide +kernel
theorem dX11_drawn_190 : decode cX11_drawn 190 = .ok (.ireturn, 1) := by decide +kernel
theorem dX11_drawn_191 : decode cX11_drawn 191 = .ok (.iload 7, 2) := by decide +kernel
theorem dX11_drawn_193 : decode cX11_drawn 193 = .ok (.ireturn, 1) := by decide +kernel
theorem dX11_drawn_194 : decode cX11_drawn 194 = .ok (.iload 8, 2) := by decide +kernel
theorem dX11_drawn_196 : decode cX11_drawn 196 = .ok (.ireturn, 1) := by decide +kernel
set_option maxRecDepth 20000 in
theorem ggX11_count_X8_meetingTwos : GoodIn wsX11_count wsX8_meetingTwos := goodIn_r _ [19, 20, 21, 22, 23, 18, 24, 25, 26, 27, 28, 29, 30, 31, 32, 33, 34, 35, 36, 37, 38, 39, 40, 41, 42, 43, 44, 45, 46, 47, 48, 49, 50, 51, 52, 53, 54, 55, 88, 89, 90, 91, 92, 93, 94, 95, 96, 97, 98] (by decide +kernel) (by decide +kernel)
set_option maxRecDepth 20000 in
theorem gX11_count_X8_meetingTwos : GoodIn wsX11_count (wsV RX11 307 RX8 yX8_meetingTwos wsX8_meetingTwos) := goodIn_app (goodIn_of _ (by decide +kernel)) ggX11_count_X8_meetingTwos
set_option maxRecDepth 20000 in
theorem ggX11_count_X1_palmsTold : GoodIn wsX11_count wsX1_palmsTold := goodIn_r _ [60, 61, 75, 76, 77, 78, 79, 80, 81, 82, 83, 84, 85, 86, 87] (by decide +kernel) (by decide +kernel)
set_option maxRecDepth 20000 in
theorem gX11_count_X1_palmsTold : GoodIn wsX11_count (wsV RX11 335 RX1 yX1_palmsTold wsX1_palmsTold) := goodIn_app (goodIn_of _ (by decide +kernel)) ggX11_count_X1_palmsTold
theorem dX11_count_0 : decode cX11_count 0 = .ok (.iload_n 1, 1) := by decide +kernel
theorem dX11_count_1 : decode cX11_count 1 = .ok (.tableswitch 186 0 12 #[67, 78, 89, 100, 105, 113, 124, 135, 146, 154, 162, 170, 178], 67) := by decide +kernel
theorem dX11_count_68 : decode cX11_count 68 = .ok (.aload_n 0, 1) := by decide +kernel
theorem dX11_count_69 : decode cX11_count 69 = .ok (.getfield 45, 3) := by decide +kernel
theorem dX11_count_72 : decode cX11_count 72 = .ok (.getfield 116, 3) := by decide +kernel
theorem dX11_count_75 : decode cX11_count 75 = .ok (.getfield 202, 3) := by decide +kernel
theorem dX11_count_78 : decode cX11_count 78 = .ok (.ireturn, 1) := by decide +kernel
theorem dX11_count_79 : decode cX11_count 79 = .ok (.aload_n 0, 1) := by decide +kernel
theorem dX11_count_80 : decode cX11_count 80 = .ok (.getfield 45, 3) := by decide +kernel
theorem dX11_count_83 : decode cX11_count 83 = .ok (.getfield 116, 3) := by decide +kernel
theorem dX11_count_86 : decode cX11_count 86 = .ok (.getfield 215, 3) := by decide +kernel
theorem dX11_count_89 : decode cX11_count 89 = .ok (.ireturn, 1) := by decide +kernel
theorem dX11_count_90 : decode cX11_count 90 = .ok (.aload_n 0, 1) := by decide +kernel
theorem dX11_count_91 : decode cX11_count 91 = .ok (.getfield 45, 3) := by decide +kernel
theorem dX11_count_94 : decode cX11_count 94 = .ok (.getfield 116, 3) := by decide +kernel
theorem dX11_count_97 : decode cX11_count 97 = .ok (.getfield 117, 3) := by decide +kernel
theorem dX11_count_100 : decode cX11_count 100 = .ok (.ireturn, 1) := by decide +kernel
theorem dX11_count_101 : decode cX11_count 101 = .ok (.aload_n 0, 1) := by decide +kernel
theorem dX11_count_102 : decode cX11_count 102 = .ok (.getfield 38, 3) := by decide +kernel
theorem dX11_count_105 : decode cX11_count 105 = .ok (.ireturn, 1) := by decide +kernel
theorem dX11_count_106 : decode cX11_count 106 = .ok (.aload_n 0, 1) := by decide +kernel
theorem dX11_count_107 : decode cX11_count 107 = .ok (.getfield 45, 3) := by decide +kernel
theorem dX11_count_110 : decode cX11_count 110 = .ok (.getfield 127, 3) := by decide +kernel
theorem dX11_count_113 : decode cX11_count 113 = .ok (.ireturn, 1) := by decide +kernel
theorem dX11_count_114 : decode cX11_count 114 = .ok (.aload_n 0, 1) := by decide +kernel
theorem dX11_count_115 : decode cX11_count 115 = .ok (.getfield 45, 3) := by decide +kernel
theorem dX11_count_118 : decode cX11_count 118 = .ok (.getfield 116, 3) := by decide +kernel
theorem dX11_count_121 : decode cX11_count 121 = .ok (.getfield 241, 3) := by decide +kernel
theorem dX11_count_124 : decode cX11_count 124 = .ok (.ireturn, 1) := by decide +kernel
theorem dX11_count_125 : decode cX11_count 125 = .ok (.aload_n 0, 1) := by decide +kernel
theorem dX11_count_126 : decode cX11_count 126 = .ok (.getfield 45, 3) := by decide +kernel
theorem dX11_count_129 : decode cX11_count 129 = .ok (.getfield 116, 3) := by decide +kernel
theorem dX11_count_132 : decode cX11_count 132 = .ok (.getfield 195, 3) := by decide +kernel
theorem dX11_count_135 : decode cX11_count 135 = .ok (.ireturn, 1) := by decide +kernel
theorem dX11_count_136 : decode cX11_count 136 = .ok (.aload_n 0, 1) := by decide +kernel
theorem dX11_count_137 : decode cX11_count 137 = .ok (.getfield 45, 3) := by decide +kernel
theorem dX11_count_140 : decode cX11_count 140 = .ok (.getfield 116, 3) := by decide +kernel
theorem dX11_count_143 : decode cX11_count 143 = .ok (.invokevirtual 307, 3) := by decide +kernel
theorem dX11_count_146 : decode cX11_count 146 = .ok (.ireturn, 1) := by decide +kernel
theorem dX11_count_147 : decode cX11_count 147 = .ok (.aload_n 0, 1) := by decide +kernel
theorem dX11_count_148 : decode cX11_count 148 = .ok (.getfield 45, 3) := by decide +kernel
theorem dX11_count_151 : decode cX11_count 151 = .ok (.getfield 250, 3) := by decide +kernel
theorem dX11_count_154 : decode cX11_count 154 = .ok (.ireturn, 1) := by decide +kernel
theorem dX11_count_155 : decode cX11_count 155 = .ok (.aload_n 0, 1) := by decide +kernel
theorem dX11_count_156 : decode cX11_count 156 = .ok (.getfield 45, 3) := by decide +kernel
theorem dX11_count_159 : decode cX11_count 159 = .ok (.invokevirtual 335, 3) := by decide +kernel
theorem dX11_count_162 : decode cX11_count 162 = .ok (.ireturn, 1) := by decide +kernel
theorem dX11_count_163 : decode cX11_count 163 = .ok (.aload_n 0, 1) := by decide +kernel
theorem dX11_count_164 : decode cX11_count 164 = .ok (.getfield 45, 3) := by decide +kernel
theorem dX11_count_167 : decode cX11_count 167 = .ok (.getfield 247, 3) := by decide +kernel
theorem dX11_count_170 : decode cX11_count 170 = .ok (.ireturn, 1) := by decide +kernel
theorem dX11_count_171 : decode cX11_count 171 = .ok (.aload_n 0, 1) := by decide +kernel
theorem dX11_count_172 : decode cX11_count 172 = .ok (.getfield 45, 3) := by decide +kernel
theorem dX11_count_175 : decode cX11_count 175 = .ok (.getfield 329, 3) := by decide +kernel
theorem dX11_count_178 : decode cX11_count 178 = .ok (.ireturn, 1) := by decide +kernel
theorem dX11_count_179 : decode cX11_count 179 = .ok (.aload_n 0, 1) := by decide +kernel
theorem dX11_count_180 : decode cX11_count 180 = .ok (.getfield 12, 3) := by decide +kernel
theorem dX11_count_183 : decode cX11_count 183 = .ok (.getfield 95, 3) := by decide +kernel
theorem dX11_count_186 : decode cX11_count 186 = .ok (.ireturn, 1) := by decide +kernel
theorem dX11_count_187 : decode cX11_count 187 = .ok (.iconst (-1), 1) := by decide +kernel
theorem dX11_count_188 : decode cX11_count 188 = .ok (.ireturn, 1) := by decide +kernel
set_option maxRecDepth 20000 in
theorem ggX11_image_X1_init : GoodIn wsX11_image wsX1_init := goodIn_r _ [10, 11, 12, 13, 14, 15, 16, 17, 18, 19, 20, 21, 22, 23, 24, 25, 26, 27, 28, 29, 30, 31, 32, 33, 34, 35, 36, 37, 38, 39, 40, 41, 42, 43, 44, 45, 46, 47, 48, 49, 50, 90, 91, 92, 93, 94, 95, 96, 97, 98, 99, 100, 77, 78, 79, 80, 81, 82, 83, 84, 85, 86, 87, 88, 89] (by decide +kernel) (by decide +kernel)
set_option maxRecDepth 20000 in
theorem gX11_image_X1_init : GoodIn wsX11_image (wsX1_init) := ggX11_image_X1_init
set_option maxRecDepth 20000 in
theorem ggX11_image_X1_copyFrom : GoodIn wsX11_image wsX1_copyFrom := goodIn_r _ [54, 17, 18, 19, 20, 22, 55, 56, 57, 58, 23, 24, 25, 26, 27, 28, 29, 30, 59, 60, 61, 16, 62, 35, 36, 37, 38, 39, 40, 41, 42, 43, 63, 44, 45, 77, 78, 79, 80, 81, 82, 83, 84, 85, 86, 87, 88, 89, 90, 91, 92, 93, 94, 95, 96, 97, 98, 99, 100] (by decide +kernel) (by decide +kernel)
set_option maxRecDepth 20000 in
theorem gX11_image_X1_copyFrom : GoodIn wsX11_image (wsV RX11 338 RX1 yX1_copyFrom wsX1_copyFrom) := goodIn_app (goodIn_of _ (by decide +kernel)) ggX11_image_X1_copyFrom
theorem dX11_image_0 : decode cX11_image 0 = .ok (.iload_n 1, 1) := by decide +kernel
theorem dX11_image_1 : decode cX11_image 1 = .ok (.ifCond .lt 8, 3) := by decide +kernel
theorem dX11_image_4 : decode cX11_image 4 = .ok (.iload_n 1, 1) := by decide +kernel
theorem dX11_image_5 : decode cX11_image 5 = .ok (.iconst 4, 1) := by decide +kernel
theorem dX11_image_6 : decode cX11_image 6 = .ok (.if_icmp .lt 5, 3) := by decide +kernel
theorem dX11_image_9 : decode cX11_image 9 = .ok (.iconst (-1), 1) := by decide +kernel
theorem dX11_image_10 : decode cX11_image 10 = .ok (.ireturn, 1) := by decide +kernel
theorem dX11_image_11 : decode cX11_image 11 = .ok (.aload_n 0, 1) := by decide +kernel
theorem dX11_image_12 : decode cX11_image 12 = .ok (.getfield 49, 3) := by decide +kernel
theorem dX11_image_15 : decode cX11_image 15 = .ok (.iload_n 1, 1) := by decide +kernel
theorem dX11_image_16 : decode cX11_image 16 = .ok (.aaload, 1) := by decide +kernel
theorem dX11_image_17 : decode cX11_image 17 = .ok (.ifnonnull 16, 3) := by decide +kernel
theorem dX11_image_20 : decode cX11_image 20 = .ok (.aload_n 0, 1) := by decide +kernel
theorem dX11_image_21 : decode cX11_image 21 = .ok (.getfield 49, 3) := by decide +kernel
theorem dX11_image_24 : decode cX11_image 24 = .ok (.iload_n 1, 1) := by decide +kernel
theorem dX11_image_25 : decode cX11_image 25 = .ok (.new 42, 3) := by decide +kernel
theorem dX11_image_28 : decode cX11_image 28 = .ok (.dup, 1) := by decide +kernel
theorem dX11_image_29 : decode cX11_image 29 = .ok (.invokespecial 44, 3) := by decide +kernel
theorem dX11_image_32 : decode cX11_image 32 = .ok (.aastore, 1) := by decide +kernel
theorem dX11_image_33 : decode cX11_image 33 = .ok (.aload_n 0, 1) := by decide +kernel
theorem dX11_image_34 : decode cX11_image 34 = .ok (.getfield 49, 3) := by decide +kernel
theorem dX11_image_37 : decode cX11_image 37 = .ok (.iload_n 1, 1) := by decide +kernel
theorem dX11_image_38 : decode cX11_image 38 = .ok (.aaload, 1) := by decide +kernel
theorem dX11_image_39 : decode cX11_image 39 = .ok (.aload_n 0, 1) := by decide +kernel
theorem dX11_image_40 : decode cX11_image 40 = .ok (.getfield 45, 3) := by decide +kernel
theorem dX11_image_43 : decode cX11_image 43 = .ok (.invokevirtual 338, 3) := by decide +kernel
theorem dX11_image_46 : decode cX11_image 46 = .ok (.aload_n 0, 1) := by decide +kernel
theorem dX11_image_47 : decode cX11_image 47 = .ok (.getfield 45, 3) := by decide +kernel
theorem dX11_image_50 : decode cX11_image 50 = .ok (.getfield 116, 3) := by decide +kernel
theorem dX11_image_53 : decode cX11_image 53 = .ok (.getfield 241, 3) := by decide +kernel
theorem dX11_image_56 : decode cX11_image 56 = .ok (.ireturn, 1) := by decide +kernel
set_option maxRecDepth 20000 in
theorem ggX11_back_X1_copyFrom : GoodIn wsX11_back wsX1_copyFrom := goodIn_r _ [9, 10, 11, 12, 13, 14, 15, 16, 17, 18, 19, 20, 21, 22, 23, 24, 25, 26, 27, 28, 29, 30, 31, 32, 33, 34, 35, 36, 37, 38, 39, 40, 41, 42, 43, 57, 58, 59, 60, 61, 62, 63, 64, 65, 66, 67, 68, 69, 70, 71, 72, 73, 74, 75, 76, 77, 78, 79, 80] (by decide +kernel) (by decide +kernel)
set_option maxRecDepth 20000 in
theorem gX11_back_X1_copyFrom : GoodIn wsX11_back (wsV RX11 338 RX1 yX1_copyFrom wsX1_copyFrom) := goodIn_app (goodIn_of _ (by decide +kernel)) ggX11_back_X1_copyFrom
theorem dX11_back_0 : decode cX11_back 0 = .ok (.iload_n 1, 1) := by decide +kernel
theorem dX11_back_1 : decode cX11_back 1 = .ok (.ifCond .lt 17, 3) := by decide +kernel
theorem dX11_back_4 : decode cX11_back 4 = .ok (.iload_n 1, 1) := by decide +kernel
theorem dX11_back_5 : decode cX11_back 5 = .ok (.iconst 4, 1) := by decide +kernel
theorem dX11_back_6 : decode cX11_back 6 = .ok (.if_icmp .ge 12, 3) := by decide +kernel
theorem dX11_back_9 : decode cX11_back 9 = .ok (.aload_n 0, 1) := by decide +kernel
theorem dX11_back_10 : decode cX11_back 10 = .ok (.getfield 49, 3) := by decide +kernel
theorem dX11_back_13 : decode cX11_back 13 = .ok (.iload_n 1, 1) := by decide +kernel
theorem dX11_back_14 : decode cX11_back 14 = .ok (.aaload, 1) := by decide +kernel
theorem dX11_back_15 : decode cX11_back 15 = .ok (.ifnonnull 5, 3) := by decide +kernel
theorem dX11_back_18 : decode cX11_back 18 = .ok (.iconst (-1), 1) := by decide +kernel
theorem dX11_back_19 : decode cX11_back 19 = .ok (.ireturn, 1) := by decide +kernel
theorem dX11_back_20 : decode cX11_back 20 = .ok (.aload_n 0, 1) := by decide +kernel
theorem dX11_back_21 : decode cX11_back 21 = .ok (.getfield 45, 3) := by decide +kernel
theorem dX11_back_24 : decode cX11_back 24 = .ok (.aload_n 0, 1) := by decide +kernel
theorem dX11_back_25 : decode cX11_back 25 = .ok (.getfield 49, 3) := by decide +kernel
theorem dX11_back_28 : decode cX11_back 28 = .ok (.iload_n 1, 1) := by decide +kernel
theorem dX11_back_29 : decode cX11_back 29 = .ok (.aaload, 1) := by decide +kernel
theorem dX11_back_30 : decode cX11_back 30 = .ok (.invokevirtual 338, 3) := by decide +kernel
theorem dX11_back_33 : decode cX11_back 33 = .ok (.aload_n 0, 1) := by decide +kernel
theorem dX11_back_34 : decode cX11_back 34 = .ok (.getfield 45, 3) := by decide +kernel
theorem dX11_back_37 : decode cX11_back 37 = .ok (.getfield 116, 3) := by decide +kernel
theorem dX11_back_40 : decode cX11_back 40 = .ok (.getfield 241, 3) := by decide +kernel
theorem dX11_back_43 : decode cX11_back 43 = .ok (.ireturn, 1) := by decide +kernel
theorem dX11_hasTown_0 : decode cX11_hasTown 0 = .ok (.aload_n 0, 1) := by decide +kernel
theorem dX11_hasTown_1 : decode cX11_hasTown 1 = .ok (.getfield 45, 3) := by decide +kernel
theorem dX11_hasTown_4 : decode cX11_hasTown 4 = .ok (.getfield 116, 3) := by decide +kernel
theorem dX11_hasTown_7 : decode cX11_hasTown 7 = .ok (.getfield 202, 3) := by decide +kernel
theorem dX11_hasTown_10 : decode cX11_hasTown 10 = .ok (.ifCond .le 7, 3) := by decide +kernel
theorem dX11_hasTown_13 : decode cX11_hasTown 13 = .ok (.iconst 1, 1) := by decide +kernel
theorem dX11_hasTown_14 : decode cX11_hasTown 14 = .ok (.goto 4, 3) := by decide +kernel
theorem dX11_hasTown_17 : decode cX11_hasTown 17 = .ok (.iconst 0, 1) := by decide +kernel
theorem dX11_hasTown_18 : decode cX11_hasTown 18 = .ok (.ireturn, 1) := by decide +kernel
set_option maxRecDepth 20000 in
theorem ggX11_isSpot_X8_isGate : GoodIn wsX11_isSpot wsX8_isGate := goodIn_r _ [7, 8, 40, 41, 42, 43, 44, 45, 46, 47, 48, 49, 50] (by decide +kernel) (by decide +kernel)
set_option maxRecDepth 20000 in
theorem gX11_isSpot_X8_isGate : GoodIn wsX11_isSpot (wsV RX11 238 RX8 yX8_isGate wsX8_isGate) := goodIn_app (goodIn_of _ (by decide +kernel)) ggX11_isSpot_X8_isGate
set_option maxRecDepth 20000 in
theorem ggX11_isSpot_X8_isHour : GoodIn wsX11_isSpot wsX8_isHour := goodIn_r _ [12, 13, 40, 41, 42, 43, 44, 45, 46, 47, 48, 49, 50] (by decide +kernel) (by decide +kernel)
set_option maxRecDepth 20000 in
theorem gX11_isSpot_X8_isHour : GoodIn wsX11_isSpot (wsV RX11 134 RX8 yX8_isHour wsX8_isHour) := goodIn_app (goodIn_of _ (by decide +kernel)) ggX11_isSpot_X8_isHour
theorem dX11_isSpot_0 : decode cX11_isSpot 0 = .ok (.aload_n 0, 1) := by decide +kernel
theorem dX11_isSpot_1 : decode cX11_isSpot 1 = .ok (.getfield 45, 3) := by decide +kernel
theorem dX11_isSpot_4 : decode cX11_isSpot 4 = .ok (.getfield 116, 3) := by decide +kernel
theorem dX11_isSpot_7 : decode cX11_isSpot 7 = .ok (.iload_n 1, 1) := by decide +kernel
theorem dX11_isSpot_8 : decode cX11_isSpot 8 = .ok (.invokevirtual 238, 3) := by decide +kernel
theorem dX11_isSpot_11 : decode cX11_isSpot 11 = .ok (.ifCond .eq 21, 3) := by decide +kernel
theorem dX11_isSpot_14 : decode cX11_isSpot 14 = .ok (.aload_n 0, 1) := by decide +kernel
theorem dX11_isSpot_15 : decode cX11_isSpot 15 = .ok (.getfield 45, 3) := by decide +kernel
theorem dX11_isSpot_18 : decode cX11_isSpot 18 = .ok (.getfield 116, 3) := by decide +kernel
theorem dX11_isSpot_21 : decode cX11_isSpot 21 = .ok (.iload_n 2, 1) := by decide +kernel
theorem dX11_isSpot_22 : decode cX11_isSpot 22 = .ok (.invokevirtual 134, 3) := by decide +kernel
theorem dX11_isSpot_25 : decode cX11_isSpot 25 = .ok (.ifCond .eq 7, 3) := by decide +kernel
theorem dX11_isSpot_28 : decode cX11_isSpot 28 = .ok (.iconst 1, 1) := by decide +kernel
theorem dX11_isSpot_29 : decode cX11_isSpot 29 = .ok (.goto 4, 3) := by decide +kernel
theorem dX11_isSpot_32 : decode cX11_isSpot 32 = .ok (.iconst 0, 1) := by decide +kernel
theorem dX11_isSpot_33 : decode cX11_isSpot 33 = .ok (.ireturn, 1) := by decide +kernel
theorem dX11_counting_0 : decode cX11_counting 0 = .ok (.aload_n 0, 1) := by decide +kernel
theorem dX11_counting_1 : decode cX11_counting 1 = .ok (.getfield 45, 3) := by decide +kernel
theorem dX11_counting_4 : decode cX11_counting 4 = .ok (.getfield 127, 3) := by decide +kernel
theorem dX11_counting_7 : decode cX11_counting 7 = .ok (.ifCond .lt 22, 3) := by decide +kernel
theorem dX11_counting_10 : decode cX11_counting 10 = .ok (.aload_n 0, 1) := by decide +kernel
theorem dX11_counting_11 : decode cX11_counting 11 = .ok (.getfield 45, 3) := by decide +kernel
theorem dX11_counting_14 : decode cX11_counting 14 = .ok (.getfield 127, 3) := by decide +kernel
theorem dX11_counting_17 : decode cX11_counting 17 = .ok (.aload_n 0, 1) := by decide +kernel
theorem dX11_counting_18 : decode cX11_counting 18 = .ok (.getfield 34, 3) := by decide +kernel
theorem dX11_counting_21 : decode cX11_counting 21 = .ok (.arraylength, 1) := by decide +kernel
theorem dX11_counting_22 : decode cX11_counting 22 = .ok (.if_icmp .ge 7, 3) := by decide +kernel
theorem dX11_counting_25 : decode cX11_counting 25 = .ok (.iconst 1, 1) := by decide +kernel
theorem dX11_counting_26 : decode cX11_counting 26 = .ok (.goto 4, 3) := by decide +kernel
theorem dX11_counting_29 : decode cX11_counting 29 = .ok (.iconst 0, 1) := by decide +kernel
theorem dX11_counting_30 : decode cX11_counting 30 = .ok (.istore_n 1, 1) := by decide +kernel
theorem dX11_counting_31 : decode cX11_counting 31 = .ok (.aload_n 0, 1) := by decide +kernel
theorem dX11_counting_32 : decode cX11_counting 32 = .ok (.getfield 63, 3) := by decide +kernel
theorem dX11_counting_35 : decode cX11_counting 35 = .ok (.iload_n 1, 1) := by decide +kernel
theorem dX11_counting_36 : decode cX11_counting 36 = .ok (.ifCond .eq 18, 3) := by decide +kernel
theorem dX11_counting_39 : decode cX11_counting 39 = .ok (.aload_n 0, 1) := by decide +kernel
theorem dX11_counting_40 : decode cX11_counting 40 = .ok (.getfield 34, 3) := by decide +kernel
theorem dX11_counting_43 : decode cX11_counting 43 = .ok (.aload_n 0, 1) := by decide +kernel
theorem dX11_counting_44 : decode cX11_counting 44 = .ok (.getfield 45, 3) := by decide +kernel
theorem dX11_counting_47 : decode cX11_counting 47 = .ok (.getfield 127, 3) := by decide +kernel
theorem dX11_counting_50 : decode cX11_counting 50 = .ok (.aaload, 1) := by decide +kernel
theorem dX11_counting_51 : decode cX11_counting 51 = .ok (.goto 4, 3) := by decide +kernel
theorem dX11_counting_54 : decode cX11_counting 54 = .ok (.aconst_null, 1) := by decide +kernel
theorem dX11_counting_55 : decode cX11_counting 55 = .ok (.putfield 340, 3) := by decide +kernel
theorem dX11_counting_58 : decode cX11_counting 58 = .ok (.aload_n 0, 1) := by decide +kernel
theorem dX11_counting_59 : decode cX11_counting 59 = .ok (.getfield 63, 3) := by decide +kernel
theorem dX11_counting_62 : decode cX11_counting 62 = .ok (.areturn, 1) := by decide +kernel
theorem dX11_listMembers_0 : decode cX11_listMembers 0 = .ok (.iconst 0, 1) := by decide +kernel
theorem dX11_listMembers_1 : decode cX11_listMembers 1 = .ok (.istore_n 2, 1) := by decide +kernel
theorem dX11_listMembers_2 : decode cX11_listMembers 2 = .ok (.iconst 0, 1) := by decide +kernel
theorem dX11_listMembers_3 : decode cX11_listMembers 3 = .ok (.istore_n 3, 1) := by decide +kernel
theorem dX11_listMembers_4 : decode cX11_listMembers 4 = .ok (.iload_n 3, 1) := by decide +kernel
theorem dX11_listMembers_5 : decode cX11_listMembers 5 = .ok (.bipush 10, 2) := by decide +kernel
theorem dX11_listMembers_7 : decode cX11_listMembers 7 = .ok (.if_icmp .ge 30, 3) := by decide +kernel
theorem dX11_listMembers_10 : decode cX11_listMembers 10 = .ok (.iload_n 0, 1) := by decide +kernel
theorem dX11_listMembers_11 : decode cX11_listMembers 11 = .ok (.iload_n 3, 1) := by decide +kernel
theorem dX11_listMembers_12 : decode cX11_listMembers 12 = .ok (.ishr, 1) := by decide +kernel
theorem dX11_listMembers_13 : decode cX11_listMembers 13 = .ok (.iconst 1, 1) := by decide +kernel
theorem dX11_listMembers_14 : decode cX11_listMembers 14 = .ok (.iand, 1) := by decide +kernel
theorem dX11_listMembers_15 : decode cX11_listMembers 15 = .ok (.ifCond .eq 16, 3) := by decide +kernel
theorem dX11_listMembers_18 : decode cX11_listMembers 18 = .ok (.iload_n 2, 1) := by decide +kernel
theorem dX11_listMembers_19 : decode cX11_listMembers 19 = .ok (.aload_n 1, 1) := by decide +kernel
theorem dX11_listMembers_20 : decode cX11_listMembers 20 = .ok (.arraylength, 1) := by decide +kernel
theorem dX11_listMembers_21 : decode cX11_listMembers 21 = .ok (.if_icmp .ge 10, 3) := by decide +kernel
theorem dX11_listMembers_24 : decode cX11_listMembers 24 = .ok (.aload_n 1, 1) := by decide +kernel
theorem dX11_listMembers_25 : decode cX11_listMembers 25 = .ok (.iload_n 2, 1) := by decide +kernel
theorem dX11_listMembers_26 : decode cX11_listMembers 26 = .ok (.iload_n 3, 1) := by decide +kernel
theorem dX11_listMembers_27 : decode cX11_listMembers 27 = .ok (.iastore, 1) := by decide +kernel
theorem dX11_listMembers_28 : decode cX11_listMembers 28 = .ok (.iinc 2 1, 3) := by decide +kernel
theorem dX11_listMembers_31 : decode cX11_listMembers 31 = .ok (.iinc 3 1, 3) := by decide +kernel
theorem dX11_listMembers_34 : decode cX11_listMembers 34 = .ok (.goto (-30), 3) := by decide +kernel
theorem dX11_listMembers_37 : decode cX11_listMembers 37 = .ok (.iload_n 2, 1) := by decide +kernel
theorem dX11_listMembers_38 : decode cX11_listMembers 38 = .ok (.ireturn, 1) := by decide +kernel
theorem dX12_init_0 : decode cX12_init 0 = .ok (.aload_n 0, 1) := by decide +kernel
theorem dX12_init_1 : decode cX12_init 1 = .ok (.invokespecial 1, 3) := by decide +kernel
theorem dX12_init_4 : decode cX12_init 4 = .ok (.aload_n 0, 1) := by decide +kernel
theorem dX12_init_5 : decode cX12_init 5 = .ok (.sipush 400, 3) := by decide +kernel
theorem dX12_init_8 : decode cX12_init 8 = .ok (.newarray .byte, 2) := by decide +kernel
theorem dX12_init_10 : decode cX12_init 10 = .ok (.putfield 7, 3) := by decide +kernel
theorem dX12_init_13 : decode cX12_init 13 = .ok (.aload_n 0, 1) := by decide +kernel
theorem dX12_init_14 : decode cX12_init 14 = .ok (.sipush 2400, 3) := by decide +kernel
theorem dX12_init_17 : decode cX12_init 17 = .ok (.newarray .int, 2) := by decide +kernel
theorem dX12_init_19 : decode cX12_init 19 = .ok (.putfield 13, 3) := by decide +kernel
theorem dX12_init_22 : decode cX12_init 22 = .ok (.aload_n 0, 1) := by decide +kernel
theorem dX12_init_23 : decode cX12_init 23 = .ok (.bipush 7, 2) := by decide +kernel
theorem dX12_init_25 : decode cX12_init 25 = .ok (.newarray .int, 2) := by decide +kernel
theorem dX12_init_27 : decode cX12_init 27 = .ok (.putfield 17, 3) := by decide +kernel
theorem dX12_init_30 : decode cX12_init 30 = .ok (.aload_n 0, 1) := by decide +kernel
theorem dX12_init_31 : decode cX12_init 31 = .ok (.sipush 288, 3) := by decide +kernel
theorem dX12_init_34 : decode cX12_init 34 = .ok (.newarray .int, 2) := by decide +kernel
theorem dX12_init_36 : decode cX12_init 36 = .ok (.putfield 20, 3) := by decide +kernel
theorem dX12_init_39 : decode cX12_init 39 = .ok (.aload_n 0, 1) := by decide +kernel
theorem dX12_init_40 : decode cX12_init 40 = .ok (.bipush 6, 2) := by decide +kernel
theorem dX12_init_42 : decode cX12_init 42 = .ok (.newarray .int, 2) := by decide +kernel
theorem dX12_init_44 : decode cX12_init 44 = .ok (.putfield 23, 3) := by decide +kernel
theorem dX12_init_47 : decode cX12_init 47 = .ok (.aload_n 0, 1) := by decide +kernel
theorem dX12_init_48 : decode cX12_init 48 = .ok (.sipush 170, 3) := by decide +kernel
theorem dX12_init_51 : decode cX12_init 51 = .ok (.newarray .int, 2) := by decide +kernel
theorem dX12_init_53 : decode cX12_init 53 = .ok (.putfield 26, 3) := by decide +kernel
theorem dX12_init_56 : decode cX12_init 56 = .ok (.aload_n 0, 1) := by decide +kernel
theorem dX12_init_57 : decode cX12_init 57 = .ok (.sipush 400, 3) := by decide +kernel
theorem dX12_init_60 : decode cX12_init 60 = .ok (.newarray .int, 2) := by decide +kernel
theorem dX12_init_62 : decode cX12_init 62 = .ok (.putfield 29, 3) := by decide +kernel
theorem dX12_init_65 : decode cX12_init 65 = .ok (.aload_n 0, 1) := by decide +kernel
theorem dX12_init_66 : decode cX12_init 66 = .ok (.bipush 64, 2) := by decide +kernel
theorem dX12_init_68 : decode cX12_init 68 = .ok (.newarray .long, 2) := by decide +kernel
theorem dX12_init_70 : decode cX12_init 70 = .ok (.putfield 32, 3) := by decide +kernel
theorem dX12_init_73 : decode cX12_init 73 = .ok (.aload_n 0, 1) := by decide +kernel
theorem dX12_init_74 : decode cX12_init 74 = .ok (.bipush 11, 2) := by decide +kernel
theorem dX12_init_76 : decode cX12_init 76 = .ok (.newarray .long, 2) := by decide +kernel
theorem dX12_init_78 : decode cX12_init 78 = .ok (.putfield 36, 3) := by decide +kernel
theorem dX12_init_81 : decode cX12_init 81 = .ok (.aload_n 0, 1) := by decide +kernel
theorem dX12_init_82 : decode cX12_init 82 = .ok (.sipush 211, 3) := by decide +kernel
theorem dX12_init_85 : decode cX12_init 85 = .ok (.newarray .int, 2) := by decide +kernel
theorem dX12_init_87 : decode cX12_init 87 = .ok (.putfield 39, 3) := by decide +kernel
theorem dX12_init_90 : decode cX12_init 90 = .ok (.aload_n 0, 1) := by decide +kernel
theorem dX12_init_91 : decode cX12_init 91 = .ok (.iconst (-1), 1) := by decide +kernel
theorem dX12_init_92 : decode cX12_init 92 = .ok (.putfield 42, 3) := by decide +kernel
theorem dX12_init_95 : decode cX12_init 95 = .ok (.aload_n 0, 1) := by decide +kernel
theorem dX12_init_96 : decode cX12_init 96 = .ok (.sipush 3400, 3) := by decide +kernel
theorem dX12_init_99 : decode cX12_init 99 = .ok (.newarray .int, 2) := by decide +kernel
theorem dX12_init_101 : decode cX12_init 101 = .ok (.putfield 46, 3) := by decide +kernel
theorem dX12_init_104 : decode cX12_init 104 = .ok (.aload_n 0, 1) := by decide +kernel
theorem dX12_init_105 : decode cX12_init 105 = .ok (.sipush 1024, 3) := by decide +kernel
theorem dX12_init_108 : decode cX12_init 108 = .ok (.newarray .int, 2) := by decide +kernel
theorem dX12_init_110 : decode cX12_init 110 = .ok (.putfield 49, 3) := by decide +kernel
theorem dX12_init_113 : decode cX12_init 113 = .ok (.aload_n 0, 1) := by decide +kernel
theorem dX12_init_114 : decode cX12_init 114 = .ok (.sipush 1024, 3) := by decide +kernel
theorem dX12_init_117 : decode cX12_init 117 = .ok (.newarray .int, 2) := by decide +kernel
theorem dX12_init_119 : decode cX12_init 119 = .ok (.putfield 52, 3) := by decide +kernel
theorem dX12_init_122 : decode cX12_init 122 = .ok (.aload_n 0, 1) := by decide +kernel
theorem dX12_init_123 : decode cX12_init 123 = .ok (.sipush 1536, 3) := by decide +kernel
theorem dX12_init_126 : decode cX12_init 126 = .ok (.newarray .int, 2) := by decide +kernel
theorem dX12_init_128 : decode cX12_init 128 = .ok (.putfield 55, 3) := by decide +kernel
theorem dX12_init_131 : decode cX12_init 131 = .ok (.aload_n 0, 1) := by decide +kernel
theorem dX12_init_132 : decode cX12_init 132 = .ok (.sipush 3072, 3) := by decide +kernel
theorem dX12_init_135 : decode cX12_init 135 = .ok (.newarray .int, 2) := by decide +kernel
theorem dX12_init_137 : decode cX12_init 137 = .ok (.putfield 58, 3) := by decide +kernel
theorem dX12_init_140 : decode cX12_init 140 = .ok (.aload_n 0, 1) := by decide +kernel
theorem dX12_init_141 : decode cX12_init 141 = .ok (.bipush 45, 2) := by decide +kernel
theorem dX12_init_143 : decode cX12_init 143 = .ok (.newarray .int, 2) := by decide +kernel
theorem dX12_init_145 : decode cX12_init 145 = .ok (.putfield 61, 3) := by decide +kernel
theorem dX12_init_148 : decode cX12_init 148 = .ok (.aload_n 0, 1) := by decide +kernel
theorem dX12_init_149 : decode cX12_init 149 = .ok (.bipush 45, 2) := by decide +kernel
theorem dX12_init_151 : decode cX12_init 151 = .ok (.newarray .int, 2) := by decide +kernel
theorem dX12_init_153 : decode cX12_init 153 = .ok (.putfield 64, 3) := by decide +kernel
theorem dX12_init_156 : decode cX12_init 156 = .ok (.aload_n 0, 1) := by decide +kernel
theorem dX12_init_157 : decode cX12_init 157 = .ok (.sipush 130, 3) := by decide +kernel
theorem dX12_init_160 : decode cX12_init 160 = .ok (.newarray .int, 2) := by decide +kernel
theorem dX12_init_162 : decode cX12_init 162 = .ok (.putfield 67, 3) := by decide +kernel
theorem dX12_init_165 : decode cX12_init 165 = .ok (.aload_n 0, 1) := by decide +kernel
theorem dX12_init_166 : decode cX12_init 166 = .ok (.sipush 844, 3) := by decide +kernel
theorem dX12_init_169 : decode cX12_init 169 = .ok (.newarray .int, 2) := by decide +kernel
theorem dX12_init_171 : decode cX12_init 171 = .ok (.putfield 70, 3) := by decide +kernel
theorem dX12_init_174 : decode cX12_init 174 = .ok (.aload_n 0, 1) := by decide +kernel
theorem dX12_init_175 : decode cX12_init 175 = .ok (.sipush 13600, 3) := by decide +kernel
theorem dX12_init_178 : decode cX12_init 178 = .ok (.newarray .int, 2) := by decide +kernel
theorem dX12_init_180 : decode cX12_init 180 = .ok (.putfield 73, 3) := by decide +kernel
theorem dX12_init_183 : decode cX12_init 183 = .ok (.aload_n 0, 1) := by decide +kernel
theorem dX12_init_184 : decode cX12_init 184 = .ok (.iconst 4, 1) := by decide +kernel
theorem dX12_init_185 : decode cX12_init 185 = .ok (.newarray .int, 2) := by decide +kernel
theorem dX12_init_187 : decode cX12_init 187 = .ok (.putfield 76, 3) := by decide +kernel
theorem dX12_init_190 : decode cX12_init 190 = .ok (.aload_n 0, 1) := by decide +kernel
theorem dX12_init_191 : decode cX12_init 191 = .ok (.iconst 4, 1) := by decide +kernel
theorem dX12_init_192 : decode cX12_init 192 = .ok (.newarray .int, 2) := by decide +kernel
theorem dX12_init_194 : decode cX12_init 194 = .ok (.putfield 79, 3) := by decide +kernel
theorem dX12_init_197 : decode cX12_init 197 = .ok (.aload_n 0, 1) := by decide +kernel
theorem dX12_init_198 : decode cX12_init 198 = .ok (.iconst 4, 1) := by decide +kernel
theorem dX12_init_199 : decode cX12_init 199 = .ok (.newarray .int, 2) := by decide +kernel
theorem dX12_init_201 : decode cX12_init 201 = .ok (.putfield 82, 3) := by decide +kernel
theorem dX12_init_204 : decode cX12_init 204 = .ok (.aload_n 0, 1) := by decide +kernel
theorem dX12_init_205 : decode cX12_init 205 = .ok (.iconst 4, 1) := by decide +kernel
theorem dX12_init_206 : decode cX12_init 206 = .ok (.newarray .boolean, 2) := by decide +kernel
theorem dX12_init_208 : decode cX12_init 208 = .ok (.putfield 85, 3) := by decide +kernel
theorem dX12_init_211 : decode cX12_init 211 = .ok (.return_, 1) := by decide +kernel
theorem dX12_in_0 : decode cX12_in 0 = .ok (.lload_n 0, 1) := by decide +kernel
theorem dX12_in_1 : decode cX12_in 1 = .ok (.lload_n 2, 1) := by decide +kernel
theorem dX12_in_2 : decode cX12_in 2 = .ok (.lcmp, 1) := by decide +kernel
theorem dX12_in_3 : decode cX12_in 3 = .ok (.ifCond .lt 14, 3) := by decide +kernel
theorem dX12_in_6 : decode cX12_in 6 = .ok (.lload_n 0, 1) := by decide +kernel
theorem dX12_in_7 : decode cX12_in 7 = .ok (.lload 4, 2) := by decide +kernel
theorem dX12_in_9 : decode cX12_in 9 = .ok (.lcmp, 1) := by decide +kernel
theorem dX12_in_10 : decode cX12_in 10 = .ok (.ifCond .gt 7, 3) := by decide +kernel
theorem dX12_in_13 : decode cX12_in 13 = .ok (.iconst 1, 1) := by decide +kernel
theorem dX12_in_14 : decode cX12_in 14 = .ok (.goto 4, 3) := by decide +kernel
theorem dX12_in_17 : decode cX12_in 17 = .ok (.iconst 0, 1) := by decide +kernel
theorem dX12_in_18 : decode cX12_in 18 = .ok (.ireturn, 1) := by decide +kernel
theorem dX12_isOf_0 : decode cX12_isOf 0 = .ok (.iload_n 0, 1) := by decide +kernel
theorem dX12_isOf_1 : decode cX12_isOf 1 = .ok (.iload_n 1, 1) := by decide +kernel
theorem dX12_isOf_2 : decode cX12_isOf 2 = .ok (.ishr, 1) := by decide +kernel
theorem dX12_isOf_3 : decode cX12_isOf 3 = .ok (.iconst 1, 1) := by decide +kernel
theorem dX12_isOf_4 : decode cX12_isOf 4 = .ok (.iand, 1) := by decide +kernel
theorem dX12_isOf_5 : decode cX12_isOf 5 = .ok (.iconst 1, 1) := by decide +kernel
theorem dX12_isOf_6 : decode cX12_isOf 6 = .ok (.if_icmp .ne 7, 3) := by decide +kernel
theorem dX12_isOf_9 : decode cX12_isOf 9 = .ok (.iconst 1, 1) := by decide +kernel
theorem dX12_isOf_10 : decode cX12_isOf 10 = .ok (.goto 4, 3) := by decide +kernel
theorem dX12_isOf_13 : decode cX12_isOf 13 = .ok (.iconst 0, 1) := by decide +kernel
theorem dX12_isOf_14 : decode cX12_isOf 14 = .ok (.ireturn, 1) := by decide +kernel
theorem dX12_bits_0 : decode cX12_bits 0 = .ok (.iconst 0, 1) := by decide +kernel
theorem dX12_bits_1 : decode cX12_bits 1 = .ok (.istore_n 1, 1) := by decide +kernel
theorem dX12_bits_2 : decode cX12_bits 2 = .ok (.iload_n 0, 1) := by decide +kernel
theorem dX12_bits_3 : decode cX12_bits 3 = .ok (.istore_n 2, 1) := by decide +kernel
theorem dX12_bits_4 : decode cX12_bits 4 = .ok (.iload_n 2, 1) := by decide +kernel
theorem dX12_bits_5 : decode cX12_bits 5 = .ok (.ifCond .eq 15, 3) := by decide +kernel
theorem dX12_bits_8 : decode cX12_bits 8 = .ok (.iinc 1 1, 3) := by decide +kernel
theorem dX12_bits_11 : decode cX12_bits 11 = .ok (.iload_n 2, 1) := by decide +kernel
theorem dX12_bits_12 : decode cX12_bits 12 = .ok (.iload_n 2, 1) := by decide +kernel
theorem dX12_bits_13 : decode cX12_bits 13 = .ok (.iconst 1, 1) := by decide +kernel
theorem dX12_bits_14 : decode cX12_bits 14 = .ok (.isub, 1) := by decide +kernel
theorem dX12_bits_15 : decode cX12_bits 15 = .ok (.iand, 1) := by decide +kernel
theorem dX12_bits_16 : decode cX12_bits 16 = .ok (.istore_n 2, 1) := by decide +kernel
theorem dX12_bits_17 : decode cX12_bits 17 = .ok (.goto (-13), 3) := by decide +kernel
theorem dX12_bits_20 : decode cX12_bits 20 = .ok (.iload_n 1, 1) := by decide +kernel
theorem dX12_bits_21 : decode cX12_bits 21 = .ok (.ireturn, 1) := by decide +kernel
theorem dX12_four_0 : decode cX12_four 0 = .ok (.bipush 24, 2) := by decide +kernel
theorem dX12_four_2 : decode cX12_four 2 = .ok (.istore_n 2, 1) := by decide +kernel
theorem dX12_four_3 : decode cX12_four 3 = .ok (.iload_n 2, 1) := by decide +kernel
theorem dX12_four_4 : decode cX12_four 4 = .ok (.ifCond .lt 32, 3) := by decide +kernel
theorem dX12_four_7 : decode cX12_four 7 = .ok (.aload_n 0, 1) := by decide +kernel
theorem dX12_four_8 : decode cX12_four 8 = .ok (.getfield 7, 3) := by decide +kernel
theorem dX12_four_11 : decode cX12_four 11 = .ok (.aload_n 0, 1) := by decide +kernel
theorem dX12_four_12 : decode cX12_four 12 = .ok (.getfield 89, 3) := by decide +kernel
theorem dX12_four_15 : decode cX12_four 15 = .ok (.iload_n 1, 1) := by decide +kernel
theorem dX12_four_16 : decode cX12_four 16 = .ok (.iload_n 2, 1) := by decide +kernel
theorem dX12_four_17 : decode cX12_four 17 = .ok (.ishr, 1) := by decide +kernel
theorem dX12_four_18 : decode cX12_four 18 = .ok (.i2b, 1) := by decide +kernel
theorem dX12_four_19 : decode cX12_four 19 = .ok (.bastore, 1) := by decide +kernel
theorem dX12_four_20 : decode cX12_four 20 = .ok (.aload_n 0, 1) := by decide +kernel
theorem dX12_four_21 : decode cX12_four 21 = .ok (.dup, 1) := by decide +kernel
theorem dX12_four_22 : decode cX12_four 22 = .ok (.getfield 89, 3) := by decide +kernel
theorem dX12_four_25 : decode cX12_four 25 = .ok (.iconst 1, 1) := by decide +kernel
theorem dX12_four_26 : decode cX12_four 26 = .ok (.iadd, 1) := by decide +kernel
theorem dX12_four_27 : decode cX12_four 27 = .ok (.putfield 89, 3) := by decide +kernel
theorem dX12_four_30 : decode cX12_four 30 = .ok (.iinc 2 (-8), 3) := by decide +kernel
theorem dX12_four_33 : decode cX12_four 33 = .ok (.goto (-30), 3) := by decide +kernel
theorem dX12_four_36 : decode cX12_four 36 = .ok (.return_, 1) := by decide +kernel
set_option maxRecDepth 20000 in
theorem ggX12_feed_X12_four : GoodIn wsX12_feed wsX12_four := goodIn_r _ [6, 7, 1, 8, 9, 10, 11, 12, 13, 14, 15, 16, 17, 18, 19, 20, 21, 22, 23, 24, 25, 26, 27, 28, 29, 30, 31, 32, 33, 34, 35, 36, 37, 38, 39, 40, 41, 42, 43, 44, 45, 46, 47, 48, 49, 50, 51] (by decide +kernel) (by decide +kernel)
set_option maxRecDepth 20000 in
theorem gX12_feed_X12_four : GoodIn wsX12_feed (wsV RX12 92 RX12 yX12_four wsX12_four) := goodIn_app (goodIn_of _ (by decide +kernel)) ggX12_feed_X12_four
theorem dX12_feed_0 : decode cX12_feed 0 = .ok (.aload_n 0, 1) := by decide +kernel
theorem dX12_feed_1 : decode cX12_feed 1 = .ok (.getfield 89, 3) := by decide +kernel
theorem dX12_feed_4 : decode cX12_feed 4 = .ok (.bipush 20, 2) := by decide +kernel
theorem dX12_feed_6 : decode cX12_feed 6 = .ok (.iadd, 1) := by decide +kernel
theorem dX12_feed_7 : decode cX12_feed 7 = .ok (.sipush 400, 3) := by decide +kernel
theorem dX12_feed_10 : decode cX12_feed 10 = .ok (.if_icmp .le 5, 3) := by decide +kernel
theorem dX12_feed_13 : decode cX12_feed 13 = .ok (.iconst (-1), 1) := by decide +kernel
theorem dX12_feed_14 : decode cX12_feed 14 = .ok (.ireturn, 1) := by decide +kernel
theorem dX12_feed_15 : decode cX12_feed 15 = .ok (.aload_n 0, 1) := by decide +kernel
theorem dX12_feed_16 : decode cX12_feed 16 = .ok (.iload_n 1, 1) := by decide +kernel
theorem dX12_feed_17 : decode cX12_feed 17 = .ok (.invokevirtual 92, 3) := by decide +kernel
theorem dX12_feed_20 : decode cX12_feed 20 = .ok (.aload_n 0, 1) := by decide +kernel
theorem dX12_feed_21 : decode cX12_feed 21 = .ok (.iload_n 2, 1) := by decide +kernel
theorem dX12_feed_22 : decode cX12_feed 22 = .ok (.invokevirtual 92, 3) := by decide +kernel
theorem dX12_feed_25 : decode cX12_feed 25 = .ok (.aload_n 0, 1) := by decide +kernel
theorem dX12_feed_26 : decode cX12_feed 26 = .ok (.iload_n 3, 1) := by decide +kernel
theorem dX12_feed_27 : decode cX12_feed 27 = .ok (.invokevirtual 92, 3) := by decide +kernel
theorem dX12_feed_30 : decode cX12_feed 30 = .ok (.aload_n 0, 1) := by decide +kernel
theorem dX12_feed_31 : decode cX12_feed 31 = .ok (.iload 4, 2) := by decide +kernel
theorem dX12_feed_33 : decode cX12_feed 33 = .ok (.invokevirtual 92, 3) := by decide +kernel
theorem dX12_feed_36 : decode cX12_feed 36 = .ok (.aload_n 0, 1) := by decide +kernel
theorem dX12_feed_37 : decode cX12_feed 37 = .ok (.iload 5, 2) := by decide +kernel
theorem dX12_feed_39 : decode cX12_feed 39 = .ok (.invokevirtual 92, 3) := by decide +kernel
theorem dX12_feed_42 : decode cX12_feed 42 = .ok (.aload_n 0, 1) := by decide +kernel
theorem dX12_feed_43 : decode cX12_feed 43 = .ok (.getfield 89, 3) := by decide +kernel
theorem dX12_feed_46 : decode cX12_feed 46 = .ok (.ireturn, 1) := by decide +kernel
theorem dX12_end_0 : decode cX12_end 0 = .ok (.iload_n 1, 1) := by decide +kernel
theorem dX12_end_1 : decode cX12_end 1 = .ok (.ifCond .lt 11, 3) := by decide +kernel
theorem dX12_end_4 : decode cX12_end 4 = .ok (.iload_n 1, 1) := by decide +kernel
theorem dX12_end_5 : decode cX12_end 5 = .ok (.aload_n 0, 1) := by decide +kernel
theorem dX12_end_6 : decode cX12_end 6 = .ok (.getfield 89, 3) := by decide +kernel
theorem dX12_end_9 : decode cX12_end 9 = .ok (.if_icmp .le 5, 3) := by decide +kernel
theorem dX12_end_12 : decode cX12_end 12 = .ok (.iconst (-1), 1) := by decide +kernel
theorem dX12_end_13 : decode cX12_end 13 = .ok (.ireturn, 1) := by decide +kernel
theorem dX12_end_14 : decode cX12_end 14 = .ok (.aload_n 0, 1) := by decide +kernel
theorem dX12_end_15 : decode cX12_end 15 = .ok (.iload_n 1, 1) := by decide +kernel
theorem dX12_end_16 : decode cX12_end 16 = .ok (.putfield 89, 3) := by decide +kernel
theorem dX12_end_19 : decode cX12_end 19 = .ok (.iload_n 1, 1) := by decide +kernel
theorem dX12_end_20 : decode cX12_end 20 = .ok (.ireturn, 1) := by decide +kernel
theorem dX12_fails_0 : decode cX12_fails 0 = .ok (.aload_n 0, 1) := by decide +kernel
theorem dX12_fails_1 : decode cX12_fails 1 = .ok (.getfield 96, 3) := by decide +kernel
theorem dX12_fails_4 : decode cX12_fails 4 = .ok (.ifCond .ne 15, 3) := by decide +kernel
theorem dX12_fails_7 : decode cX12_fails 7 = .ok (.aload_n 0, 1) := by decide +kernel
theorem dX12_fails_8 : decode cX12_fails 8 = .ok (.iconst 1, 1) := by decide +kernel
theorem dX12_fails_9 : decode cX12_fails 9 = .ok (.bipush 8, 2) := by decide +kernel
theorem dX12_fails_11 : decode cX12_fails 11 = .ok (.iload_n 2, 1) := by decide +kernel
theorem dX12_fails_12 : decode cX12_fails 12 = .ok (.imul, 1) := by decide +kernel
theorem dX12_fails_13 : decode cX12_fails 13 = .ok (.iadd, 1) := by decide +kernel
theorem dX12_fails_14 : decode cX12_fails 14 = .ok (.iload_n 1, 1) := by decide +kernel
theorem dX12_fails_15 : decode cX12_fails 15 = .ok (.iadd, 1) := by decide +kernel
theorem dX12_fails_16 : decode cX12_fails 16 = .ok (.putfield 96, 3) := by decide +kernel
theorem dX12_fails_19 : decode cX12_fails 19 = .ok (.iconst 0, 1) := by decide +kernel
theorem dX12_fails_20 : decode cX12_fails 20 = .ok (.ireturn, 1) := by decide +kernel
theorem dX12_see_0 : decode cX12_see 0 = .ok (.aload_n 0, 1) := by decide +kernel
theorem dX12_see_1 : decode cX12_see 1 = .ok (.getfield 99, 3) := by decide +kernel
theorem dX12_see_4 : decode cX12_see 4 = .ok (.aload_n 0, 1) := by decide +kernel
theorem dX12_see_5 : decode cX12_see 5 = .ok (.getfield 89, 3) := by decide +kernel
theorem dX12_see_8 : decode cX12_see 8 = .ok (.if_icmp .ge 30, 3) := by decide +kernel
theorem dX12_see_11 : decode cX12_see 11 = .ok (.aload_n 0, 1) := by decide +kernel
theorem dX12_see_12 : decode cX12_see 12 = .ok (.getfield 7, 3) := by decide +kernel
theorem dX12_see_15 : decode cX12_see 15 = .ok (.aload_n 0, 1) := by decide +kernel
theorem dX12_see_16 : decode cX12_see 16 = .ok (.getfield 99, 3) := by decide +kernel
theorem dX12_see_19 : decode cX12_see 19 = .ok (.baload, 1) := by decide +kernel
theorem dX12_see_20 : decode cX12_see 20 = .ok (.bipush 32, 2) := by decide +kernel
theorem dX12_see_22 : decode cX12_see 22 = .ok (.if_icmp .ne 16, 3) := by decide +kernel
theorem dX12_see_25 : decode cX12_see 25 = .ok (.aload_n 0, 1) := by decide +kernel
theorem dX12_see_26 : decode cX12_see 26 = .ok (.dup, 1) := by decide +kernel
theorem dX12_see_27 : decode cX12_see 27 = .ok (.getfield 99, 3) := by decide +kernel
theorem dX12_see_30 : decode cX12_see 30 = .ok (.iconst 1, 1) := by decide +kernel
theorem dX12_see_31 : decode cX12_see 31 = .ok (.iadd, 1) := by decide +kernel
theorem dX12_see_32 : decode cX12_see 32 = .ok (.putfield 99, 3) := by decide +kernel
theorem dX12_see_35 : decode cX12_see 35 = .ok (.goto (-35), 3) := by decide +kernel
theorem dX12_see_38 : decode cX12_see 38 = .ok (.aload_n 0, 1) := by decide +kernel
theorem dX12_see_39 : decode cX12_see 39 = .ok (.getfield 99, 3) := by decide +kernel
theorem dX12_see_42 : decode cX12_see 42 = .ok (.aload_n 0, 1) := by decide +kernel
theorem dX12_see_43 : decode cX12_see 43 = .ok (.getfield 89, 3) := by decide +kernel
theorem dX12_see_46 : decode cX12_see 46 = .ok (.if_icmp .ge 19, 3) := by decide +kernel
theorem dX12_see_49 : decode cX12_see 49 = .ok (.aload_n 0, 1) := by decide +kernel
theorem dX12_see_50 : decode cX12_see 50 = .ok (.getfield 7, 3) := by decide +kernel
theorem dX12_see_53 : decode cX12_see 53 = .ok (.aload_n 0, 1) := by decide +kernel
theorem dX12_see_54 : decode cX12_see 54 = .ok (.getfield 99, 3) := by decide +kernel
theorem dX12_see_57 : decode cX12_see 57 = .ok (.baload, 1) := by decide +kernel
theorem dX12_see_58 : decode cX12_see 58 = .ok (.sipush 255, 3) := by decide +kernel
theorem dX12_see_61 : decode cX12_see 61 = .ok (.iand, 1) := by decide +kernel
theorem dX12_see_62 : decode cX12_see 62 = .ok (.goto 4, 3) := by decide +kernel
theorem dX12_see_65 : decode cX12_see 65 = .ok (.iconst (-1), 1) := by decide +kernel
theorem dX12_see_66 : decode cX12_see 66 = .ok (.ireturn, 1) := by decide +kernel
theorem dX12_isDigit_0 : decode cX12_isDigit 0 = .ok (.iload_n 1, 1) := by decide +kernel
theorem dX12_isDigit_1 : decode cX12_isDigit 1 = .ok (.aload_n 0, 1) := by decide +kernel
theorem dX12_isDigit_2 : decode cX12_isDigit 2 = .ok (.getfield 89, 3) := by decide +kernel
theorem dX12_isDigit_5 : decode cX12_isDigit 5 = .ok (.if_icmp .ge 29, 3) := by decide +kernel
theorem dX12_isDigit_8 : decode cX12_isDigit 8 = .ok (.aload_n 0, 1) := by decide +kernel
theorem dX12_isDigit_9 : decode cX12_isDigit 9 = .ok (.getfield 7, 3) := by decide +kernel
theorem dX12_isDigit_12 : decode cX12_isDigit 12 = .ok (.iload_n 1, 1) := by decide +kernel
theorem dX12_isDigit_13 : decode cX12_isDigit 13 = .ok (.baload, 1) := by decide +kernel
theorem dX12_isDigit_14 : decode cX12_isDigit 14 = .ok (.bipush 48, 2) := by decide +kernel
theorem dX12_isDigit_16 : decode cX12_isDigit 16 = .ok (.if_icmp .lt 18, 3) := by decide +kernel
theorem dX12_isDigit_19 : decode cX12_isDigit 19 = .ok (.aload_n 0, 1) := by decide +kernel
theorem dX12_isDigit_20 : decode cX12_isDigit 20 = .ok (.getfield 7, 3) := by decide +kernel
theorem dX12_isDigit_23 : decode cX12_isDigit 23 = .ok (.iload_n 1, 1) := by decide +kernel
theorem dX12_isDigit_24 : decode cX12_isDigit 24 = .ok (.baload, 1) := by decide +kernel
theorem dX12_isDigit_25 : decode cX12_isDigit 25 = .ok (.bipush 57, 2) := by decide +kernel
theorem dX12_isDigit_27 : decode cX12_isDigit 27 = .ok (.if_icmp .gt 7, 3) := by decide +kernel
theorem dX12_isDigit_30 : decode cX12_isDigit 30 = .ok (.iconst 1, 1) := by decide +kernel
theorem dX12_isDigit_31 : decode cX12_isDigit 31 = .ok (.goto 4, 3) := by decide +kernel
theorem dX12_isDigit_34 : decode cX12_isDigit 34 = .ok (.iconst 0, 1) := by decide +kernel
theorem dX12_isDigit_35 : decode cX12_isDigit 35 = .ok (.ireturn, 1) := by decide +kernel
theorem dX12_isLetter_0 : decode cX12_isLetter 0 = .ok (.iload_n 1, 1) := by decide +kernel
theorem dX12_isLetter_1 : decode cX12_isLetter 1 = .ok (.aload_n 0, 1) := by decide +kernel
theorem dX12_isLetter_2 : decode cX12_isLetter 2 = .ok (.getfield 89, 3) := by decide +kernel
theorem dX12_isLetter_5 : decode cX12_isLetter 5 = .ok (.if_icmp .ge 29, 3) := by decide +kernel
theorem dX12_isLetter_8 : decode cX12_isLetter 8 = .ok (.aload_n 0, 1) := by decide +kernel
theorem dX12_isLetter_9 : decode cX12_isLetter 9 = .ok (.getfield 7, 3) := by decide +kernel
theorem dX12_isLetter_12 : decode cX12_isLetter 12 = .ok (.iload_n 1, 1) := by decide +kernel
theorem dX12_isLetter_13 : decode cX12_isLetter 13 = .ok (.baload, 1) := by decide +kernel
theorem dX12_isLetter_14 : decode cX12_isLetter 14 = .ok (.bipush 97, 2) := by decide +kernel
theorem dX12_isLetter_16 : decode cX12_isLetter 16 = .ok (.if_icmp .lt 18, 3) := by decide +kernel
theorem dX12_isLetter_19 : decode cX12_isLetter 19 = .ok (.aload_n 0, 1) := by decide +kernel
theorem dX12_isLetter_20 : decode cX12_isLetter 20 = .ok (.getfield 7, 3) := by decide +kernel
theorem dX12_isLetter_23 : decode cX12_isLetter 23 = .ok (.iload_n 1, 1) := by decide +kernel
theorem dX12_isLetter_24 : decode cX12_isLetter 24 = .ok (.baload, 1) := by decide +kernel
theorem dX12_isLetter_25 : decode cX12_isLetter 25 = .ok (.bipush 122, 2) := by decide +kernel
theorem dX12_isLetter_27 : decode cX12_isLetter 27 = .ok (.if_icmp .gt 7, 3) := by decide +kernel
theorem dX12_isLetter_30 : decode cX12_isLetter 30 = .ok (.iconst 1, 1) := by decide +kernel
theorem dX12_isLetter_31 : decode cX12_isLetter 31 = .ok (.goto 4, 3) := by decide +kernel
theorem dX12_isLetter_34 : decode cX12_isLetter 34 = .ok (.iconst 0, 1) := by decide +kernel
theorem dX12_isLetter_35 : decode cX12_isLetter 35 = .ok (.ireturn, 1) := by decide +kernel
set_option maxRecDepth 20000 in
theorem ggX12_isWord_X12_see : GoodIn wsX12_isWord wsX12_see := goodIn_r _ [7, 1, 8, 2, 13, 14, 15, 16, 17, 18, 19, 20, 21, 22, 23, 24, 25, 26, 27, 28, 29, 30, 31, 32, 33, 34, 35, 36, 37, 38, 39, 40, 41, 42, 43, 44, 45, 46, 47, 48, 49, 50, 51, 52, 53, 54, 55, 56] (by decide +kernel) (by decide +kernel)
set_option maxRecDepth 20000 in
theorem gX12_isWord_X12_see : GoodIn wsX12_isWord (wsV RX12 102 RX12 yX12_see wsX12_see) := goodIn_app (goodIn_of _ (by decide +kernel)) ggX12_isWord_X12_see
set_option maxRecDepth 20000 in
theorem ggX12_isWord_X12_isLetter : GoodIn wsX12_isWord wsX12_isLetter := goodIn_r _ [12, 8, 2, 13, 14, 15, 16, 17, 18, 19, 20, 21, 22, 23, 24, 25, 26, 27, 28, 29, 30, 31, 32, 33, 34, 35, 36, 37, 38, 39, 40, 41, 42, 43, 44, 45, 46, 47, 48, 49, 50, 51, 52, 53, 54, 55, 56] (by decide +kernel) (by decide +kernel)
set_option maxRecDepth 20000 in
theorem gX12_isWord_X12_isLetter : GoodIn wsX12_isWord (wsV RX12 106 RX12 yX12_isLetter wsX12_isLetter) := goodIn_app (goodIn_of _ (by decide +kernel)) ggX12_isWord_X12_isLetter
theorem dX12_isWord_0 : decode cX12_isWord 0 = .ok (.aload_n 0, 1) := by decide +kernel
theorem dX12_isWord_1 : decode cX12_isWord 1 = .ok (.invokevirtual 102, 3) := by decide +kernel
theorem dX12_isWord_4 : decode cX12_isWord 4 = .ok (.pop, 1) := by decide +kernel
theorem dX12_isWord_5 : decode cX12_isWord 5 = .ok (.lconst 0, 1) := by decide +kernel
theorem dX12_isWord_6 : decode cX12_isWord 6 = .ok (.lstore_n 3, 1) := by decide +kernel
theorem dX12_isWord_7 : decode cX12_isWord 7 = .ok (.iconst 0, 1) := by decide +kernel
theorem dX12_isWord_8 : decode cX12_isWord 8 = .ok (.istore 5, 2) := by decide +kernel
theorem dX12_isWord_10 : decode cX12_isWord 10 = .ok (.aload_n 0, 1) := by decide +kernel
theorem dX12_isWord_11 : decode cX12_isWord 11 = .ok (.aload_n 0, 1) := by decide +kernel
theorem dX12_isWord_12 : decode cX12_isWord 12 = .ok (.getfield 99, 3) := by decide +kernel
theorem dX12_isWord_15 : decode cX12_isWord 15 = .ok (.iload 5, 2) := by decide +kernel
theorem dX12_isWord_17 : decode cX12_isWord 17 = .ok (.iadd, 1) := by decide +kernel
theorem dX12_isWord_18 : decode cX12_isWord 18 = .ok (.invokevirtual 106, 3) := by decide +kernel
theorem dX12_isWord_21 : decode cX12_isWord 21 = .ok (.ifCond .eq 35, 3) := by decide +kernel
theorem dX12_isWord_24 : decode cX12_isWord 24 = .ok (.iload 5, 2) := by decide +kernel
theorem dX12_isWord_26 : decode cX12_isWord 26 = .ok (.bipush 8, 2) := by decide +kernel
theorem dX12_isWord_28 : decode cX12_isWord 28 = .ok (.if_icmp .ge 22, 3) := by decide +kernel
theorem dX12_isWord_31 : decode cX12_isWord 31 = .ok (.lload_n 3, 1) := by decide +kernel
theorem dX12_isWord_32 : decode cX12_isWord 32 = .ok (.bipush 8, 2) := by decide +kernel
theorem dX12_isWord_34 : decode cX12_isWord 34 = .ok (.lshl, 1) := by decide +kernel
theorem dX12_isWord_35 : decode cX12_isWord 35 = .ok (.aload_n 0, 1) := by decide +kernel
theorem dX12_isWord_36 : decode cX12_isWord 36 = .ok (.getfield 7, 3) := by decide +kernel
theorem dX12_isWord_39 : decode cX12_isWord 39 = .ok (.aload_n 0, 1) := by decide +kernel
theorem dX12_isWord_40 : decode cX12_isWord 40 = .ok (.getfield 99, 3) := by decide +kernel
theorem dX12_isWord_43 : decode cX12_isWord 43 = .ok (.iload 5, 2) := by decide +kernel
theorem dX12_isWord_45 : decode cX12_isWord 45 = .ok (.iadd, 1) := by decide +kernel
theorem dX12_isWord_46 : decode cX12_isWord 46 = .ok (.baload, 1) := by decide +kernel
theorem dX12_isWord_47 : decode cX12_isWord 47 = .ok (.i2l, 1) := by decide +kernel
theorem dX12_isWord_48 : decode cX12_isWord 48 = .ok (.lor, 1) := by decide +kernel
theorem dX12_isWord_49 : decode cX12_isWord 49 = .ok (.lstore_n 3, 1) := by decide +kernel
theorem dX12_isWord_50 : decode cX12_isWord 50 = .ok (.iinc 5 1, 3) := by decide +kernel
theorem dX12_isWord_53 : decode cX12_isWord 53 = .ok (.goto (-43), 3) := by decide +kernel
theorem dX12_isWord_56 : decode cX12_isWord 56 = .ok (.iload 5, 2) := by decide +kernel
theorem dX12_isWord_58 : decode cX12_isWord 58 = .ok (.ifCond .le 20, 3) := by decide +kernel
theorem dX12_isWord_61 : decode cX12_isWord 61 = .ok (.iload 5, 2) := by decide +kernel
theorem dX12_isWord_63 : decode cX12_isWord 63 = .ok (.bipush 9, 2) := by decide +kernel
theorem dX12_isWord_65 : decode cX12_isWord 65 = .ok (.if_icmp .ge 13, 3) := by decide +kernel
theorem dX12_isWord_68 : decode cX12_isWord 68 = .ok (.lload_n 3, 1) := by decide +kernel
theorem dX12_isWord_69 : decode cX12_isWord 69 = .ok (.lload_n 1, 1) := by decide +kernel
theorem dX12_isWord_70 : decode cX12_isWord 70 = .ok (.lcmp, 1) := by decide +kernel
theorem dX12_isWord_71 : decode cX12_isWord 71 = .ok (.ifCond .ne 7, 3) := by decide +kernel
theorem dX12_isWord_74 : decode cX12_isWord 74 = .ok (.iconst 1, 1) := by decide +kernel
theorem dX12_isWord_75 : decode cX12_isWord 75 = .ok (.goto 4, 3) := by decide +kernel
theorem dX12_isWord_78 : decode cX12_isWord 78 = .ok (.iconst 0, 1) := by decide +kernel
theorem dX12_isWord_79 : decode cX12_isWord 79 = .ok (.ireturn, 1) := by decide +kernel
set_option maxRecDepth 20000 in
theorem ggX12_passWord_X12_isLetter : GoodIn wsX12_passWord wsX12_isLetter := goodIn_r _ [6, 7, 8, 9, 10, 11, 12, 13, 14, 15, 16, 17, 18, 19, 20, 21, 22, 23, 24, 25, 26, 27, 28, 29, 30, 31, 32, 33, 34, 35, 36, 37, 38, 39, 40, 41, 42, 43, 44, 45, 46, 47, 48, 49, 50, 51, 52] (by decide +kernel) (by decide +kernel)
set_option maxRecDepth 20000 in
theorem gX12_passWord_X12_isLetter : GoodIn wsX12_passWord (wsV RX12 106 RX12 yX12_isLetter wsX12_isLetter) := goodIn_app (goodIn_of _ (by decide +kernel)) ggX12_passWord_X12_isLetter
theorem dX12_passWord_0 : decode cX12_passWord 0 = .ok (.aload_n 0, 1) := by decide +kernel
theorem dX12_passWord_1 : decode cX12_passWord 1 = .ok (.aload_n 0, 1) := by decide +kernel
theorem dX12_passWord_2 : decode cX12_passWord 2 = .ok (.getfield 99, 3) := by decide +kernel
theorem dX12_passWord_5 : decode cX12_passWord 5 = .ok (.invokevirtual 106, 3) := by decide +kernel
theorem dX12_passWord_8 : decode cX12_passWord 8 = .ok (.ifCond .eq 16, 3) := by decide +kernel
theorem dX12_passWord_11 : decode cX12_passWord 11 = .ok (.aload_n 0, 1) := by decide +kernel
theorem dX12_passWord_12 : decode cX12_passWord 12 = .ok (.dup, 1) := by decide +kernel
theorem dX12_passWord_13 : decode cX12_passWord 13 = .ok (.getfield 99, 3) := by decide +kernel
theorem dX12_passWord_16 : decode cX12_passWord 16 = .ok (.iconst 1, 1) := by decide +kernel
theorem dX12_passWord_17 : decode cX12_passWord 17 = .ok (.iadd, 1) := by decide +kernel
theorem dX12_passWord_18 : decode cX12_passWord 18 = .ok (.putfield 99, 3) := by decide +kernel
theorem dX12_passWord_21 : decode cX12_passWord 21 = .ok (.goto (-21), 3) := by decide +kernel
theorem dX12_passWord_24 : decode cX12_passWord 24 = .ok (.return_, 1) := by decide +kernel
set_option maxRecDepth 20000 in
theorem ggX12_takesWord_X12_isWord : GoodIn wsX12_takesWord wsX12_isWord := goodIn_r _ [5, 6, 7, 8, 9, 10, 4, 11, 12, 13, 14, 15, 16, 21, 22, 23, 24, 25, 26, 27, 28, 29, 30, 31, 32, 33, 34, 35, 36, 37, 38, 39, 40, 41, 42, 43, 44, 45, 46, 47, 48, 49, 50, 51, 52, 53, 54, 55, 56, 57, 58, 59, 60, 61, 62, 63, 64] (by decide +kernel) (by decide +kernel)
set_option maxRecDepth 20000 in
theorem gX12_takesWord_X12_isWord : GoodIn wsX12_takesWord (wsV RX12 110 RX12 yX12_isWord wsX12_isWord) := goodIn_app (goodIn_of _ (by decide +kernel)) ggX12_takesWord_X12_isWord
set_option maxRecDepth 20000 in
theorem ggX12_takesWord_X12_passWord : GoodIn wsX12_takesWord wsX12_passWord := goodIn_r _ [20, 6, 13, 14, 15, 4, 16, 12, 7, 21, 22, 23, 24, 25, 26, 27, 28, 29, 30, 31, 32, 33, 34, 35, 36, 37, 38, 39, 40, 41, 42, 43, 44, 45, 46, 47, 48, 49, 50, 51, 52, 53, 54, 55, 56, 57, 58, 59, 60, 61, 62, 63, 64] (by decide +kernel) (by decide +kernel)
set_option maxRecDepth 20000 in
theorem gX12_takesWord_X12_passWord : GoodIn wsX12_takesWord (wsV RX12 114 RX12 yX12_passWord wsX12_passWord) := goodIn_app (goodIn_of _ (by decide +kernel)) ggX12_takesWord_X12_passWord
theorem dX12_takesWord_0 : decode cX12_takesWord 0 = .ok (.aload_n 0, 1) := by decide +kernel
theorem dX12_takesWord_1 : decode cX12_takesWord 1 = .ok (.lload_n 1, 1) := by decide +kernel
theorem dX12_takesWord_2 : decode cX12_takesWord 2 = .ok (.invokevirtual 110, 3) := by decide +kernel
theorem dX12_takesWord_5 : decode cX12_takesWord 5 = .ok (.ifCond .ne 5, 3) := by decide +kernel
theorem dX12_takesWord_8 : decode cX12_takesWord 8 = .ok (.iconst 0, 1) := by decide +kernel
theorem dX12_takesWord_9 : decode cX12_takesWord 9 = .ok (.ireturn, 1) := by decide +kernel
theorem dX12_takesWord_10 : decode cX12_takesWord 10 = .ok (.aload_n 0, 1) := by decide +kernel
theorem dX12_takesWord_11 : decode cX12_takesWord 11 = .ok (.invokevirtual 114, 3) := by decide +kernel
theorem dX12_takesWord_14 : decode cX12_takesWord 14 = .ok (.iconst 1, 1) := by decide +kernel
theorem dX12_takesWord_15 : decode cX12_takesWord 15 = .ok (.ireturn, 1) := by decide +kernel
set_option maxRecDepth 20000 in
theorem ggX12_numberHere_X12_see : GoodIn wsX12_numberHere wsX12_see := goodIn_r _ [8, 1, 9, 2, 22, 23, 24, 25, 26, 27, 28, 29, 30, 31, 32, 33, 34, 35, 36, 37, 38, 39, 40, 41, 42, 43, 44, 45, 46, 47, 48, 49, 50, 51, 52, 53, 54, 55, 56, 57, 58, 59, 60, 61, 62, 63, 64, 65] (by decide +kernel) (by decide +kernel)
set_option maxRecDepth 20000 in
theorem gX12_numberHere_X12_see : GoodIn wsX12_numberHere (wsV RX12 102 RX12 yX12_see wsX12_see) := goodIn_app (goodIn_of _ (by decide +kernel)) ggX12_numberHere_X12_see
set_option maxRecDepth 20000 in
theorem ggX12_numberHere_X12_isDigit : GoodIn wsX12_numberHere wsX12_isDigit := goodIn_r _ [13, 9, 2, 22, 23, 24, 25, 26, 27, 28, 29, 30, 31, 32, 33, 34, 35, 36, 37, 38, 39, 40, 41, 42, 43, 44, 45, 46, 47, 48, 49, 50, 51, 52, 53, 54, 55, 56, 57, 58, 59, 60, 61, 62, 63, 64, 65] (by decide +kernel) (by decide +kernel)
set_option maxRecDepth 20000 in
theorem gX12_numberHere_X12_isDigit : GoodIn wsX12_numberHere (wsV RX12 117 RX12 yX12_isDigit wsX12_isDigit) := goodIn_app (goodIn_of _ (by decide +kernel)) ggX12_numberHere_X12_isDigit
set_option maxRecDepth 20000 in
theorem ggX12_numberHere_X12_fails : GoodIn wsX12_numberHere wsX12_fails := goodIn_r _ [17, 18, 22, 23, 24, 25, 26, 27, 28, 29, 30, 31, 32, 33, 34, 35, 36, 37, 38, 39, 40, 41, 42, 43, 44, 45, 46, 47, 48, 49, 50, 51, 52, 53, 54, 55, 56, 57, 58, 59, 60, 61, 62, 63, 64, 65] (by decide +kernel) (by decide +kernel)
set_option maxRecDepth 20000 in
theorem gX12_numberHere_X12_fails : GoodIn wsX12_numberHere (wsV RX12 120 RX12 yX12_fails wsX12_fails) := goodIn_app (goodIn_of _ (by decide +kernel)) ggX12_numberHere_X12_fails
set_option maxRecDepth 20000 in
theorem ggX12_numberHere_X12_in : GoodIn wsX12_numberHere wsX12_in := goodIn_r _ [21] (by decide +kernel) (by decide +kernel)
set_option maxRecDepth 20000 in
theorem gX12_numberHere_X12_in : GoodIn wsX12_numberHere (va_wsS RX12 127 yX12_in wsX12_in) := goodIn_app (goodIn_of _ (by decide +kernel)) ggX12_numberHere_X12_in
theorem dX12_numberHere_0 : decode cX12_numberHere 0 = .ok (.aload_n 0, 1) := by decide +kernel
theorem dX12_numberHere_1 : decode cX12_numberHere 1 = .ok (.invokevirtual 102, 3) := by decide +kernel
theorem dX12_numberHere_4 : decode cX12_numberHere 4 = .ok (.pop, 1) := by decide +kernel
theorem dX12_numberHere_5 : decode cX12_numberHere 5 = .ok (.aload_n 0, 1) := by decide +kernel
theorem dX12_numberHere_6 : decode cX12_numberHere 6 = .ok (.aload_n 0, 1) := by decide +kernel
theorem dX12_numberHere_7 : decode cX12_numberHere 7 = .ok (.getfield 99, 3) := by decide +kernel
theorem dX12_numberHere_10 : decode cX12_numberHere 10 = .ok (.invokevirtual 117, 3) := by decide +kernel
theorem dX12_numberHere_13 : decode cX12_numberHere 13 = .ok (.ifCond .ne 13, 3) := by decide +kernel
theorem dX12_numberHere_16 : decode cX12_numberHere 16 = .ok (.aload_n 0, 1) := by decide +kernel
theorem dX12_numberHere_17 : decode cX12_numberHere 17 = .ok (.iconst 0, 1) := by decide +kernel
theorem dX12_numberHere_18 : decode cX12_numberHere 18 = .ok (.aload_n 0, 1) := by decide +kernel
theorem dX12_numberHere_19 : decode cX12_numberHere 19 = .ok (.getfield 99, 3) := by decide +kernel
theorem dX12_numberHere_22 : decode cX12_numberHere 22 = .ok (.invokevirtual 120, 3) := by decide +kernel
theorem dX12_numberHere_25 : decode cX12_numberHere 25 = .ok (.ireturn, 1) := by decide +kernel
theorem dX12_numberHere_26 : decode cX12_numberHere 26 = .ok (.aload_n 0, 1) := by decide +kernel
theorem dX12_numberHere_27 : decode cX12_numberHere 27 = .ok (.getfield 99, 3) := by decide +kernel
theorem dX12_numberHere_30 : decode cX12_numberHere 30 = .ok (.istore_n 3, 1) := by decide +kernel
theorem dX12_numberHere_31 : decode cX12_numberHere 31 = .ok (.iconst 0, 1) := by decide +kernel
theorem dX12_numberHere_32 : decode cX12_numberHere 32 = .ok (.istore 4, 2) := by decide +kernel
theorem dX12_numberHere_34 : decode cX12_numberHere 34 = .ok (.aload_n 0, 1) := by decide +kernel
theorem dX12_numberHere_35 : decode cX12_numberHere 35 = .ok (.aload_n 0, 1) := by decide +kernel
theorem dX12_numberHere_36 : decode cX12_numberHere 36 = .ok (.getfield 99, 3) := by decide +kernel
theorem dX12_numberHere_39 : decode cX12_numberHere 39 = .ok (.invokevirtual 117, 3) := by decide +kernel
theorem dX12_numberHere_42 : decode cX12_numberHere 42 = .ok (.ifCond .eq 46, 3) := by decide +kernel
theorem dX12_numberHere_45 : decode cX12_numberHere 45 = .ok (.aload_n 0, 1) := by decide +kernel
theorem dX12_numberHere_46 : decode cX12_numberHere 46 = .ok (.getfield 99, 3) := by decide +kernel
theorem dX12_numberHere_49 : decode cX12_numberHere 49 = .ok (.iload_n 3, 1) := by decide +kernel
theorem dX12_numberHere_50 : decode cX12_numberHere 50 = .ok (.isub, 1) := by decide +kernel
theorem dX12_numberHere_51 : decode cX12_numberHere 51 = .ok (.iconst 5, 1) := by decide +kernel
theorem dX12_numberHere_52 : decode cX12_numberHere 52 = .ok (.if_icmp .ge 23, 3) := by decide +kernel
theorem dX12_numberHere_55 : decode cX12_numberHere 55 = .ok (.bipush 10, 2) := by decide +kernel
theorem dX12_numberHere_57 : decode cX12_numberHere 57 = .ok (.iload 4, 2) := by decide +kernel
theorem dX12_numberHere_59 : decode cX12_numberHere 59 = .ok (.imul, 1) := by decide +kernel
theorem dX12_numberHere_60 : decode cX12_numberHere 60 = .ok (.aload_n 0, 1) := by decide +kernel
theorem dX12_numberHere_61 : decode cX12_numberHere 61 = .ok (.getfield 7, 3) := by decide +kernel
theorem dX12_numberHere_64 : decode cX12_numberHere 64 = .ok (.aload_n 0, 1) := by decide +kernel
theorem dX12_numberHere_65 : decode cX12_numberHere 65 = .ok (.getfield 99, 3) := by decide +kernel
theorem dX12_numberHere_68 : decode cX12_numberHere 68 = .ok (.baload, 1) := by decide +kernel
theorem dX12_numberHere_69 : decode cX12_numberHere 69 = .ok (.iadd, 1) := by decide +kernel
theorem dX12_numberHere_70 : decode cX12_numberHere 70 = .ok (.bipush 48, 2) := by decide +kernel
theorem dX12_numberHere_72 : decode cX12_numberHere 72 = .ok (.isub, 1) := by decide +kernel
theorem dX12_numberHere_73 : decode cX12_numberHere 73 = .ok (.istore 4, 2) := by decide +kernel
theorem dX12_numberHere_75 : decode cX12_numberHere 75 = .ok (.aload_n 0, 1) := by decide +kernel
theorem dX12_numberHere_76 : decode cX12_numberHere 76 = .ok (.dup, 1) := by decide +kernel
theorem dX12_numberHere_77 : decode cX12_numberHere 77 = .ok (.getfield 99, 3) := by decide +kernel
theorem dX12_numberHere_80 : decode cX12_numberHere 80 = .ok (.iconst 1, 1) := by decide +kernel
theorem dX12_numberHere_81 : decode cX12_numberHere 81 = .ok (.iadd, 1) := by decide +kernel
theorem dX12_numberHere_82 : decode cX12_numberHere 82 = .ok (.putfield 99, 3) := by decide +kernel
theorem dX12_numberHere_85 : decode cX12_numberHere 85 = .ok (.goto (-51), 3) := by decide +kernel
theorem dX12_numberHere_88 : decode cX12_numberHere 88 = .ok (.aload_n 0, 1) := by decide +kernel
theorem dX12_numberHere_89 : decode cX12_numberHere 89 = .ok (.iload 4, 2) := by decide +kernel
theorem dX12_numberHere_91 : decode cX12_numberHere 91 = .ok (.putfield 124, 3) := by decide +kernel
theorem dX12_numberHere_94 : decode cX12_numberHere 94 = .ok (.aload_n 0, 1) := by decide +kernel
theorem dX12_numberHere_95 : decode cX12_numberHere 95 = .ok (.getfield 99, 3) := by decide +kernel
theorem dX12_numberHere_98 : decode cX12_numberHere 98 = .ok (.iload_n 3, 1) := by decide +kernel
theorem dX12_numberHere_99 : decode cX12_numberHere 99 = .ok (.isub, 1) := by decide +kernel
theorem dX12_numberHere_100 : decode cX12_numberHere 100 = .ok (.iconst 5, 1) := by decide +kernel
theorem dX12_numberHere_101 : decode cX12_numberHere 101 = .ok (.if_icmp .gt 16, 3) := by decide +kernel
theorem dX12_numberHere_104 : decode cX12_numberHere 104 = .ok (.iload 4, 2) := by decide +kernel
theorem dX12_numberHere_106 : decode cX12_numberHere 106 = .ok (.i2l, 1) := by decide +kernel
theorem dX12_numberHere_107 : decode cX12_numberHere 107 = .ok (.iload_n 1, 1) := by decide +kernel
theorem dX12_numberHere_108 : decode cX12_numberHere 108 = .ok (.i2l, 1) := by decide +kernel
theorem dX12_numberHere_109 : decode cX12_numberHere 109 = .ok (.iload_n 2, 1) := by decide +kernel
theorem dX12_numberHere_110 : decode cX12_numberHere 110 = .ok (.i2l, 1) := by decide +kernel
theorem dX12_numberHere_111 : decode cX12_numberHere 111 = .ok (.invokestatic 127, 3) := by decide +kernel
theorem dX12_numberHere_114 : decode cX12_numberHere 114 = .ok (.ifCond .ne 12, 3) := by decide +kernel
theorem dX12_numberHere_117 : decode cX12_numberHere 117 = .ok (.aload_n 0, 1) := by decide +kernel
theorem dX12_numberHere_118 : decode cX12_numberHere 118 = .ok (.iconst 1, 1) := by decide +kernel
theorem dX12_numberHere_119 : decode cX12_numberHere 119 = .ok (.iload_n 3, 1) := by decide +kernel
theorem dX12_numberHere_120 : decode cX12_numberHere 120 = .ok (.invokevirtual 120, 3) := by decide +kernel
theorem dX12_numberHere_123 : decode cX12_numberHere 123 = .ok (.ifCond .eq 7, 3) := by decide +kernel
theorem dX12_numberHere_126 : decode cX12_numberHere 126 = .ok (.iconst 1, 1) := by decide +kernel
theorem dX12_numberHere_127 : decode cX12_numberHere 127 = .ok (.goto 4, 3) := by decide +kernel
theorem dX12_numberHere_130 : decode cX12_numberHere 130 = .ok (.iconst 0, 1) := by decide +kernel
theorem dX12_numberHere_131 : decode cX12_numberHere 131 = .ok (.ireturn, 1) := by decide +kernel
set_option maxRecDepth 20000 in
theorem ggX12_wordHere_X12_isWord : GoodIn wsX12_wordHere wsX12_isWord := goodIn_r _ [16, 17, 18, 19, 20, 21, 15, 22, 23, 24, 25, 26, 27, 28, 29, 30, 31, 32, 33, 34, 35, 36, 37, 38, 39, 40, 41, 42, 43, 44, 45, 46, 47, 48, 49, 50, 51, 52, 53, 54, 55, 56, 57, 58, 59, 60, 61, 62, 63, 64, 65, 66, 67, 68, 69, 70, 71] (by decide +kernel) (by decide +kernel)
set_option maxRecDepth 20000 in
theorem gX12_wordHere_X12_isWord : GoodIn wsX12_wordHere (wsV RX12 110 RX12 yX12_isWord wsX12_isWord) := goodIn_app (goodIn_of _ (by decide +kernel)) ggX12_wordHere_X12_isWord
theorem dX12_wordHere_0 : decode cX12_wordHere 0 = .ok (.aload_n 0, 1) := by decide +kernel
theorem dX12_wordHere_1 : decode cX12_wordHere 1 = .ok (.ldc2_w 131, 3) := by decide +kernel
theorem dX12_wordHere_4 : decode cX12_wordHere 4 = .ok (.invokevirtual 110, 3) := by decide +kernel
theorem dX12_wordHere_7 : decode cX12_wordHere 7 = .ok (.ifCond .eq 5, 3) := by decide +kernel
theorem dX12_wordHere_10 : decode cX12_wordHere 10 = .ok (.iconst 0, 1) := by decide +kernel
theorem dX12_wordHere_11 : decode cX12_wordHere 11 = .ok (.ireturn, 1) := by decide +kernel
theorem dX12_wordHere_12 : decode cX12_wordHere 12 = .ok (.aload_n 0, 1) := by decide +kernel
theorem dX12_wordHere_13 : decode cX12_wordHere 13 = .ok (.ldc2_w 133, 3) := by decide +kernel
theorem dX12_wordHere_16 : decode cX12_wordHere 16 = .ok (.invokevirtual 110, 3) := by decide +kernel
theorem dX12_wordHere_19 : decode cX12_wordHere 19 = .ok (.ifCond .eq 5, 3) := by decide +kernel
theorem dX12_wordHere_22 : decode cX12_wordHere 22 = .ok (.iconst 1, 1) := by decide +kernel
theorem dX12_wordHere_23 : decode cX12_wordHere 23 = .ok (.ireturn, 1) := by decide +kernel
theorem dX12_wordHere_24 : decode cX12_wordHere 24 = .ok (.aload_n 0, 1) := by decide +kernel
theorem dX12_wordHere_25 : decode cX12_wordHere 25 = .ok (.ldc2_w 135, 3) := by decide +kernel
theorem dX12_wordHere_28 : decode cX12_wordHere 28 = .ok (.invokevirtual 110, 3) := by decide +kernel
theorem dX12_wordHere_31 : decode cX12_wordHere 31 = .ok (.ifCond .eq 5, 3) := by decide +kernel
theorem dX12_wordHere_34 : decode cX12_wordHere 34 = .ok (.iconst 2, 1) := by decide +kernel
theorem dX12_wordHere_35 : decode cX12_wordHere 35 = .ok (.ireturn, 1) := by decide +kernel
theorem dX12_wordHere_36 : decode cX12_wordHere 36 = .ok (.aload_n 0, 1) := by decide +kernel
theorem dX12_wordHere_37 : decode cX12_wordHere 37 = .ok (.ldc2_w 137, 3) := by decide +kernel
theorem dX12_wordHere_40 : decode cX12_wordHere 40 = .ok (.invokevirtual 110, 3) := by decide +kernel
theorem dX12_wordHere_43 : decode cX12_wordHere 43 = .ok (.ifCond .eq 5, 3) := by decide +kernel
theorem dX12_wordHere_46 : decode cX12_wordHere 46 = .ok (.iconst 3, 1) := by decide +kernel
theorem dX12_wordHere_47 : decode cX12_wordHere 47 = .ok (.ireturn, 1) := by decide +kernel
theorem dX12_wordHere_48 : decode cX12_wordHere 48 = .ok (.aload_n 0, 1) := by decide +kernel
theorem dX12_wordHere_49 : decode cX12_wordHere 49 = .ok (.ldc2_w 139, 3) := by decide +kernel
theorem dX12_wordHere_52 : decode cX12_wordHere 52 = .ok (.invokevirtual 110, 3) := by decide +kernel
theorem dX12_wordHere_55 : decode cX12_wordHere 55 = .ok (.ifCond .eq 5, 3) := by decide +kernel
theorem dX12_wordHere_58 : decode cX12_wordHere 58 = .ok (.iconst 4, 1) := by decide +kernel
theorem dX12_wordHere_59 : decode cX12_wordHere 59 = .ok (.ireturn, 1) := by decide +kernel
theorem dX12_wordHere_60 : decode cX12_wordHere 60 = .ok (.aload_n 0, 1) := by decide +kernel
theorem dX12_wordHere_61 : decode cX12_wordHere 61 = .ok (.ldc2_w 141, 3) := by decide +kernel
theorem dX12_wordHere_64 : decode cX12_wordHere 64 = .ok (.invokevirtual 110, 3) := by decide +kernel
theorem dX12_wordHere_67 : decode cX12_wordHere 67 = .ok (.ifCond .eq 5, 3) := by decide +kernel
theorem dX12_wordHere_70 : decode cX12_wordHere 70 = .ok (.iconst 5, 1) := by decide +kernel
theorem dX12_wordHere_71 : decode cX12_wordHere 71 = .ok (.ireturn, 1) := by decide +kernel
theorem dX12_wordHere_72 : decode cX12_wordHere 72 = .ok (.aload_n 0, 1) := by decide +kernel
theorem dX12_wordHere_73 : decode cX12_wordHere 73 = .ok (.ldc2_w 143, 3) := by decide +kernel
theorem dX12_wordHere_76 : decode cX12_wordHere 76 = .ok (.invokevirtual 110, 3) := by decide +kernel
theorem dX12_wordHere_79 : decode cX12_wordHere 79 = .ok (.ifCond .eq 6, 3) := by decide +kernel
theorem dX12_wordHere_82 : decode cX12_wordHere 82 = .ok (.bipush 6, 2) := by decide +kernel
theorem dX12_wordHere_84 : decode cX12_wordHere 84 = .ok (.ireturn, 1) := by decide +kernel
theorem dX12_wordHere_85 : decode cX12_wordHere 85 = .ok (.aload_n 0, 1) := by decide +kernel
theorem dX12_wordHere_86 : decode cX12_wordHere 86 = .ok (.ldc2_w 145, 3) := by decide +kernel
theorem dX12_wordHere_89 : decode cX12_wordHere 89 = .ok (.invokevirtual 110, 3) := by decide +kernel
theorem dX12_wordHere_92 : decode cX12_wordHere 92 = .ok (.ifCond .eq 6, 3) := by decide +kernel
theorem dX12_wordHere_95 : decode cX12_wordHere 95 = .ok (.bipush 7, 2) := by decide +kernel
theorem dX12_wordHere_97 : decode cX12_wordHere 97 = .ok (.ireturn, 1) := by decide +kernel
theorem dX12_wordHere_98 : decode cX12_wordHere 98 = .ok (.aload_n 0, 1) := by decide +kernel
theorem dX12_wordHere_99 : decode cX12_wordHere 99 = .ok (.ldc2_w 147, 3) := by decide +kernel
theorem dX12_wordHere_102 : decode cX12_wordHere 102 = .ok (.invokevirtual 110, 3) := by decide +kernel
theorem dX12_wordHere_105 : decode cX12_wordHere 105 = .ok (.ifCond .eq 6, 3) := by decide +kernel
theorem dX12_wordHere_108 : decode cX12_wordHere 108 = .ok (.bipush 8, 2) := by decide +kernel
theorem dX12_wordHere_110 : decode cX12_wordHere 110 = .ok (.ireturn, 1) := by decide +kernel
theorem dX12_wordHere_111 : decode cX12_wordHere 111 = .ok (.aload_n 0, 1) := by decide +kernel
theorem dX12_wordHere_112 : decode cX12_wordHere 112 = .ok (.ldc2_w 149, 3) := by decide +kernel
theorem dX12_wordHere_115 : decode cX12_wordHere 115 = .ok (.invokevirtual 110, 3) := by decide +kernel
theorem dX12_wordHere_118 : decode cX12_wordHere 118 = .ok (.ifCond .eq 8, 3) := by decide +kernel
theorem dX12_wordHere_121 : decode cX12_wordHere 121 = .ok (.bipush 9, 2) := by decide +kernel
theorem dX12_wordHere_123 : decode cX12_wordHere 123 = .ok (.goto 19, 3) := by decide +kernel
theorem dX12_wordHere_126 : decode cX12_wordHere 126 = .ok (.aload_n 0, 1) := by decide +kernel
theorem dX12_wordHere_127 : decode cX12_wordHere 127 = .ok (.ldc2_w 151, 3) := by decide +kernel
theorem dX12_wordHere_130 : decode cX12_wordHere 130 = .ok (.invokevirtual 110, 3) := by decide +kernel
theorem dX12_wordHere_133 : decode cX12_wordHere 133 = .ok (.ifCond .eq 8, 3) := by decide +kernel
theorem dX12_wordHere_136 : decode cX12_wordHere 136 = .ok (.bipush 10, 2) := by decide +kernel
theorem dX12_wordHere_138 : decode cX12_wordHere 138 = .ok (.goto 4, 3) := by decide +kernel
theorem dX12_wordHere_141 : decode cX12_wordHere 141 = .ok (.iconst (-1), 1) := by decide +kernel
theorem dX12_wordHere_142 : decode cX12_wordHere 142 = .ok (.ireturn, 1) := by decide +kernel
theorem dX12_puts_0 : decode cX12_puts 0 = .ok (.aload_n 0, 1) := by decide +kernel
theorem dX12_puts_1 : decode cX12_puts 1 = .ok (.getfield 13, 3) := by decide +kernel
theorem dX12_puts_4 : decode cX12_puts 4 = .ok (.sipush 400, 3) := by decide +kernel
theorem dX12_puts_7 : decode cX12_puts 7 = .ok (.aload_n 0, 1) := by decide +kernel
theorem dX12_puts_8 : decode cX12_puts 8 = .ok (.getfield 153, 3) := by decide +kernel
theorem dX12_puts_11 : decode cX12_puts 11 = .ok (.imul, 1) := by decide +kernel
theorem dX12_puts_12 : decode cX12_puts 12 = .ok (.aload_n 0, 1) := by decide +kernel
theorem dX12_puts_13 : decode cX12_puts 13 = .ok (.getfield 17, 3) := by decide +kernel
theorem dX12_puts_16 : decode cX12_puts 16 = .ok (.aload_n 0, 1) := by decide +kernel
theorem dX12_puts_17 : decode cX12_puts 17 = .ok (.getfield 153, 3) := by decide +kernel
theorem dX12_puts_20 : decode cX12_puts 20 = .ok (.iaload, 1) := by decide +kernel
theorem dX12_puts_21 : decode cX12_puts 21 = .ok (.iadd, 1) := by decide +kernel
theorem dX12_puts_22 : decode cX12_puts 22 = .ok (.iload_n 1, 1) := by decide +kernel
theorem dX12_puts_23 : decode cX12_puts 23 = .ok (.bipush 16, 2) := by decide +kernel
theorem dX12_puts_25 : decode cX12_puts 25 = .ok (.iload_n 2, 1) := by decide +kernel
theorem dX12_puts_26 : decode cX12_puts 26 = .ok (.imul, 1) := by decide +kernel
theorem dX12_puts_27 : decode cX12_puts 27 = .ok (.iadd, 1) := by decide +kernel
theorem dX12_puts_28 : decode cX12_puts 28 = .ok (.iastore, 1) := by decide +kernel
theorem dX12_puts_29 : decode cX12_puts 29 = .ok (.aload_n 0, 1) := by decide +kernel
theorem dX12_puts_30 : decode cX12_puts 30 = .ok (.getfield 17, 3) := by decide +kernel
theorem dX12_puts_33 : decode cX12_puts 33 = .ok (.aload_n 0, 1) := by decide +kernel
theorem dX12_puts_34 : decode cX12_puts 34 = .ok (.getfield 153, 3) := by decide +kernel
theorem dX12_puts_37 : decode cX12_puts 37 = .ok (.dup2, 1) := by decide +kernel
theorem dX12_puts_38 : decode cX12_puts 38 = .ok (.iaload, 1) := by decide +kernel
theorem dX12_puts_39 : decode cX12_puts 39 = .ok (.iconst 1, 1) := by decide +kernel
theorem dX12_puts_40 : decode cX12_puts 40 = .ok (.iadd, 1) := by decide +kernel
theorem dX12_puts_41 : decode cX12_puts 41 = .ok (.iastore, 1) := by decide +kernel
theorem dX12_puts_42 : decode cX12_puts 42 = .ok (.return_, 1) := by decide +kernel
set_option maxRecDepth 20000 in
theorem ggX12_makes_X12_fails : GoodIn wsX12_makes wsX12_fails := goodIn_r _ [6, 7, 8, 9, 10, 11, 12, 13, 14, 15, 16, 17, 18, 19, 20, 21, 22, 23, 24, 25, 26, 27, 28, 29, 30, 31, 32, 33, 34, 35, 36, 37, 38, 39, 40, 41, 42, 43, 44, 45, 46, 47, 48, 49, 50, 51] (by decide +kernel) (by decide +kernel)
set_option maxRecDepth 20000 in
theorem gX12_makes_X12_fails : GoodIn wsX12_makes (wsV RX12 120 RX12 yX12_fails wsX12_fails) := goodIn_app (goodIn_of _ (by decide +kernel)) ggX12_makes_X12_fails
theorem dX12_makes_0 : decode cX12_makes 0 = .ok (.aload_n 0, 1) := by decide +kernel
theorem dX12_makes_1 : decode cX12_makes 1 = .ok (.getfield 156, 3) := by decide +kernel
theorem dX12_makes_4 : decode cX12_makes 4 = .ok (.bipush 60, 2) := by decide +kernel
theorem dX12_makes_6 : decode cX12_makes 6 = .ok (.if_icmp .ne 10, 3) := by decide +kernel
theorem dX12_makes_9 : decode cX12_makes 9 = .ok (.aload_n 0, 1) := by decide +kernel
theorem dX12_makes_10 : decode cX12_makes 10 = .ok (.iconst 3, 1) := by decide +kernel
theorem dX12_makes_11 : decode cX12_makes 11 = .ok (.iload_n 1, 1) := by decide +kernel
theorem dX12_makes_12 : decode cX12_makes 12 = .ok (.invokevirtual 120, 3) := by decide +kernel
theorem dX12_makes_15 : decode cX12_makes 15 = .ok (.ireturn, 1) := by decide +kernel
theorem dX12_makes_16 : decode cX12_makes 16 = .ok (.aload_n 0, 1) := by decide +kernel
theorem dX12_makes_17 : decode cX12_makes 17 = .ok (.dup, 1) := by decide +kernel
theorem dX12_makes_18 : decode cX12_makes 18 = .ok (.getfield 156, 3) := by decide +kernel
theorem dX12_makes_21 : decode cX12_makes 21 = .ok (.iconst 1, 1) := by decide +kernel
theorem dX12_makes_22 : decode cX12_makes 22 = .ok (.iadd, 1) := by decide +kernel
theorem dX12_makes_23 : decode cX12_makes 23 = .ok (.putfield 156, 3) := by decide +kernel
theorem dX12_makes_26 : decode cX12_makes 26 = .ok (.iconst 1, 1) := by decide +kernel
theorem dX12_makes_27 : decode cX12_makes 27 = .ok (.ireturn, 1) := by decide +kernel
set_option maxRecDepth 20000 in
theorem ggX12_opens_X12_fails : GoodIn wsX12_opens wsX12_fails := goodIn_r _ [9, 10, 11, 12, 13, 14, 15, 16, 17, 18, 19, 20, 21, 22, 23, 24, 25, 26, 27, 28, 29, 30, 31, 32, 33, 34, 35, 36, 37, 38, 39, 40, 41, 42, 43, 44, 45, 46, 47, 48, 49, 50, 51, 52, 53, 54] (by decide +kernel) (by decide +kernel)
set_option maxRecDepth 20000 in
theorem gX12_opens_X12_fails : GoodIn wsX12_opens (wsV RX12 120 RX12 yX12_fails wsX12_fails) := goodIn_app (goodIn_of _ (by decide +kernel)) ggX12_opens_X12_fails
theorem dX12_opens_0 : decode cX12_opens 0 = .ok (.aload_n 0, 1) := by decide +kernel
theorem dX12_opens_1 : decode cX12_opens 1 = .ok (.getfield 159, 3) := by decide +kernel
theorem dX12_opens_4 : decode cX12_opens 4 = .ok (.bipush 10, 2) := by decide +kernel
theorem dX12_opens_6 : decode cX12_opens 6 = .ok (.if_icmp .ne 13, 3) := by decide +kernel
theorem dX12_opens_9 : decode cX12_opens 9 = .ok (.aload_n 0, 1) := by decide +kernel
theorem dX12_opens_10 : decode cX12_opens 10 = .ok (.iconst 2, 1) := by decide +kernel
theorem dX12_opens_11 : decode cX12_opens 11 = .ok (.aload_n 0, 1) := by decide +kernel
theorem dX12_opens_12 : decode cX12_opens 12 = .ok (.getfield 99, 3) := by decide +kernel
theorem dX12_opens_15 : decode cX12_opens 15 = .ok (.invokevirtual 120, 3) := by decide +kernel
theorem dX12_opens_18 : decode cX12_opens 18 = .ok (.ireturn, 1) := by decide +kernel
theorem dX12_opens_19 : decode cX12_opens 19 = .ok (.aload_n 0, 1) := by decide +kernel
theorem dX12_opens_20 : decode cX12_opens 20 = .ok (.dup, 1) := by decide +kernel
theorem dX12_opens_21 : decode cX12_opens 21 = .ok (.getfield 159, 3) := by decide +kernel
theorem dX12_opens_24 : decode cX12_opens 24 = .ok (.iconst 1, 1) := by decide +kernel
theorem dX12_opens_25 : decode cX12_opens 25 = .ok (.iadd, 1) := by decide +kernel
theorem dX12_opens_26 : decode cX12_opens 26 = .ok (.putfield 159, 3) := by decide +kernel
theorem dX12_opens_29 : decode cX12_opens 29 = .ok (.aload_n 0, 1) := by decide +kernel
theorem dX12_opens_30 : decode cX12_opens 30 = .ok (.getfield 29, 3) := by decide +kernel
theorem dX12_opens_33 : decode cX12_opens 33 = .ok (.aload_n 0, 1) := by decide +kernel
theorem dX12_opens_34 : decode cX12_opens 34 = .ok (.getfield 162, 3) := by decide +kernel
theorem dX12_opens_37 : decode cX12_opens 37 = .ok (.iload_n 1, 1) := by decide +kernel
theorem dX12_opens_38 : decode cX12_opens 38 = .ok (.iastore, 1) := by decide +kernel
theorem dX12_opens_39 : decode cX12_opens 39 = .ok (.aload_n 0, 1) := by decide +kernel
theorem dX12_opens_40 : decode cX12_opens 40 = .ok (.dup, 1) := by decide +kernel
theorem dX12_opens_41 : decode cX12_opens 41 = .ok (.getfield 162, 3) := by decide +kernel
theorem dX12_opens_44 : decode cX12_opens 44 = .ok (.iconst 1, 1) := by decide +kernel
theorem dX12_opens_45 : decode cX12_opens 45 = .ok (.iadd, 1) := by decide +kernel
theorem dX12_opens_46 : decode cX12_opens 46 = .ok (.putfield 162, 3) := by decide +kernel
theorem dX12_opens_49 : decode cX12_opens 49 = .ok (.iconst 1, 1) := by decide +kernel
theorem dX12_opens_50 : decode cX12_opens 50 = .ok (.ireturn, 1) := by decide +kernel
theorem dX12_strength_0 : decode cX12_strength 0 = .ok (.iload_n 0, 1) := by decide +kernel
theorem dX12_strength_1 : decode cX12_strength 1 = .ok (.bipush 13, 2) := by decide +kernel
theorem dX12_strength_3 : decode cX12_strength 3 = .ok (.if_icmp .ne 7, 3) := by decide +kernel
theorem dX12_strength_6 : decode cX12_strength 6 = .ok (.iconst 1, 1) := by decide +kernel
theorem dX12_strength_7 : decode cX12_strength 7 = .ok (.goto 24, 3) := by decide +kernel
theorem dX12_strength_10 : decode cX12_strength 10 = .ok (.iload_n 0, 1) := by decide +kernel
theorem dX12_strength_11 : decode cX12_strength 11 = .ok (.bipush 12, 2) := by decide +kernel
theorem dX12_strength_13 : decode cX12_strength 13 = .ok (.if_icmp .ne 7, 3) := by decide +kernel
theorem dX12_strength_16 : decode cX12_strength 16 = .ok (.iconst 2, 1) := by decide +kernel
theorem dX12_strength_17 : decode cX12_strength 17 = .ok (.goto 14, 3) := by decide +kernel
theorem dX12_strength_20 : decode cX12_strength 20 = .ok (.iload_n 0, 1) := by decide +kernel
theorem dX12_strength_21 : decode cX12_strength 21 = .ok (.bipush 11, 2) := by decide +kernel
theorem dX12_strength_23 : decode cX12_strength 23 = .ok (.if_icmp .ne 7, 3) := by decide +kernel
theorem dX12_strength_26 : decode cX12_strength 26 = .ok (.iconst 3, 1) := by decide +kernel
theorem dX12_strength_27 : decode cX12_strength 27 = .ok (.goto 4, 3) := by decide +kernel
theorem dX12_strength_30 : decode cX12_strength 30 = .ok (.iconst 0, 1) := by decide +kernel
theorem dX12_strength_31 : decode cX12_strength 31 = .ok (.ireturn, 1) := by decide +kernel
set_option maxRecDepth 20000 in
theorem ggX12_settles_X12_strength : GoodIn wsX12_settles wsX12_strength := goodIn_r _ [7] (by decide +kernel) (by decide +kernel)
set_option maxRecDepth 20000 in
theorem gX12_settles_X12_strength : GoodIn wsX12_settles (va_wsS RX12 165 yX12_strength wsX12_strength) := goodIn_app (goodIn_of _ (by decide +kernel)) ggX12_settles_X12_strength
set_option maxRecDepth 20000 in
theorem ggX12_settles_X12_puts : GoodIn wsX12_settles wsX12_puts := goodIn_r _ [11, 12, 13, 14, 15, 16, 17, 18, 19, 20, 21, 22, 23, 24, 25, 26, 27, 28, 29, 30, 31, 32, 33, 34, 35, 36, 37, 38, 39, 40, 41, 42, 43, 44, 45, 46, 47, 48, 49, 50, 51, 52, 53, 54, 55, 56, 57, 58] (by decide +kernel) (by decide +kernel)
set_option maxRecDepth 20000 in
theorem gX12_settles_X12_puts : GoodIn wsX12_settles (wsV RX12 169 RX12 yX12_puts wsX12_puts) := goodIn_app (goodIn_of _ (by decide +kernel)) ggX12_settles_X12_puts
theorem dX12_settles_0 : decode cX12_settles 0 = .ok (.aload_n 0, 1) := by decide +kernel
theorem dX12_settles_1 : decode cX12_settles 1 = .ok (.getfield 162, 3) := by decide +kernel
theorem dX12_settles_4 : decode cX12_settles 4 = .ok (.ifCond .le 72, 3) := by decide +kernel
theorem dX12_settles_7 : decode cX12_settles 7 = .ok (.aload_n 0, 1) := by decide +kernel
theorem dX12_settles_8 : decode cX12_settles 8 = .ok (.getfield 29, 3) := by decide +kernel
theorem dX12_settles_11 : decode cX12_settles 11 = .ok (.aload_n 0, 1) := by decide +kernel
theorem dX12_settles_12 : decode cX12_settles 12 = .ok (.getfield 162, 3) := by decide +kernel
theorem dX12_settles_15 : decode cX12_settles 15 = .ok (.iconst 1, 1) := by decide +kernel
theorem dX12_settles_16 : decode cX12_settles 16 = .ok (.isub, 1) := by decide +kernel
theorem dX12_settles_17 : decode cX12_settles 17 = .ok (.iaload, 1) := by decide +kernel
theorem dX12_settles_18 : decode cX12_settles 18 = .ok (.invokestatic 165, 3) := by decide +kernel
theorem dX12_settles_21 : decode cX12_settles 21 = .ok (.iload_n 1, 1) := by decide +kernel
theorem dX12_settles_22 : decode cX12_settles 22 = .ok (.if_icmp .lt 54, 3) := by decide +kernel
theorem dX12_settles_25 : decode cX12_settles 25 = .ok (.aload_n 0, 1) := by decide +kernel
theorem dX12_settles_26 : decode cX12_settles 26 = .ok (.dup, 1) := by decide +kernel
theorem dX12_settles_27 : decode cX12_settles 27 = .ok (.getfield 162, 3) := by decide +kernel
theorem dX12_settles_30 : decode cX12_settles 30 = .ok (.iconst 1, 1) := by decide +kernel
theorem dX12_settles_31 : decode cX12_settles 31 = .ok (.isub, 1) := by decide +kernel
theorem dX12_settles_32 : decode cX12_settles 32 = .ok (.putfield 162, 3) := by decide +kernel
theorem dX12_settles_35 : decode cX12_settles 35 = .ok (.aload_n 0, 1) := by decide +kernel
theorem dX12_settles_36 : decode cX12_settles 36 = .ok (.aload_n 0, 1) := by decide +kernel
theorem dX12_settles_37 : decode cX12_settles 37 = .ok (.getfield 29, 3) := by decide +kernel
theorem dX12_settles_40 : decode cX12_settles 40 = .ok (.aload_n 0, 1) := by decide +kernel
theorem dX12_settles_41 : decode cX12_settles 41 = .ok (.getfield 162, 3) := by decide +kernel
theorem dX12_settles_44 : decode cX12_settles 44 = .ok (.iaload, 1) := by decide +kernel
theorem dX12_settles_45 : decode cX12_settles 45 = .ok (.iconst 0, 1) := by decide +kernel
theorem dX12_settles_46 : decode cX12_settles 46 = .ok (.invokevirtual 169, 3) := by decide +kernel
theorem dX12_settles_49 : decode cX12_settles 49 = .ok (.aload_n 0, 1) := by decide +kernel
theorem dX12_settles_50 : decode cX12_settles 50 = .ok (.getfield 29, 3) := by decide +kernel
theorem dX12_settles_53 : decode cX12_settles 53 = .ok (.aload_n 0, 1) := by decide +kernel
theorem dX12_settles_54 : decode cX12_settles 54 = .ok (.getfield 162, 3) := by decide +kernel
theorem dX12_settles_57 : decode cX12_settles 57 = .ok (.iaload, 1) := by decide +kernel
theorem dX12_settles_58 : decode cX12_settles 58 = .ok (.bipush 11, 2) := by decide +kernel
theorem dX12_settles_60 : decode cX12_settles 60 = .ok (.if_icmp .ne (-60), 3) := by decide +kernel
theorem dX12_settles_63 : decode cX12_settles 63 = .ok (.aload_n 0, 1) := by decide +kernel
theorem dX12_settles_64 : decode cX12_settles 64 = .ok (.dup, 1) := by decide +kernel
theorem dX12_settles_65 : decode cX12_settles 65 = .ok (.getfield 159, 3) := by decide +kernel
theorem dX12_settles_68 : decode cX12_settles 68 = .ok (.iconst 1, 1) := by decide +kernel
theorem dX12_settles_69 : decode cX12_settles 69 = .ok (.isub, 1) := by decide +kernel
theorem dX12_settles_70 : decode cX12_settles 70 = .ok (.putfield 159, 3) := by decide +kernel
theorem dX12_settles_73 : decode cX12_settles 73 = .ok (.goto (-73), 3) := by decide +kernel
theorem dX12_settles_76 : decode cX12_settles 76 = .ok (.return_, 1) := by decide +kernel
set_option maxRecDepth 20000 in
theorem ggX12_value_X12_see : GoodIn wsX12_value wsX12_see := goodIn_r _ [8, 1, 9, 10, 66, 67, 68, 69, 70, 71, 72, 73, 74, 75, 76, 77, 78, 79, 80, 81, 82, 83, 84, 85, 86, 87, 88, 89, 90, 91, 92, 93, 94, 95, 96, 97, 98, 99, 100, 101, 102, 103, 104, 105, 106, 107, 108, 109] (by decide +kernel) (by decide +kernel)
set_option maxRecDepth 20000 in
theorem gX12_value_X12_see : GoodIn wsX12_value (wsV RX12 102 RX12 yX12_see wsX12_see) := goodIn_app (goodIn_of _ (by decide +kernel)) ggX12_value_X12_see
set_option maxRecDepth 20000 in
theorem ggX12_value_X12_isDigit : GoodIn wsX12_value wsX12_isDigit := goodIn_r _ [14, 9, 10, 66, 67, 68, 69, 70, 71, 72, 73, 74, 75, 76, 77, 78, 79, 80, 81, 82, 83, 84, 85, 86, 87, 88, 89, 90, 91, 92, 93, 94, 95, 96, 97, 98, 99, 100, 101, 102, 103, 104, 105, 106, 107, 108, 109] (by decide +kernel) (by decide +kernel)
set_option maxRecDepth 20000 in
theorem gX12_value_X12_isDigit : GoodIn wsX12_value (wsV RX12 117 RX12 yX12_isDigit wsX12_isDigit) := goodIn_app (goodIn_of _ (by decide +kernel)) ggX12_value_X12_isDigit
set_option maxRecDepth 20000 in
theorem ggX12_value_X12_numberHere : GoodIn wsX12_value wsX12_numberHere := goodIn_r _ [18, 1, 10, 3, 4, 5, 6, 7, 8, 9, 11, 12, 13, 14, 19, 20, 21, 22, 23, 24, 25, 26, 66, 67, 68, 69, 70, 71, 72, 73, 74, 75, 76, 77, 78, 79, 80, 81, 82, 83, 84, 85, 86, 87, 88, 89, 90, 91, 92, 93, 94, 95, 96, 97, 98, 99, 100, 101, 102, 103, 104, 105, 106, 107, 108, 109] (by decide +kernel) (by decide +kernel)
set_option maxRecDepth 20000 in
theorem gX12_value_X12_numberHere : GoodIn wsX12_value (wsV RX12 174 RX12 yX12_numberHere wsX12_numberHere) := goodIn_app (goodIn_of _ (by decide +kernel)) ggX12_value_X12_numberHere
set_option maxRecDepth 20000 in
theorem ggX12_value_X12_makes : GoodIn wsX12_value wsX12_makes := goodIn_r _ [30, 31, 19, 20, 21, 7, 22, 23, 66, 67, 68, 69, 70, 71, 72, 73, 74, 75, 76, 77, 78, 79, 80, 81, 82, 83, 84, 85, 86, 87, 88, 89, 90, 91, 92, 93, 94, 95, 96, 97, 98, 99, 100, 101, 102, 103, 104, 105, 106, 107, 108, 109] (by decide +kernel) (by decide +kernel)
set_option maxRecDepth 20000 in
theorem gX12_value_X12_makes : GoodIn wsX12_value (wsV RX12 177 RX12 yX12_makes wsX12_makes) := goodIn_app (goodIn_of _ (by decide +kernel)) ggX12_value_X12_makes
set_option maxRecDepth 20000 in
theorem ggX12_value_X12_puts : GoodIn wsX12_value wsX12_puts := goodIn_r _ [35, 36, 37, 38, 66, 67, 68, 69, 70, 71, 72, 73, 74, 75, 76, 77, 78, 79, 80, 81, 82, 83, 84, 85, 86, 87, 88, 89, 90, 91, 92, 93, 94, 95, 96, 97, 98, 99, 100, 101, 102, 103, 104, 105, 106, 107, 108, 109] (by decide +kernel) (by decide +kernel)
set_option maxRecDepth 20000 in
theorem gX12_value_X12_puts : GoodIn wsX12_value (wsV RX12 169 RX12 yX12_puts wsX12_puts) := goodIn_app (goodIn_of _ (by decide +kernel)) ggX12_value_X12_puts
set_option maxRecDepth 20000 in
theorem ggX12_value_X12_wordHere : GoodIn wsX12_value wsX12_wordHere := goodIn_r _ [42, 43, 44, 45, 46, 47, 48, 49, 50, 51, 52, 53, 54, 55, 56, 7, 57, 1, 10, 4, 5, 6, 8, 9, 58, 59, 60, 61, 66, 67, 68, 69, 70, 71, 72, 73, 74, 75, 76, 77, 78, 79, 80, 81, 82, 83, 84, 85, 86, 87, 88, 89, 90, 91, 92, 93, 94, 95, 96, 97, 98, 99, 100, 101, 102, 103, 104, 105, 106, 107, 108, 109] (by decide +kernel) (by decide +kernel)
set_option maxRecDepth 20000 in
theorem gX12_value_X12_wordHere : GoodIn wsX12_value (wsV RX12 180 RX12 yX12_wordHere wsX12_wordHere) := goodIn_app (goodIn_of _ (by decide +kernel)) ggX12_value_X12_wordHere
set_option maxRecDepth 20000 in
theorem ggX12_value_X12_fails : GoodIn wsX12_value wsX12_fails := goodIn_r _ [22, 23, 66, 67, 68, 69, 70, 71, 72, 73, 74, 75, 76, 77, 78, 79, 80, 81, 82, 83, 84, 85, 86, 87, 88, 89, 90, 91, 92, 93, 94, 95, 96, 97, 98, 99, 100, 101, 102, 103, 104, 105, 106, 107, 108, 109] (by decide +kernel) (by decide +kernel)
set_option maxRecDepth 20000 in
theorem gX12_value_X12_fails : GoodIn wsX12_value (wsV RX12 120 RX12 yX12_fails wsX12_fails) := goodIn_app (goodIn_of _ (by decide +kernel)) ggX12_value_X12_fails
set_option maxRecDepth 20000 in
theorem ggX12_value_X12_passWord : GoodIn wsX12_value wsX12_passWord := goodIn_r _ [65, 1, 58, 59, 60, 7, 61, 9, 10, 66, 67, 68, 69, 70, 71, 72, 73, 74, 75, 76, 77, 78, 79, 80, 81, 82, 83, 84, 85, 86, 87, 88, 89, 90, 91, 92, 93, 94, 95, 96, 97, 98, 99, 100, 101, 102, 103, 104, 105, 106, 107, 108, 109] (by decide +kernel) (by decide +kernel)
set_option maxRecDepth 20000 in
theorem gX12_value_X12_passWord : GoodIn wsX12_value (wsV RX12 114 RX12 yX12_passWord wsX12_passWord) := goodIn_app (goodIn_of _ (by decide +kernel)) ggX12_value_X12_passWord
theorem dX12_value_0 : decode cX12_value 0 = .ok (.aload_n 0, 1) := by decide +kernel
theorem dX12_value_1 : decode cX12_value 1 = .ok (.invokevirtual 102, 3) := by decide +kernel
theorem dX12_value_4 : decode cX12_value 4 = .ok (.pop, 1) := by decide +kernel
theorem dX12_value_5 : decode cX12_value 5 = .ok (.aload_n 0, 1) := by decide +kernel
theorem dX12_value_6 : decode cX12_value 6 = .ok (.getfield 99, 3) := by decide +kernel
theorem dX12_value_9 : decode cX12_value 9 = .ok (.istore_n 1, 1) := by decide +kernel
theorem dX12_value_10 : decode cX12_value 10 = .ok (.aload_n 0, 1) := by decide +kernel
theorem dX12_value_11 : decode cX12_value 11 = .ok (.aload_n 0, 1) := by decide +kernel
theorem dX12_value_12 : decode cX12_value 12 = .ok (.getfield 99, 3) := by decide +kernel
theorem dX12_value_15 : decode cX12_value 15 = .ok (.invokevirtual 117, 3) := by decide +kernel
theorem dX12_value_18 : decode cX12_value 18 = .ok (.ifCond .eq 34, 3) := by decide +kernel
theorem dX12_value_21 : decode cX12_value 21 = .ok (.aload_n 0, 1) := by decide +kernel
theorem dX12_value_22 : decode cX12_value 22 = .ok (.iconst 0, 1) := by decide +kernel
theorem dX12_value_23 : decode cX12_value 23 = .ok (.ldc 173, 2) := by decide +kernel
theorem dX12_value_25 : decode cX12_value 25 = .ok (.invokevirtual 174, 3) := by decide +kernel
theorem dX12_value_28 : decode cX12_value 28 = .ok (.ifCond .eq 11, 3) := by decide +kernel
theorem dX12_value_31 : decode cX12_value 31 = .ok (.aload_n 0, 1) := by decide +kernel
theorem dX12_value_32 : decode cX12_value 32 = .ok (.iload_n 1, 1) := by decide +kernel
theorem dX12_value_33 : decode cX12_value 33 = .ok (.invokevirtual 177, 3) := by decide +kernel
theorem dX12_value_36 : decode cX12_value 36 = .ok (.ifCond .ne 5, 3) := by decide +kernel
theorem dX12_value_39 : decode cX12_value 39 = .ok (.iconst 0, 1) := by decide +kernel
theorem dX12_value_40 : decode cX12_value 40 = .ok (.ireturn, 1) := by decide +kernel
theorem dX12_value_41 : decode cX12_value 41 = .ok (.aload_n 0, 1) := by decide +kernel
theorem dX12_value_42 : decode cX12_value 42 = .ok (.iconst 0, 1) := by decide +kernel
theorem dX12_value_43 : decode cX12_value 43 = .ok (.aload_n 0, 1) := by decide +kernel
theorem dX12_value_44 : decode cX12_value 44 = .ok (.getfield 124, 3) := by decide +kernel
theorem dX12_value_47 : decode cX12_value 47 = .ok (.invokevirtual 169, 3) := by decide +kernel
theorem dX12_value_50 : decode cX12_value 50 = .ok (.iconst 1, 1) := by decide +kernel
theorem dX12_value_51 : decode cX12_value 51 = .ok (.ireturn, 1) := by decide +kernel
theorem dX12_value_52 : decode cX12_value 52 = .ok (.aload_n 0, 1) := by decide +kernel
theorem dX12_value_53 : decode cX12_value 53 = .ok (.invokevirtual 180, 3) := by decide +kernel
theorem dX12_value_56 : decode cX12_value 56 = .ok (.istore_n 2, 1) := by decide +kernel
theorem dX12_value_57 : decode cX12_value 57 = .ok (.iload_n 2, 1) := by decide +kernel
theorem dX12_value_58 : decode cX12_value 58 = .ok (.ifCond .ge 10, 3) := by decide +kernel
theorem dX12_value_61 : decode cX12_value 61 = .ok (.aload_n 0, 1) := by decide +kernel
theorem dX12_value_62 : decode cX12_value 62 = .ok (.iconst 0, 1) := by decide +kernel
theorem dX12_value_63 : decode cX12_value 63 = .ok (.iload_n 1, 1) := by decide +kernel
theorem dX12_value_64 : decode cX12_value 64 = .ok (.invokevirtual 120, 3) := by decide +kernel
theorem dX12_value_67 : decode cX12_value 67 = .ok (.ireturn, 1) := by decide +kernel
theorem dX12_value_68 : decode cX12_value 68 = .ok (.aload_n 0, 1) := by decide +kernel
theorem dX12_value_69 : decode cX12_value 69 = .ok (.iload_n 1, 1) := by decide +kernel
theorem dX12_value_70 : decode cX12_value 70 = .ok (.invokevirtual 177, 3) := by decide +kernel
theorem dX12_value_73 : decode cX12_value 73 = .ok (.ifCond .ne 5, 3) := by decide +kernel
theorem dX12_value_76 : decode cX12_value 76 = .ok (.iconst 0, 1) := by decide +kernel
theorem dX12_value_77 : decode cX12_value 77 = .ok (.ireturn, 1) := by decide +kernel
theorem dX12_value_78 : decode cX12_value 78 = .ok (.aload_n 0, 1) := by decide +kernel
theorem dX12_value_79 : decode cX12_value 79 = .ok (.invokevirtual 114, 3) := by decide +kernel
theorem dX12_value_82 : decode cX12_value 82 = .ok (.aload_n 0, 1) := by decide +kernel
theorem dX12_value_83 : decode cX12_value 83 = .ok (.iconst 1, 1) := by decide +kernel
theorem dX12_value_84 : decode cX12_value 84 = .ok (.iload_n 2, 1) := by decide +kernel
theorem dX12_value_85 : decode cX12_value 85 = .ok (.invokevirtual 169, 3) := by decide +kernel
theorem dX12_value_88 : decode cX12_value 88 = .ok (.iconst 1, 1) := by decide +kernel
theorem dX12_value_89 : decode cX12_value 89 = .ok (.ireturn, 1) := by decide +kernel
set_option maxRecDepth 20000 in
theorem ggX12_term_X12_value : GoodIn wsX12_term wsX12_value := goodIn_r _ [7, 2, 8, 9, 10, 11, 12, 6, 13, 14, 1, 15, 16, 17, 18, 19, 20, 21, 22, 23, 24, 25, 26, 27, 28, 29, 30, 31, 32, 33, 34, 35, 36, 37, 38, 39, 40, 41, 42, 43, 44, 45, 46, 47, 48, 49, 50, 51, 52, 53, 54, 55, 56, 57, 58, 59, 60, 61, 62, 63, 64, 65, 66, 67, 68, 69, 70, 71, 72, 73, 74, 75, 76, 77, 78, 79, 80, 81, 82, 83, 84, 85, 86, 87, 88, 89, 90, 91, 92, 93, 94, 95, 96, 97, 98, 99, 100, 101, 102, 103, 104, 105, 106, 107, 108, 109, 110, 111, 112, 113] (by decide +kernel) (by decide +kernel)
set_option maxRecDepth 20000 in
theorem gX12_term_X12_value : GoodIn wsX12_term (wsV RX12 183 RX12 yX12_value wsX12_value) := goodIn_app (goodIn_of _ (by decide +kernel)) ggX12_term_X12_value
set_option maxRecDepth 20000 in
theorem ggX12_term_X12_see : GoodIn wsX12_term wsX12_see := goodIn_r _ [13, 2, 14, 1, 70, 71, 72, 73, 74, 75, 76, 77, 78, 79, 80, 81, 82, 83, 84, 85, 86, 87, 88, 89, 90, 91, 92, 93, 94, 95, 96, 97, 98, 99, 100, 101, 102, 103, 104, 105, 106, 107, 108, 109, 110, 111, 112, 113] (by decide +kernel) (by decide +kernel)
set_option maxRecDepth 20000 in
theorem gX12_term_X12_see : GoodIn wsX12_term (wsV RX12 102 RX12 yX12_see wsX12_see) := goodIn_app (goodIn_of _ (by decide +kernel)) ggX12_term_X12_see
set_option maxRecDepth 20000 in
theorem ggX12_term_X12_puts : GoodIn wsX12_term wsX12_puts := goodIn_r _ [39, 40, 41, 42, 70, 71, 72, 73, 74, 75, 76, 77, 78, 79, 80, 81, 82, 83, 84, 85, 86, 87, 88, 89, 90, 91, 92, 93, 94, 95, 96, 97, 98, 99, 100, 101, 102, 103, 104, 105, 106, 107, 108, 109, 110, 111, 112, 113] (by decide +kernel) (by decide +kernel)
set_option maxRecDepth 20000 in
theorem gX12_term_X12_puts : GoodIn wsX12_term (wsV RX12 169 RX12 yX12_puts wsX12_puts) := goodIn_app (goodIn_of _ (by decide +kernel)) ggX12_term_X12_puts
theorem dX12_term_0 : decode cX12_term 0 = .ok (.aload_n 0, 1) := by decide +kernel
theorem dX12_term_1 : decode cX12_term 1 = .ok (.invokevirtual 183, 3) := by decide +kernel
theorem dX12_term_4 : decode cX12_term 4 = .ok (.ifCond .ne 5, 3) := by decide +kernel
theorem dX12_term_7 : decode cX12_term 7 = .ok (.iconst 0, 1) := by decide +kernel
theorem dX12_term_8 : decode cX12_term 8 = .ok (.ireturn, 1) := by decide +kernel
theorem dX12_term_9 : decode cX12_term 9 = .ok (.aload_n 0, 1) := by decide +kernel
theorem dX12_term_10 : decode cX12_term 10 = .ok (.invokevirtual 102, 3) := by decide +kernel
theorem dX12_term_13 : decode cX12_term 13 = .ok (.bipush 42, 2) := by decide +kernel
theorem dX12_term_15 : decode cX12_term 15 = .ok (.if_icmp .eq 21, 3) := by decide +kernel
theorem dX12_term_18 : decode cX12_term 18 = .ok (.aload_n 0, 1) := by decide +kernel
theorem dX12_term_19 : decode cX12_term 19 = .ok (.invokevirtual 102, 3) := by decide +kernel
theorem dX12_term_22 : decode cX12_term 22 = .ok (.bipush 47, 2) := by decide +kernel
theorem dX12_term_24 : decode cX12_term 24 = .ok (.if_icmp .eq 12, 3) := by decide +kernel
theorem dX12_term_27 : decode cX12_term 27 = .ok (.aload_n 0, 1) := by decide +kernel
theorem dX12_term_28 : decode cX12_term 28 = .ok (.invokevirtual 102, 3) := by decide +kernel
theorem dX12_term_31 : decode cX12_term 31 = .ok (.bipush 37, 2) := by decide +kernel
theorem dX12_term_33 : decode cX12_term 33 = .ok (.if_icmp .ne 70, 3) := by decide +kernel
theorem dX12_term_36 : decode cX12_term 36 = .ok (.aload_n 0, 1) := by decide +kernel
theorem dX12_term_37 : decode cX12_term 37 = .ok (.getfield 7, 3) := by decide +kernel
theorem dX12_term_40 : decode cX12_term 40 = .ok (.aload_n 0, 1) := by decide +kernel
theorem dX12_term_41 : decode cX12_term 41 = .ok (.getfield 99, 3) := by decide +kernel
theorem dX12_term_44 : decode cX12_term 44 = .ok (.baload, 1) := by decide +kernel
theorem dX12_term_45 : decode cX12_term 45 = .ok (.bipush 42, 2) := by decide +kernel
theorem dX12_term_47 : decode cX12_term 47 = .ok (.if_icmp .ne 7, 3) := by decide +kernel
theorem dX12_term_50 : decode cX12_term 50 = .ok (.iconst 4, 1) := by decide +kernel
theorem dX12_term_51 : decode cX12_term 51 = .ok (.goto 23, 3) := by decide +kernel
theorem dX12_term_54 : decode cX12_term 54 = .ok (.aload_n 0, 1) := by decide +kernel
theorem dX12_term_55 : decode cX12_term 55 = .ok (.getfield 7, 3) := by decide +kernel
theorem dX12_term_58 : decode cX12_term 58 = .ok (.aload_n 0, 1) := by decide +kernel
theorem dX12_term_59 : decode cX12_term 59 = .ok (.getfield 99, 3) := by decide +kernel
theorem dX12_term_62 : decode cX12_term 62 = .ok (.baload, 1) := by decide +kernel
theorem dX12_term_63 : decode cX12_term 63 = .ok (.bipush 47, 2) := by decide +kernel
theorem dX12_term_65 : decode cX12_term 65 = .ok (.if_icmp .ne 7, 3) := by decide +kernel
theorem dX12_term_68 : decode cX12_term 68 = .ok (.iconst 5, 1) := by decide +kernel
theorem dX12_term_69 : decode cX12_term 69 = .ok (.goto 5, 3) := by decide +kernel
theorem dX12_term_72 : decode cX12_term 72 = .ok (.bipush 14, 2) := by decide +kernel
theorem dX12_term_74 : decode cX12_term 74 = .ok (.istore_n 1, 1) := by decide +kernel
theorem dX12_term_75 : decode cX12_term 75 = .ok (.aload_n 0, 1) := by decide +kernel
theorem dX12_term_76 : decode cX12_term 76 = .ok (.dup, 1) := by decide +kernel
theorem dX12_term_77 : decode cX12_term 77 = .ok (.getfield 99, 3) := by decide +kernel
theorem dX12_term_80 : decode cX12_term 80 = .ok (.iconst 1, 1) := by decide +kernel
theorem dX12_term_81 : decode cX12_term 81 = .ok (.iadd, 1) := by decide +kernel
theorem dX12_term_82 : decode cX12_term 82 = .ok (.putfield 99, 3) := by decide +kernel
theorem dX12_term_85 : decode cX12_term 85 = .ok (.aload_n 0, 1) := by decide +kernel
theorem dX12_term_86 : decode cX12_term 86 = .ok (.invokevirtual 183, 3) := by decide +kernel
theorem dX12_term_89 : decode cX12_term 89 = .ok (.ifCond .ne 5, 3) := by decide +kernel
theorem dX12_term_92 : decode cX12_term 92 = .ok (.iconst 0, 1) := by decide +kernel
theorem dX12_term_93 : decode cX12_term 93 = .ok (.ireturn, 1) := by decide +kernel
theorem dX12_term_94 : decode cX12_term 94 = .ok (.aload_n 0, 1) := by decide +kernel
theorem dX12_term_95 : decode cX12_term 95 = .ok (.iload_n 1, 1) := by decide +kernel
theorem dX12_term_96 : decode cX12_term 96 = .ok (.iconst 0, 1) := by decide +kernel
theorem dX12_term_97 : decode cX12_term 97 = .ok (.invokevirtual 169, 3) := by decide +kernel
theorem dX12_term_100 : decode cX12_term 100 = .ok (.goto (-91), 3) := by decide +kernel
theorem dX12_term_103 : decode cX12_term 103 = .ok (.iconst 1, 1) := by decide +kernel
theorem dX12_term_104 : decode cX12_term 104 = .ok (.ireturn, 1) := by decide +kernel
set_option maxRecDepth 20000 in
theorem ggX12_summed_X12_term : GoodIn wsX12_summed wsX12_term := goodIn_r _ [7, 1, 2, 8, 9, 10, 6, 11, 12, 13, 14, 15, 16, 17, 18, 19, 20, 21, 22, 23, 24, 25, 26, 27, 28, 29, 30, 31, 32, 33, 34, 35, 36, 37, 38, 39, 40, 41, 42, 43, 44, 45, 46, 47, 48, 49, 50, 51, 52, 53, 54, 55, 56, 57, 58, 59, 60, 61, 62, 63, 64, 65, 66, 67, 68, 69, 70, 71, 72, 73, 74, 75, 76, 77, 78, 79, 80, 81, 82, 83, 84, 85, 86, 87, 88, 89, 90, 91, 92, 93, 94, 95, 96, 97, 98, 99, 100, 101, 102, 103, 104, 105, 106, 107, 108, 109, 110, 111, 112, 113, 114, 115, 116, 117] (by decide +kernel) (by decide +kernel)
set_option maxRecDepth 20000 in
theorem gX12_summed_X12_term : GoodIn wsX12_summed (wsV RX12 187 RX12 yX12_term wsX12_term) := goodIn_app (goodIn_of _ (by decide +kernel)) ggX12_summed_X12_term
set_option maxRecDepth 20000 in
theorem ggX12_summed_X12_see : GoodIn wsX12_summed wsX12_see := goodIn_r _ [17, 2, 18, 1, 74, 75, 76, 77, 78, 79, 80, 81, 82, 83, 84, 85, 86, 87, 88, 89, 90, 91, 92, 93, 94, 95, 96, 97, 98, 99, 100, 101, 102, 103, 104, 105, 106, 107, 108, 109, 110, 111, 112, 113, 114, 115, 116, 117] (by decide +kernel) (by decide +kernel)
set_option maxRecDepth 20000 in
theorem gX12_summed_X12_see : GoodIn wsX12_summed (wsV RX12 102 RX12 yX12_see wsX12_see) := goodIn_app (goodIn_of _ (by decide +kernel)) ggX12_summed_X12_see
set_option maxRecDepth 20000 in
theorem ggX12_summed_X12_puts : GoodIn wsX12_summed wsX12_puts := goodIn_r _ [43, 44, 45, 46, 74, 75, 76, 77, 78, 79, 80, 81, 82, 83, 84, 85, 86, 87, 88, 89, 90, 91, 92, 93, 94, 95, 96, 97, 98, 99, 100, 101, 102, 103, 104, 105, 106, 107, 108, 109, 110, 111, 112, 113, 114, 115, 116, 117] (by decide +kernel) (by decide +kernel)
set_option maxRecDepth 20000 in
theorem gX12_summed_X12_puts : GoodIn wsX12_summed (wsV RX12 169 RX12 yX12_puts wsX12_puts) := goodIn_app (goodIn_of _ (by decide +kernel)) ggX12_summed_X12_puts
theorem dX12_summed_0 : decode cX12_summed 0 = .ok (.aload_n 0, 1) := by decide +kernel
theorem dX12_summed_1 : decode cX12_summed 1 = .ok (.invokevirtual 187, 3) := by decide +kernel
theorem dX12_summed_4 : decode cX12_summed 4 = .ok (.ifCond .ne 5, 3) := by decide +kernel
theorem dX12_summed_7 : decode cX12_summed 7 = .ok (.iconst 0, 1) := by decide +kernel
theorem dX12_summed_8 : decode cX12_summed 8 = .ok (.ireturn, 1) := by decide +kernel
theorem dX12_summed_9 : decode cX12_summed 9 = .ok (.aload_n 0, 1) := by decide +kernel
theorem dX12_summed_10 : decode cX12_summed 10 = .ok (.invokevirtual 102, 3) := by decide +kernel
theorem dX12_summed_13 : decode cX12_summed 13 = .ok (.bipush 43, 2) := by decide +kernel
theorem dX12_summed_15 : decode cX12_summed 15 = .ok (.if_icmp .eq 12, 3) := by decide +kernel
theorem dX12_summed_18 : decode cX12_summed 18 = .ok (.aload_n 0, 1) := by decide +kernel
theorem dX12_summed_19 : decode cX12_summed 19 = .ok (.invokevirtual 102, 3) := by decide +kernel
theorem dX12_summed_22 : decode cX12_summed 22 = .ok (.bipush 45, 2) := by decide +kernel
theorem dX12_summed_24 : decode cX12_summed 24 = .ok (.if_icmp .ne 51, 3) := by decide +kernel
theorem dX12_summed_27 : decode cX12_summed 27 = .ok (.aload_n 0, 1) := by decide +kernel
theorem dX12_summed_28 : decode cX12_summed 28 = .ok (.getfield 7, 3) := by decide +kernel
theorem dX12_summed_31 : decode cX12_summed 31 = .ok (.aload_n 0, 1) := by decide +kernel
theorem dX12_summed_32 : decode cX12_summed 32 = .ok (.getfield 99, 3) := by decide +kernel
theorem dX12_summed_35 : decode cX12_summed 35 = .ok (.baload, 1) := by decide +kernel
theorem dX12_summed_36 : decode cX12_summed 36 = .ok (.bipush 43, 2) := by decide +kernel
theorem dX12_summed_38 : decode cX12_summed 38 = .ok (.if_icmp .ne 7, 3) := by decide +kernel
theorem dX12_summed_41 : decode cX12_summed 41 = .ok (.iconst 2, 1) := by decide +kernel
theorem dX12_summed_42 : decode cX12_summed 42 = .ok (.goto 4, 3) := by decide +kernel
theorem dX12_summed_45 : decode cX12_summed 45 = .ok (.iconst 3, 1) := by decide +kernel
theorem dX12_summed_46 : decode cX12_summed 46 = .ok (.istore_n 1, 1) := by decide +kernel
theorem dX12_summed_47 : decode cX12_summed 47 = .ok (.aload_n 0, 1) := by decide +kernel
theorem dX12_summed_48 : decode cX12_summed 48 = .ok (.dup, 1) := by decide +kernel
theorem dX12_summed_49 : decode cX12_summed 49 = .ok (.getfield 99, 3) := by decide +kernel
theorem dX12_summed_52 : decode cX12_summed 52 = .ok (.iconst 1, 1) := by decide +kernel
theorem dX12_summed_53 : decode cX12_summed 53 = .ok (.iadd, 1) := by decide +kernel
theorem dX12_summed_54 : decode cX12_summed 54 = .ok (.putfield 99, 3) := by decide +kernel
theorem dX12_summed_57 : decode cX12_summed 57 = .ok (.aload_n 0, 1) := by decide +kernel
theorem dX12_summed_58 : decode cX12_summed 58 = .ok (.invokevirtual 187, 3) := by decide +kernel
theorem dX12_summed_61 : decode cX12_summed 61 = .ok (.ifCond .ne 5, 3) := by decide +kernel
theorem dX12_summed_64 : decode cX12_summed 64 = .ok (.iconst 0, 1) := by decide +kernel
theorem dX12_summed_65 : decode cX12_summed 65 = .ok (.ireturn, 1) := by decide +kernel
theorem dX12_summed_66 : decode cX12_summed 66 = .ok (.aload_n 0, 1) := by decide +kernel
theorem dX12_summed_67 : decode cX12_summed 67 = .ok (.iload_n 1, 1) := by decide +kernel
theorem dX12_summed_68 : decode cX12_summed 68 = .ok (.iconst 0, 1) := by decide +kernel
theorem dX12_summed_69 : decode cX12_summed 69 = .ok (.invokevirtual 169, 3) := by decide +kernel
theorem dX12_summed_72 : decode cX12_summed 72 = .ok (.goto (-63), 3) := by decide +kernel
theorem dX12_summed_75 : decode cX12_summed 75 = .ok (.iconst 1, 1) := by decide +kernel
theorem dX12_summed_76 : decode cX12_summed 76 = .ok (.ireturn, 1) := by decide +kernel
set_option maxRecDepth 20000 in
theorem ggX12_compare_X12_summed : GoodIn wsX12_compare wsX12_summed := goodIn_r _ [8, 3, 1, 9, 10, 11, 7, 12, 13, 14, 15, 16, 17, 18, 19, 20, 21, 22, 2, 23, 24, 25, 26, 27, 28, 29, 30, 31, 32, 33, 34, 35, 36, 37, 38, 39, 40, 41, 42, 43, 44, 45, 46, 47, 48, 49, 50, 51, 52, 53, 54, 55, 56, 57, 58, 59, 60, 61, 62, 63, 64, 65, 66, 67, 68, 69, 70, 71, 72, 73, 74, 75, 76, 77, 78, 79, 80, 81, 82, 83, 84, 85, 86, 87, 88, 89, 90, 91, 92, 93, 94, 95, 96, 97, 98, 99, 100, 101, 102, 103, 104, 105, 106, 107, 108, 109, 110, 111, 112, 113, 114, 115, 116, 117, 118, 119, 120, 121] (by decide +kernel) (by decide +kernel)
set_option maxRecDepth 20000 in
theorem gX12_compare_X12_summed : GoodIn wsX12_compare (wsV RX12 190 RX12 yX12_summed wsX12_summed) := goodIn_app (goodIn_of _ (by decide +kernel)) ggX12_compare_X12_summed
set_option maxRecDepth 20000 in
theorem ggX12_compare_X12_see : GoodIn wsX12_compare wsX12_see := goodIn_r _ [22, 1, 2, 3, 78, 79, 80, 81, 82, 83, 84, 85, 86, 87, 88, 89, 90, 91, 92, 93, 94, 95, 96, 97, 98, 99, 100, 101, 102, 103, 104, 105, 106, 107, 108, 109, 110, 111, 112, 113, 114, 115, 116, 117, 118, 119, 120, 121] (by decide +kernel) (by decide +kernel)
set_option maxRecDepth 20000 in
theorem gX12_compare_X12_see : GoodIn wsX12_compare (wsV RX12 102 RX12 yX12_see wsX12_see) := goodIn_app (goodIn_of _ (by decide +kernel)) ggX12_compare_X12_see
set_option maxRecDepth 20000 in
theorem ggX12_compare_X12_fails : GoodIn wsX12_compare wsX12_fails := goodIn_r _ [34, 35, 78, 79, 80, 81, 82, 83, 84, 85, 86, 87, 88, 89, 90, 91, 92, 93, 94, 95, 96, 97, 98, 99, 100, 101, 102, 103, 104, 105, 106, 107, 108, 109, 110, 111, 112, 113, 114, 115, 116, 117, 118, 119, 120, 121] (by decide +kernel) (by decide +kernel)
set_option maxRecDepth 20000 in
theorem gX12_compare_X12_fails : GoodIn wsX12_compare (wsV RX12 120 RX12 yX12_fails wsX12_fails) := goodIn_app (goodIn_of _ (by decide +kernel)) ggX12_compare_X12_fails
set_option maxRecDepth 20000 in
theorem ggX12_compare_X12_makes : GoodIn wsX12_compare wsX12_makes := goodIn_r _ [42, 43, 31, 32, 33, 7, 34, 35, 78, 79, 80, 81, 82, 83, 84, 85, 86, 87, 88, 89, 90, 91, 92, 93, 94, 95, 96, 97, 98, 99, 100, 101, 102, 103, 104, 105, 106, 107, 108, 109, 110, 111, 112, 113, 114, 115, 116, 117, 118, 119, 120, 121] (by decide +kernel) (by decide +kernel)
set_option maxRecDepth 20000 in
theorem gX12_compare_X12_makes : GoodIn wsX12_compare (wsV RX12 177 RX12 yX12_makes wsX12_makes) := goodIn_app (goodIn_of _ (by decide +kernel)) ggX12_compare_X12_makes
set_option maxRecDepth 20000 in
theorem ggX12_compare_X12_puts : GoodIn wsX12_compare wsX12_puts := goodIn_r _ [47, 48, 49, 50, 78, 79, 80, 81, 82, 83, 84, 85, 86, 87, 88, 89, 90, 91, 92, 93, 94, 95, 96, 97, 98, 99, 100, 101, 102, 103, 104, 105, 106, 107, 108, 109, 110, 111, 112, 113, 114, 115, 116, 117, 118, 119, 120, 121] (by decide +kernel) (by decide +kernel)
set_option maxRecDepth 20000 in
theorem gX12_compare_X12_puts : GoodIn wsX12_compare (wsV RX12 169 RX12 yX12_puts wsX12_puts) := goodIn_app (goodIn_of _ (by decide +kernel)) ggX12_compare_X12_puts
theorem dX12_compare_0 : decode cX12_compare 0 = .ok (.aload_n 0, 1) := by decide +kernel
theorem dX12_compare_1 : decode cX12_compare 1 = .ok (.invokevirtual 190, 3) := by decide +kernel
theorem dX12_compare_4 : decode cX12_compare 4 = .ok (.ifCond .ne 5, 3) := by decide +kernel
theorem dX12_compare_7 : decode cX12_compare 7 = .ok (.iconst 0, 1) := by decide +kernel
theorem dX12_compare_8 : decode cX12_compare 8 = .ok (.ireturn, 1) := by decide +kernel
theorem dX12_compare_9 : decode cX12_compare 9 = .ok (.aload_n 0, 1) := by decide +kernel
theorem dX12_compare_10 : decode cX12_compare 10 = .ok (.invokevirtual 102, 3) := by decide +kernel
theorem dX12_compare_13 : decode cX12_compare 13 = .ok (.istore_n 1, 1) := by decide +kernel
theorem dX12_compare_14 : decode cX12_compare 14 = .ok (.aload_n 0, 1) := by decide +kernel
theorem dX12_compare_15 : decode cX12_compare 15 = .ok (.getfield 99, 3) := by decide +kernel
theorem dX12_compare_18 : decode cX12_compare 18 = .ok (.istore_n 2, 1) := by decide +kernel
theorem dX12_compare_19 : decode cX12_compare 19 = .ok (.iload_n 1, 1) := by decide +kernel
theorem dX12_compare_20 : decode cX12_compare 20 = .ok (.bipush 60, 2) := by decide +kernel
theorem dX12_compare_22 : decode cX12_compare 22 = .ok (.if_icmp .eq 22, 3) := by decide +kernel
theorem dX12_compare_25 : decode cX12_compare 25 = .ok (.iload_n 1, 1) := by decide +kernel
theorem dX12_compare_26 : decode cX12_compare 26 = .ok (.bipush 61, 2) := by decide +kernel
theorem dX12_compare_28 : decode cX12_compare 28 = .ok (.if_icmp .eq 16, 3) := by decide +kernel
theorem dX12_compare_31 : decode cX12_compare 31 = .ok (.iload_n 1, 1) := by decide +kernel
theorem dX12_compare_32 : decode cX12_compare 32 = .ok (.bipush 62, 2) := by decide +kernel
theorem dX12_compare_34 : decode cX12_compare 34 = .ok (.if_icmp .eq 10, 3) := by decide +kernel
theorem dX12_compare_37 : decode cX12_compare 37 = .ok (.aload_n 0, 1) := by decide +kernel
theorem dX12_compare_38 : decode cX12_compare 38 = .ok (.iconst 0, 1) := by decide +kernel
theorem dX12_compare_39 : decode cX12_compare 39 = .ok (.iload_n 2, 1) := by decide +kernel
theorem dX12_compare_40 : decode cX12_compare 40 = .ok (.invokevirtual 120, 3) := by decide +kernel
theorem dX12_compare_43 : decode cX12_compare 43 = .ok (.ireturn, 1) := by decide +kernel
theorem dX12_compare_44 : decode cX12_compare 44 = .ok (.aload_n 0, 1) := by decide +kernel
theorem dX12_compare_45 : decode cX12_compare 45 = .ok (.dup, 1) := by decide +kernel
theorem dX12_compare_46 : decode cX12_compare 46 = .ok (.getfield 99, 3) := by decide +kernel
theorem dX12_compare_49 : decode cX12_compare 49 = .ok (.iconst 1, 1) := by decide +kernel
theorem dX12_compare_50 : decode cX12_compare 50 = .ok (.iadd, 1) := by decide +kernel
theorem dX12_compare_51 : decode cX12_compare 51 = .ok (.putfield 99, 3) := by decide +kernel
theorem dX12_compare_54 : decode cX12_compare 54 = .ok (.iload_n 1, 1) := by decide +kernel
theorem dX12_compare_55 : decode cX12_compare 55 = .ok (.bipush 61, 2) := by decide +kernel
theorem dX12_compare_57 : decode cX12_compare 57 = .ok (.if_icmp .eq 32, 3) := by decide +kernel
theorem dX12_compare_60 : decode cX12_compare 60 = .ok (.aload_n 0, 1) := by decide +kernel
theorem dX12_compare_61 : decode cX12_compare 61 = .ok (.getfield 99, 3) := by decide +kernel
theorem dX12_compare_64 : decode cX12_compare 64 = .ok (.aload_n 0, 1) := by decide +kernel
theorem dX12_compare_65 : decode cX12_compare 65 = .ok (.getfield 89, 3) := by decide +kernel
theorem dX12_compare_68 : decode cX12_compare 68 = .ok (.if_icmp .ge 21, 3) := by decide +kernel
theorem dX12_compare_71 : decode cX12_compare 71 = .ok (.aload_n 0, 1) := by decide +kernel
theorem dX12_compare_72 : decode cX12_compare 72 = .ok (.getfield 7, 3) := by decide +kernel
theorem dX12_compare_75 : decode cX12_compare 75 = .ok (.aload_n 0, 1) := by decide +kernel
theorem dX12_compare_76 : decode cX12_compare 76 = .ok (.getfield 99, 3) := by decide +kernel
theorem dX12_compare_79 : decode cX12_compare 79 = .ok (.baload, 1) := by decide +kernel
theorem dX12_compare_80 : decode cX12_compare 80 = .ok (.bipush 61, 2) := by decide +kernel
theorem dX12_compare_82 : decode cX12_compare 82 = .ok (.if_icmp .ne 7, 3) := by decide +kernel
theorem dX12_compare_85 : decode cX12_compare 85 = .ok (.iconst 1, 1) := by decide +kernel
theorem dX12_compare_86 : decode cX12_compare 86 = .ok (.goto 4, 3) := by decide +kernel
theorem dX12_compare_89 : decode cX12_compare 89 = .ok (.iconst 0, 1) := by decide +kernel
theorem dX12_compare_90 : decode cX12_compare 90 = .ok (.istore_n 3, 1) := by decide +kernel
theorem dX12_compare_91 : decode cX12_compare 91 = .ok (.iload_n 3, 1) := by decide +kernel
theorem dX12_compare_92 : decode cX12_compare 92 = .ok (.ifCond .eq 13, 3) := by decide +kernel
theorem dX12_compare_95 : decode cX12_compare 95 = .ok (.aload_n 0, 1) := by decide +kernel
theorem dX12_compare_96 : decode cX12_compare 96 = .ok (.dup, 1) := by decide +kernel
theorem dX12_compare_97 : decode cX12_compare 97 = .ok (.getfield 99, 3) := by decide +kernel
theorem dX12_compare_100 : decode cX12_compare 100 = .ok (.iconst 1, 1) := by decide +kernel
theorem dX12_compare_101 : decode cX12_compare 101 = .ok (.iadd, 1) := by decide +kernel
theorem dX12_compare_102 : decode cX12_compare 102 = .ok (.putfield 99, 3) := by decide +kernel
theorem dX12_compare_105 : decode cX12_compare 105 = .ok (.aload_n 0, 1) := by decide +kernel
theorem dX12_compare_106 : decode cX12_compare 106 = .ok (.iload_n 2, 1) := by decide +kernel
theorem dX12_compare_107 : decode cX12_compare 107 = .ok (.invokevirtual 177, 3) := by decide +kernel
theorem dX12_compare_110 : decode cX12_compare 110 = .ok (.ifCond .ne 5, 3) := by decide +kernel
theorem dX12_compare_113 : decode cX12_compare 113 = .ok (.iconst 0, 1) := by decide +kernel
theorem dX12_compare_114 : decode cX12_compare 114 = .ok (.ireturn, 1) := by decide +kernel
theorem dX12_compare_115 : decode cX12_compare 115 = .ok (.iload_n 1, 1) := by decide +kernel
theorem dX12_compare_116 : decode cX12_compare 116 = .ok (.bipush 60, 2) := by decide +kernel
theorem dX12_compare_118 : decode cX12_compare 118 = .ok (.if_icmp .ne 15, 3) := by decide +kernel
theorem dX12_compare_121 : decode cX12_compare 121 = .ok (.iload_n 3, 1) := by decide +kernel
theorem dX12_compare_122 : decode cX12_compare 122 = .ok (.ifCond .eq 7, 3) := by decide +kernel
theorem dX12_compare_125 : decode cX12_compare 125 = .ok (.iconst 1, 1) := by decide +kernel
theorem dX12_compare_126 : decode cX12_compare 126 = .ok (.goto 26, 3) := by decide +kernel
theorem dX12_compare_129 : decode cX12_compare 129 = .ok (.iconst 0, 1) := by decide +kernel
theorem dX12_compare_130 : decode cX12_compare 130 = .ok (.goto 22, 3) := by decide +kernel
theorem dX12_compare_133 : decode cX12_compare 133 = .ok (.iload_n 1, 1) := by decide +kernel
theorem dX12_compare_134 : decode cX12_compare 134 = .ok (.bipush 61, 2) := by decide +kernel
theorem dX12_compare_136 : decode cX12_compare 136 = .ok (.if_icmp .ne 7, 3) := by decide +kernel
theorem dX12_compare_139 : decode cX12_compare 139 = .ok (.iconst 2, 1) := by decide +kernel
theorem dX12_compare_140 : decode cX12_compare 140 = .ok (.goto 12, 3) := by decide +kernel
theorem dX12_compare_143 : decode cX12_compare 143 = .ok (.iload_n 3, 1) := by decide +kernel
theorem dX12_compare_144 : decode cX12_compare 144 = .ok (.ifCond .eq 7, 3) := by decide +kernel
theorem dX12_compare_147 : decode cX12_compare 147 = .ok (.iconst 3, 1) := by decide +kernel
theorem dX12_compare_148 : decode cX12_compare 148 = .ok (.goto 4, 3) := by decide +kernel
theorem dX12_compare_151 : decode cX12_compare 151 = .ok (.iconst 4, 1) := by decide +kernel
theorem dX12_compare_152 : decode cX12_compare 152 = .ok (.istore 4, 2) := by decide +kernel
theorem dX12_compare_154 : decode cX12_compare 154 = .ok (.aload_n 0, 1) := by decide +kernel
theorem dX12_compare_155 : decode cX12_compare 155 = .ok (.invokevirtual 190, 3) := by decide +kernel
theorem dX12_compare_158 : decode cX12_compare 158 = .ok (.ifCond .ne 5, 3) := by decide +kernel
theorem dX12_compare_161 : decode cX12_compare 161 = .ok (.iconst 0, 1) := by decide +kernel
theorem dX12_compare_162 : decode cX12_compare 162 = .ok (.ireturn, 1) := by decide +kernel
theorem dX12_compare_163 : decode cX12_compare 163 = .ok (.aload_n 0, 1) := by decide +kernel
theorem dX12_compare_164 : decode cX12_compare 164 = .ok (.bipush 6, 2) := by decide +kernel
theorem dX12_compare_166 : decode cX12_compare 166 = .ok (.iload 4, 2) := by decide +kernel
theorem dX12_compare_168 : decode cX12_compare 168 = .ok (.iadd, 1) := by decide +kernel
theorem dX12_compare_169 : decode cX12_compare 169 = .ok (.iconst 0, 1) := by decide +kernel
theorem dX12_compare_170 : decode cX12_compare 170 = .ok (.invokevirtual 169, 3) := by decide +kernel
theorem dX12_compare_173 : decode cX12_compare 173 = .ok (.iconst 1, 1) := by decide +kernel
theorem dX12_compare_174 : decode cX12_compare 174 = .ok (.ireturn, 1) := by decide +kernel
set_option maxRecDepth 20000 in
theorem ggX12_fact_X12_see : GoodIn wsX12_fact wsX12_see := goodIn_r _ [7, 2, 8, 9, 90, 91, 92, 93, 94, 95, 96, 97, 98, 99, 100, 101, 102, 103, 104, 105, 106, 107, 108, 109, 110, 111, 112, 113, 114, 115, 116, 117, 118, 119, 120, 121, 122, 123, 124, 125, 126, 127, 128, 129, 130, 131, 132, 133] (by decide +kernel) (by decide +kernel)
set_option maxRecDepth 20000 in
theorem gX12_fact_X12_see : GoodIn wsX12_fact (wsV RX12 102 RX12 yX12_see wsX12_see) := goodIn_app (goodIn_of _ (by decide +kernel)) ggX12_fact_X12_see
set_option maxRecDepth 20000 in
theorem ggX12_fact_X12_isWord : GoodIn wsX12_fact wsX12_isWord := goodIn_r _ [13, 2, 9, 3, 4, 5, 6, 7, 8, 14, 15, 16, 17, 90, 91, 92, 93, 94, 95, 96, 97, 98, 99, 100, 101, 102, 103, 104, 105, 106, 107, 108, 109, 110, 111, 112, 113, 114, 115, 116, 117, 118, 119, 120, 121, 122, 123, 124, 125, 126, 127, 128, 129, 130, 131, 132, 133] (by decide +kernel) (by decide +kernel)
set_option maxRecDepth 20000 in
theorem gX12_fact_X12_isWord : GoodIn wsX12_fact (wsV RX12 110 RX12 yX12_isWord wsX12_isWord) := goodIn_app (goodIn_of _ (by decide +kernel)) ggX12_fact_X12_isWord
set_option maxRecDepth 20000 in
theorem ggX12_fact_X12_opens : GoodIn wsX12_fact wsX12_opens := goodIn_r _ [21, 22, 2, 23, 24, 25, 26, 27, 6, 28, 29, 90, 91, 92, 93, 94, 95, 96, 97, 98, 99, 100, 101, 102, 103, 104, 105, 106, 107, 108, 109, 110, 111, 112, 113, 114, 115, 116, 117, 118, 119, 120, 121, 122, 123, 124, 125, 126, 127, 128, 129, 130, 131, 132, 133] (by decide +kernel) (by decide +kernel)
set_option maxRecDepth 20000 in
theorem gX12_fact_X12_opens : GoodIn wsX12_fact (wsV RX12 195 RX12 yX12_opens wsX12_opens) := goodIn_app (goodIn_of _ (by decide +kernel)) ggX12_fact_X12_opens
set_option maxRecDepth 20000 in
theorem ggX12_fact_X12_passWord : GoodIn wsX12_fact wsX12_passWord := goodIn_r _ [33, 2, 14, 15, 16, 6, 17, 8, 9, 90, 91, 92, 93, 94, 95, 96, 97, 98, 99, 100, 101, 102, 103, 104, 105, 106, 107, 108, 109, 110, 111, 112, 113, 114, 115, 116, 117, 118, 119, 120, 121, 122, 123, 124, 125, 126, 127, 128, 129, 130, 131, 132, 133] (by decide +kernel) (by decide +kernel)
set_option maxRecDepth 20000 in
theorem gX12_fact_X12_passWord : GoodIn wsX12_fact (wsV RX12 114 RX12 yX12_passWord wsX12_passWord) := goodIn_app (goodIn_of _ (by decide +kernel)) ggX12_fact_X12_passWord
set_option maxRecDepth 20000 in
theorem ggX12_fact_X12_compare : GoodIn wsX12_fact wsX12_compare := goodIn_r _ [37, 2, 8, 9, 38, 39, 40, 6, 41, 42, 43, 44, 45, 46, 47, 48, 49, 50, 51, 3, 4, 5, 7, 52, 53, 54, 55, 56, 57, 58, 59, 25, 26, 27, 28, 29, 60, 61, 62, 63, 64, 65, 66, 67, 68, 69, 70, 71, 72, 73, 74, 75, 76, 77, 78, 79, 80, 81, 82, 83, 84, 85, 86, 87, 88, 89, 10, 11, 12, 13, 14, 15, 16, 17, 30, 31, 32, 33, 90, 91, 92, 93, 94, 95, 96, 97, 98, 99, 100, 101, 102, 103, 104, 105, 106, 107, 108, 109, 110, 111, 112, 113, 114, 115, 116, 117, 118, 119, 120, 121, 122, 123, 124, 125, 126, 127, 128, 129, 130, 131, 132, 133] (by decide +kernel) (by decide +kernel)
set_option maxRecDepth 20000 in
theorem gX12_fact_X12_compare : GoodIn wsX12_fact (wsV RX12 198 RX12 yX12_compare wsX12_compare) := goodIn_app (goodIn_of _ (by decide +kernel)) ggX12_fact_X12_compare
theorem dX12_fact_0 : decode cX12_fact 0 = .ok (.iconst 1, 1) := by decide +kernel
theorem dX12_fact_1 : decode cX12_fact 1 = .ok (.istore_n 1, 1) := by decide +kernel
theorem dX12_fact_2 : decode cX12_fact 2 = .ok (.iload_n 1, 1) := by decide +kernel
theorem dX12_fact_3 : decode cX12_fact 3 = .ok (.ifCond .eq 72, 3) := by decide +kernel
theorem dX12_fact_6 : decode cX12_fact 6 = .ok (.iconst 0, 1) := by decide +kernel
theorem dX12_fact_7 : decode cX12_fact 7 = .ok (.istore_n 1, 1) := by decide +kernel
theorem dX12_fact_8 : decode cX12_fact 8 = .ok (.aload_n 0, 1) := by decide +kernel
theorem dX12_fact_9 : decode cX12_fact 9 = .ok (.invokevirtual 102, 3) := by decide +kernel
theorem dX12_fact_12 : decode cX12_fact 12 = .ok (.istore_n 2, 1) := by decide +kernel
theorem dX12_fact_13 : decode cX12_fact 13 = .ok (.aload_n 0, 1) := by decide +kernel
theorem dX12_fact_14 : decode cX12_fact 14 = .ok (.ldc2_w 193, 3) := by decide +kernel
theorem dX12_fact_17 : decode cX12_fact 17 = .ok (.invokevirtual 110, 3) := by decide +kernel
theorem dX12_fact_20 : decode cX12_fact 20 = .ok (.ifCond .eq 23, 3) := by decide +kernel
theorem dX12_fact_23 : decode cX12_fact 23 = .ok (.aload_n 0, 1) := by decide +kernel
theorem dX12_fact_24 : decode cX12_fact 24 = .ok (.bipush 11, 2) := by decide +kernel
theorem dX12_fact_26 : decode cX12_fact 26 = .ok (.invokevirtual 195, 3) := by decide +kernel
theorem dX12_fact_29 : decode cX12_fact 29 = .ok (.ifCond .ne 5, 3) := by decide +kernel
theorem dX12_fact_32 : decode cX12_fact 32 = .ok (.iconst 0, 1) := by decide +kernel
theorem dX12_fact_33 : decode cX12_fact 33 = .ok (.ireturn, 1) := by decide +kernel
theorem dX12_fact_34 : decode cX12_fact 34 = .ok (.aload_n 0, 1) := by decide +kernel
theorem dX12_fact_35 : decode cX12_fact 35 = .ok (.invokevirtual 114, 3) := by decide +kernel
theorem dX12_fact_38 : decode cX12_fact 38 = .ok (.iconst 1, 1) := by decide +kernel
theorem dX12_fact_39 : decode cX12_fact 39 = .ok (.istore_n 1, 1) := by decide +kernel
theorem dX12_fact_40 : decode cX12_fact 40 = .ok (.goto 32, 3) := by decide +kernel
theorem dX12_fact_43 : decode cX12_fact 43 = .ok (.iload_n 2, 1) := by decide +kernel
theorem dX12_fact_44 : decode cX12_fact 44 = .ok (.bipush 91, 2) := by decide +kernel
theorem dX12_fact_46 : decode cX12_fact 46 = .ok (.if_icmp .ne 26, 3) := by decide +kernel
theorem dX12_fact_49 : decode cX12_fact 49 = .ok (.aload_n 0, 1) := by decide +kernel
theorem dX12_fact_50 : decode cX12_fact 50 = .ok (.bipush 91, 2) := by decide +kernel
theorem dX12_fact_52 : decode cX12_fact 52 = .ok (.invokevirtual 195, 3) := by decide +kernel
theorem dX12_fact_55 : decode cX12_fact 55 = .ok (.ifCond .ne 5, 3) := by decide +kernel
theorem dX12_fact_58 : decode cX12_fact 58 = .ok (.iconst 0, 1) := by decide +kernel
theorem dX12_fact_59 : decode cX12_fact 59 = .ok (.ireturn, 1) := by decide +kernel
theorem dX12_fact_60 : decode cX12_fact 60 = .ok (.aload_n 0, 1) := by decide +kernel
theorem dX12_fact_61 : decode cX12_fact 61 = .ok (.dup, 1) := by decide +kernel
theorem dX12_fact_62 : decode cX12_fact 62 = .ok (.getfield 99, 3) := by decide +kernel
theorem dX12_fact_65 : decode cX12_fact 65 = .ok (.iconst 1, 1) := by decide +kernel
theorem dX12_fact_66 : decode cX12_fact 66 = .ok (.iadd, 1) := by decide +kernel
theorem dX12_fact_67 : decode cX12_fact 67 = .ok (.putfield 99, 3) := by decide +kernel
theorem dX12_fact_70 : decode cX12_fact 70 = .ok (.iconst 1, 1) := by decide +kernel
theorem dX12_fact_71 : decode cX12_fact 71 = .ok (.istore_n 1, 1) := by decide +kernel
theorem dX12_fact_72 : decode cX12_fact 72 = .ok (.goto (-70), 3) := by decide +kernel
theorem dX12_fact_75 : decode cX12_fact 75 = .ok (.aload_n 0, 1) := by decide +kernel
theorem dX12_fact_76 : decode cX12_fact 76 = .ok (.invokevirtual 198, 3) := by decide +kernel
theorem dX12_fact_79 : decode cX12_fact 79 = .ok (.ireturn, 1) := by decide +kernel
theorem dX12_isInside_0 : decode cX12_isInside 0 = .ok (.iconst 0, 1) := by decide +kernel
theorem dX12_isInside_1 : decode cX12_isInside 1 = .ok (.istore_n 1, 1) := by decide +kernel
theorem dX12_isInside_2 : decode cX12_isInside 2 = .ok (.iload_n 1, 1) := by decide +kernel
theorem dX12_isInside_3 : decode cX12_isInside 3 = .ok (.aload_n 0, 1) := by decide +kernel
theorem dX12_isInside_4 : decode cX12_isInside 4 = .ok (.getfield 162, 3) := by decide +kernel
theorem dX12_isInside_7 : decode cX12_isInside 7 = .ok (.if_icmp .ge 22, 3) := by decide +kernel
theorem dX12_isInside_10 : decode cX12_isInside 10 = .ok (.aload_n 0, 1) := by decide +kernel
theorem dX12_isInside_11 : decode cX12_isInside 11 = .ok (.getfield 29, 3) := by decide +kernel
theorem dX12_isInside_14 : decode cX12_isInside 14 = .ok (.iload_n 1, 1) := by decide +kernel
theorem dX12_isInside_15 : decode cX12_isInside 15 = .ok (.iaload, 1) := by decide +kernel
theorem dX12_isInside_16 : decode cX12_isInside 16 = .ok (.bipush 91, 2) := by decide +kernel
theorem dX12_isInside_18 : decode cX12_isInside 18 = .ok (.if_icmp .ne 5, 3) := by decide +kernel
theorem dX12_isInside_21 : decode cX12_isInside 21 = .ok (.iconst 1, 1) := by decide +kernel
theorem dX12_isInside_22 : decode cX12_isInside 22 = .ok (.ireturn, 1) := by decide +kernel
theorem dX12_isInside_23 : decode cX12_isInside 23 = .ok (.iinc 1 1, 3) := by decide +kernel
theorem dX12_isInside_26 : decode cX12_isInside 26 = .ok (.goto (-24), 3) := by decide +kernel
theorem dX12_isInside_29 : decode cX12_isInside 29 = .ok (.iconst 0, 1) := by decide +kernel
theorem dX12_isInside_30 : decode cX12_isInside 30 = .ok (.ireturn, 1) := by decide +kernel
set_option maxRecDepth 20000 in
theorem ggX12_closes_X12_settles : GoodIn wsX12_closes wsX12_settles := goodIn_r _ [8, 1, 9, 2, 10, 11, 7, 12, 13, 14, 15, 16, 17, 18, 19, 30, 31, 32, 33, 34, 35, 36, 37, 38, 39, 40, 41, 42, 43, 44, 45, 46, 47, 48, 49, 50, 51, 52, 53, 54, 55, 56, 57, 58, 59, 60, 61, 62, 63, 64, 65, 66, 67, 68, 69, 70, 71, 72, 73] (by decide +kernel) (by decide +kernel)
set_option maxRecDepth 20000 in
theorem gX12_closes_X12_settles : GoodIn wsX12_closes (wsV RX12 201 RX12 yX12_settles wsX12_settles) := goodIn_app (goodIn_of _ (by decide +kernel)) ggX12_closes_X12_settles
set_option maxRecDepth 20000 in
theorem ggX12_closes_X12_see : GoodIn wsX12_closes wsX12_see := goodIn_r _ [23, 3, 24, 25, 30, 31, 32, 33, 34, 35, 36, 37, 38, 39, 40, 41, 42, 43, 44, 45, 46, 47, 48, 49, 50, 51, 52, 53, 54, 55, 56, 57, 58, 59, 60, 61, 62, 63, 64, 65, 66, 67, 68, 69, 70, 71, 72, 73] (by decide +kernel) (by decide +kernel)
set_option maxRecDepth 20000 in
theorem gX12_closes_X12_see : GoodIn wsX12_closes (wsV RX12 102 RX12 yX12_see wsX12_see) := goodIn_app (goodIn_of _ (by decide +kernel)) ggX12_closes_X12_see
set_option maxRecDepth 20000 in
theorem ggX12_closes_X12_isInside : GoodIn wsX12_closes wsX12_isInside := goodIn_r _ [29, 1, 9, 30, 31, 32, 33, 34, 35, 36, 37, 38, 39, 40, 41, 42, 43, 44, 45, 46, 47, 48, 49, 50, 51, 52, 53, 54, 55, 56, 57, 58, 59, 60, 61, 62, 63, 64, 65, 66, 67, 68, 69, 70, 71, 72, 73] (by decide +kernel) (by decide +kernel)
set_option maxRecDepth 20000 in
theorem gX12_closes_X12_isInside : GoodIn wsX12_closes (wsV RX12 204 RX12 yX12_isInside wsX12_isInside) := goodIn_app (goodIn_of _ (by decide +kernel)) ggX12_closes_X12_isInside
theorem dX12_closes_0 : decode cX12_closes 0 = .ok (.aload_n 0, 1) := by decide +kernel
theorem dX12_closes_1 : decode cX12_closes 1 = .ok (.iconst 3, 1) := by decide +kernel
theorem dX12_closes_2 : decode cX12_closes 2 = .ok (.invokevirtual 201, 3) := by decide +kernel
theorem dX12_closes_5 : decode cX12_closes 5 = .ok (.aload_n 0, 1) := by decide +kernel
theorem dX12_closes_6 : decode cX12_closes 6 = .ok (.invokevirtual 102, 3) := by decide +kernel
theorem dX12_closes_9 : decode cX12_closes 9 = .ok (.bipush 93, 2) := by decide +kernel
theorem dX12_closes_11 : decode cX12_closes 11 = .ok (.if_icmp .ne 53, 3) := by decide +kernel
theorem dX12_closes_14 : decode cX12_closes 14 = .ok (.aload_n 0, 1) := by decide +kernel
theorem dX12_closes_15 : decode cX12_closes 15 = .ok (.invokevirtual 204, 3) := by decide +kernel
theorem dX12_closes_18 : decode cX12_closes 18 = .ok (.ifCond .eq 46, 3) := by decide +kernel
theorem dX12_closes_21 : decode cX12_closes 21 = .ok (.aload_n 0, 1) := by decide +kernel
theorem dX12_closes_22 : decode cX12_closes 22 = .ok (.iconst 1, 1) := by decide +kernel
theorem dX12_closes_23 : decode cX12_closes 23 = .ok (.invokevirtual 201, 3) := by decide +kernel
theorem dX12_closes_26 : decode cX12_closes 26 = .ok (.aload_n 0, 1) := by decide +kernel
theorem dX12_closes_27 : decode cX12_closes 27 = .ok (.dup, 1) := by decide +kernel
theorem dX12_closes_28 : decode cX12_closes 28 = .ok (.getfield 162, 3) := by decide +kernel
theorem dX12_closes_31 : decode cX12_closes 31 = .ok (.iconst 1, 1) := by decide +kernel
theorem dX12_closes_32 : decode cX12_closes 32 = .ok (.isub, 1) := by decide +kernel
theorem dX12_closes_33 : decode cX12_closes 33 = .ok (.putfield 162, 3) := by decide +kernel
theorem dX12_closes_36 : decode cX12_closes 36 = .ok (.aload_n 0, 1) := by decide +kernel
theorem dX12_closes_37 : decode cX12_closes 37 = .ok (.dup, 1) := by decide +kernel
theorem dX12_closes_38 : decode cX12_closes 38 = .ok (.getfield 159, 3) := by decide +kernel
theorem dX12_closes_41 : decode cX12_closes 41 = .ok (.iconst 1, 1) := by decide +kernel
theorem dX12_closes_42 : decode cX12_closes 42 = .ok (.isub, 1) := by decide +kernel
theorem dX12_closes_43 : decode cX12_closes 43 = .ok (.putfield 159, 3) := by decide +kernel
theorem dX12_closes_46 : decode cX12_closes 46 = .ok (.aload_n 0, 1) := by decide +kernel
theorem dX12_closes_47 : decode cX12_closes 47 = .ok (.dup, 1) := by decide +kernel
theorem dX12_closes_48 : decode cX12_closes 48 = .ok (.getfield 99, 3) := by decide +kernel
theorem dX12_closes_51 : decode cX12_closes 51 = .ok (.iconst 1, 1) := by decide +kernel
theorem dX12_closes_52 : decode cX12_closes 52 = .ok (.iadd, 1) := by decide +kernel
theorem dX12_closes_53 : decode cX12_closes 53 = .ok (.putfield 99, 3) := by decide +kernel
theorem dX12_closes_56 : decode cX12_closes 56 = .ok (.aload_n 0, 1) := by decide +kernel
theorem dX12_closes_57 : decode cX12_closes 57 = .ok (.iconst 3, 1) := by decide +kernel
theorem dX12_closes_58 : decode cX12_closes 58 = .ok (.invokevirtual 201, 3) := by decide +kernel
theorem dX12_closes_61 : decode cX12_closes 61 = .ok (.goto (-56), 3) := by decide +kernel
theorem dX12_closes_64 : decode cX12_closes 64 = .ok (.return_, 1) := by decide +kernel
set_option maxRecDepth 20000 in
theorem ggX12_tested_X12_fact : GoodIn wsX12_tested wsX12_fact := goodIn_r _ [11, 12, 6, 13, 14, 15, 10, 16, 17, 18, 19, 20, 21, 22, 23, 24, 25, 26, 27, 28, 29, 30, 2, 5, 1, 31, 32, 33, 34, 35, 36, 37, 38, 39, 40, 41, 42, 43, 44, 45, 46, 47, 48, 49, 50, 51, 52, 53, 54, 55, 56, 57, 58, 59, 60, 61, 62, 63, 64, 65, 66, 67, 68, 69, 70, 71, 72, 73, 74, 75, 76, 77, 78, 79, 80, 81, 82, 83, 84, 85, 86, 87, 88, 89, 90, 91, 92, 93, 94, 95, 111, 112, 113, 114, 115, 116, 117, 118, 119, 120, 121, 122, 123, 124, 125, 126, 127, 128, 129, 130, 131, 132, 133, 134, 135, 136, 137, 138, 139, 140, 141, 142, 143, 144, 145, 146, 147, 148, 149, 150, 151, 152, 153, 154] (by decide +kernel) (by decide +kernel)
set_option maxRecDepth 20000 in
theorem gX12_tested_X12_fact : GoodIn wsX12_tested (wsV RX12 207 RX12 yX12_fact wsX12_fact) := goodIn_app (goodIn_of _ (by decide +kernel)) ggX12_tested_X12_fact
set_option maxRecDepth 20000 in
theorem ggX12_tested_X12_closes : GoodIn wsX12_tested wsX12_closes := goodIn_r _ [99, 1, 2, 6, 100, 101, 102, 10, 103, 5, 104, 105, 106, 74, 75, 76, 77, 78, 79, 80, 13, 14, 15, 16, 17, 18, 107, 108, 109, 110, 111, 112, 113, 114, 115, 116, 117, 118, 119, 120, 121, 122, 123, 124, 125, 126, 127, 128, 129, 130, 131, 132, 133, 134, 135, 136, 137, 138, 139, 140, 141, 142, 143, 144, 145, 146, 147, 148, 149, 150, 151, 152, 153, 154] (by decide +kernel) (by decide +kernel)
set_option maxRecDepth 20000 in
theorem gX12_tested_X12_closes : GoodIn wsX12_tested (wsV RX12 210 RX12 yX12_closes wsX12_closes) := goodIn_app (goodIn_of _ (by decide +kernel)) ggX12_tested_X12_closes
set_option maxRecDepth 20000 in
theorem ggX12_tested_X12_isWord : GoodIn wsX12_tested wsX12_isWord := goodIn_r _ [22, 6, 18, 13, 14, 15, 10, 16, 17, 23, 24, 25, 26, 111, 112, 113, 114, 115, 116, 117, 118, 119, 120, 121, 122, 123, 124, 125, 126, 127, 128, 129, 130, 131, 132, 133, 134, 135, 136, 137, 138, 139, 140, 141, 142, 143, 144, 145, 146, 147, 148, 149, 150, 151, 152, 153, 154] (by decide +kernel) (by decide +kernel)
set_option maxRecDepth 20000 in
theorem gX12_tested_X12_isWord : GoodIn wsX12_tested (wsV RX12 110 RX12 yX12_isWord wsX12_isWord) := goodIn_app (goodIn_of _ (by decide +kernel)) ggX12_tested_X12_isWord
set_option maxRecDepth 20000 in
theorem ggX12_tested_X12_passWord : GoodIn wsX12_tested wsX12_passWord := goodIn_r _ [39, 6, 23, 24, 25, 10, 26, 17, 18, 111, 112, 113, 114, 115, 116, 117, 118, 119, 120, 121, 122, 123, 124, 125, 126, 127, 128, 129, 130, 131, 132, 133, 134, 135, 136, 137, 138, 139, 140, 141, 142, 143, 144, 145, 146, 147, 148, 149, 150, 151, 152, 153, 154] (by decide +kernel) (by decide +kernel)
set_option maxRecDepth 20000 in
theorem gX12_tested_X12_passWord : GoodIn wsX12_tested (wsV RX12 114 RX12 yX12_passWord wsX12_passWord) := goodIn_app (goodIn_of _ (by decide +kernel)) ggX12_tested_X12_passWord
set_option maxRecDepth 20000 in
theorem ggX12_tested_X12_strength : GoodIn wsX12_tested wsX12_strength := goodIn_r _ [106] (by decide +kernel) (by decide +kernel)
set_option maxRecDepth 20000 in
theorem gX12_tested_X12_strength : GoodIn wsX12_tested (va_wsS RX12 165 yX12_strength wsX12_strength) := goodIn_app (goodIn_of _ (by decide +kernel)) ggX12_tested_X12_strength
set_option maxRecDepth 20000 in
theorem ggX12_tested_X12_settles : GoodIn wsX12_tested wsX12_settles := goodIn_r _ [103, 1, 5, 2, 104, 105, 10, 106, 74, 75, 76, 77, 78, 79, 80, 111, 112, 113, 114, 115, 116, 117, 118, 119, 120, 121, 122, 123, 124, 125, 126, 127, 128, 129, 130, 131, 132, 133, 134, 135, 136, 137, 138, 139, 140, 141, 142, 143, 144, 145, 146, 147, 148, 149, 150, 151, 152, 153, 154] (by decide +kernel) (by decide +kernel)
set_option maxRecDepth 20000 in
theorem gX12_tested_X12_settles : GoodIn wsX12_tested (wsV RX12 201 RX12 yX12_settles wsX12_settles) := goodIn_app (goodIn_of _ (by decide +kernel)) ggX12_tested_X12_settles
set_option maxRecDepth 20000 in
theorem ggX12_tested_X12_isInside : GoodIn wsX12_tested wsX12_isInside := goodIn_r _ [110, 1, 5, 111, 112, 113, 114, 115, 116, 117, 118, 119, 120, 121, 122, 123, 124, 125, 126, 127, 128, 129, 130, 131, 132, 133, 134, 135, 136, 137, 138, 139, 140, 141, 142, 143, 144, 145, 146, 147, 148, 149, 150, 151, 152, 153, 154] (by decide +kernel) (by decide +kernel)
set_option maxRecDepth 20000 in
theorem gX12_tested_X12_isInside : GoodIn wsX12_tested (wsV RX12 204 RX12 yX12_isInside wsX12_isInside) := goodIn_app (goodIn_of _ (by decide +kernel)) ggX12_tested_X12_isInside
set_option maxRecDepth 20000 in
theorem ggX12_tested_X12_see : GoodIn wsX12_tested wsX12_see := goodIn_r _ [16, 6, 17, 18, 111, 112, 113, 114, 115, 116, 117, 118, 119, 120, 121, 122, 123, 124, 125, 126, 127, 128, 129, 130, 131, 132, 133, 134, 135, 136, 137, 138, 139, 140, 141, 142, 143, 144, 145, 146, 147, 148, 149, 150, 151, 152, 153, 154] (by decide +kernel) (by decide +kernel)
set_option maxRecDepth 20000 in
theorem gX12_tested_X12_see : GoodIn wsX12_tested (wsV RX12 102 RX12 yX12_see wsX12_see) := goodIn_app (goodIn_of _ (by decide +kernel)) ggX12_tested_X12_see
set_option maxRecDepth 20000 in
theorem ggX12_tested_X12_fails : GoodIn wsX12_tested wsX12_fails := goodIn_r _ [34, 35, 111, 112, 113, 114, 115, 116, 117, 118, 119, 120, 121, 122, 123, 124, 125, 126, 127, 128, 129, 130, 131, 132, 133, 134, 135, 136, 137, 138, 139, 140, 141, 142, 143, 144, 145, 146, 147, 148, 149, 150, 151, 152, 153, 154] (by decide +kernel) (by decide +kernel)
set_option maxRecDepth 20000 in
theorem gX12_tested_X12_fails : GoodIn wsX12_tested (wsV RX12 120 RX12 yX12_fails wsX12_fails) := goodIn_app (goodIn_of _ (by decide +kernel)) ggX12_tested_X12_fails
theorem dX12_tested_0 : decode cX12_tested 0 = .ok (.aload_n 0, 1) := by decide +kernel
theorem dX12_tested_1 : decode cX12_tested 1 = .ok (.iconst 0, 1) := by decide +kernel
theorem dX12_tested_2 : decode cX12_tested 2 = .ok (.putfield 162, 3) := by decide +kernel
theorem dX12_tested_5 : decode cX12_tested 5 = .ok (.aload_n 0, 1) := by decide +kernel
theorem dX12_tested_6 : decode cX12_tested 6 = .ok (.iconst 0, 1) := by decide +kernel
theorem dX12_tested_7 : decode cX12_tested 7 = .ok (.putfield 159, 3) := by decide +kernel
theorem dX12_tested_10 : decode cX12_tested 10 = .ok (.iconst 1, 1) := by decide +kernel
theorem dX12_tested_11 : decode cX12_tested 11 = .ok (.istore_n 1, 1) := by decide +kernel
theorem dX12_tested_12 : decode cX12_tested 12 = .ok (.iload_n 1, 1) := by decide +kernel
theorem dX12_tested_13 : decode cX12_tested 13 = .ok (.ifCond .eq 99, 3) := by decide +kernel
theorem dX12_tested_16 : decode cX12_tested 16 = .ok (.aload_n 0, 1) := by decide +kernel
theorem dX12_tested_17 : decode cX12_tested 17 = .ok (.invokevirtual 207, 3) := by decide +kernel
theorem dX12_tested_20 : decode cX12_tested 20 = .ok (.ifCond .ne 5, 3) := by decide +kernel
theorem dX12_tested_23 : decode cX12_tested 23 = .ok (.iconst 0, 1) := by decide +kernel
theorem dX12_tested_24 : decode cX12_tested 24 = .ok (.ireturn, 1) := by decide +kernel
theorem dX12_tested_25 : decode cX12_tested 25 = .ok (.aload_n 0, 1) := by decide +kernel
theorem dX12_tested_26 : decode cX12_tested 26 = .ok (.invokevirtual 210, 3) := by decide +kernel
theorem dX12_tested_29 : decode cX12_tested 29 = .ok (.aload_n 0, 1) := by decide +kernel
theorem dX12_tested_30 : decode cX12_tested 30 = .ok (.ldc2_w 213, 3) := by decide +kernel
theorem dX12_tested_33 : decode cX12_tested 33 = .ok (.invokevirtual 110, 3) := by decide +kernel
theorem dX12_tested_36 : decode cX12_tested 36 = .ok (.ifCond .ne 13, 3) := by decide +kernel
theorem dX12_tested_39 : decode cX12_tested 39 = .ok (.aload_n 0, 1) := by decide +kernel
theorem dX12_tested_40 : decode cX12_tested 40 = .ok (.ldc2_w 215, 3) := by decide +kernel
theorem dX12_tested_43 : decode cX12_tested 43 = .ok (.invokevirtual 110, 3) := by decide +kernel
theorem dX12_tested_46 : decode cX12_tested 46 = .ok (.ifCond .eq 7, 3) := by decide +kernel
theorem dX12_tested_49 : decode cX12_tested 49 = .ok (.iconst 1, 1) := by decide +kernel
theorem dX12_tested_50 : decode cX12_tested 50 = .ok (.goto 4, 3) := by decide +kernel
theorem dX12_tested_53 : decode cX12_tested 53 = .ok (.iconst 0, 1) := by decide +kernel
theorem dX12_tested_54 : decode cX12_tested 54 = .ok (.istore_n 1, 1) := by decide +kernel
theorem dX12_tested_55 : decode cX12_tested 55 = .ok (.iload_n 1, 1) := by decide +kernel
theorem dX12_tested_56 : decode cX12_tested 56 = .ok (.ifCond .eq (-44), 3) := by decide +kernel
theorem dX12_tested_59 : decode cX12_tested 59 = .ok (.aload_n 0, 1) := by decide +kernel
theorem dX12_tested_60 : decode cX12_tested 60 = .ok (.ldc2_w 213, 3) := by decide +kernel
theorem dX12_tested_63 : decode cX12_tested 63 = .ok (.invokevirtual 110, 3) := by decide +kernel
theorem dX12_tested_66 : decode cX12_tested 66 = .ok (.ifCond .eq 8, 3) := by decide +kernel
theorem dX12_tested_69 : decode cX12_tested 69 = .ok (.bipush 12, 2) := by decide +kernel
theorem dX12_tested_71 : decode cX12_tested 71 = .ok (.goto 5, 3) := by decide +kernel
theorem dX12_tested_74 : decode cX12_tested 74 = .ok (.bipush 13, 2) := by decide +kernel
theorem dX12_tested_76 : decode cX12_tested 76 = .ok (.istore_n 2, 1) := by decide +kernel
theorem dX12_tested_77 : decode cX12_tested 77 = .ok (.aload_n 0, 1) := by decide +kernel
theorem dX12_tested_78 : decode cX12_tested 78 = .ok (.invokevirtual 114, 3) := by decide +kernel
theorem dX12_tested_81 : decode cX12_tested 81 = .ok (.aload_n 0, 1) := by decide +kernel
theorem dX12_tested_82 : decode cX12_tested 82 = .ok (.iload_n 2, 1) := by decide +kernel
theorem dX12_tested_83 : decode cX12_tested 83 = .ok (.invokestatic 165, 3) := by decide +kernel
theorem dX12_tested_86 : decode cX12_tested 86 = .ok (.invokevirtual 201, 3) := by decide +kernel
theorem dX12_tested_89 : decode cX12_tested 89 = .ok (.aload_n 0, 1) := by decide +kernel
theorem dX12_tested_90 : decode cX12_tested 90 = .ok (.getfield 29, 3) := by decide +kernel
theorem dX12_tested_93 : decode cX12_tested 93 = .ok (.aload_n 0, 1) := by decide +kernel
theorem dX12_tested_94 : decode cX12_tested 94 = .ok (.getfield 162, 3) := by decide +kernel
theorem dX12_tested_97 : decode cX12_tested 97 = .ok (.iload_n 2, 1) := by decide +kernel
theorem dX12_tested_98 : decode cX12_tested 98 = .ok (.iastore, 1) := by decide +kernel
theorem dX12_tested_99 : decode cX12_tested 99 = .ok (.aload_n 0, 1) := by decide +kernel
theorem dX12_tested_100 : decode cX12_tested 100 = .ok (.dup, 1) := by decide +kernel
theorem dX12_tested_101 : decode cX12_tested 101 = .ok (.getfield 162, 3) := by decide +kernel
theorem dX12_tested_104 : decode cX12_tested 104 = .ok (.iconst 1, 1) := by decide +kernel
theorem dX12_tested_105 : decode cX12_tested 105 = .ok (.iadd, 1) := by decide +kernel
theorem dX12_tested_106 : decode cX12_tested 106 = .ok (.putfield 162, 3) := by decide +kernel
theorem dX12_tested_109 : decode cX12_tested 109 = .ok (.goto (-97), 3) := by decide +kernel
theorem dX12_tested_112 : decode cX12_tested 112 = .ok (.aload_n 0, 1) := by decide +kernel
theorem dX12_tested_113 : decode cX12_tested 113 = .ok (.invokevirtual 204, 3) := by decide +kernel
theorem dX12_tested_116 : decode cX12_tested 116 = .ok (.ifCond .eq 18, 3) := by decide +kernel
theorem dX12_tested_119 : decode cX12_tested 119 = .ok (.aload_n 0, 1) := by decide +kernel
theorem dX12_tested_120 : decode cX12_tested 120 = .ok (.invokevirtual 102, 3) := by decide +kernel
theorem dX12_tested_123 : decode cX12_tested 123 = .ok (.pop, 1) := by decide +kernel
theorem dX12_tested_124 : decode cX12_tested 124 = .ok (.aload_n 0, 1) := by decide +kernel
theorem dX12_tested_125 : decode cX12_tested 125 = .ok (.iconst 0, 1) := by decide +kernel
theorem dX12_tested_126 : decode cX12_tested 126 = .ok (.aload_n 0, 1) := by decide +kernel
theorem dX12_tested_127 : decode cX12_tested 127 = .ok (.getfield 99, 3) := by decide +kernel
theorem dX12_tested_130 : decode cX12_tested 130 = .ok (.invokevirtual 120, 3) := by decide +kernel
theorem dX12_tested_133 : decode cX12_tested 133 = .ok (.ireturn, 1) := by decide +kernel
theorem dX12_tested_134 : decode cX12_tested 134 = .ok (.aload_n 0, 1) := by decide +kernel
theorem dX12_tested_135 : decode cX12_tested 135 = .ok (.iconst 1, 1) := by decide +kernel
theorem dX12_tested_136 : decode cX12_tested 136 = .ok (.invokevirtual 201, 3) := by decide +kernel
theorem dX12_tested_139 : decode cX12_tested 139 = .ok (.iconst 1, 1) := by decide +kernel
theorem dX12_tested_140 : decode cX12_tested 140 = .ok (.ireturn, 1) := by decide +kernel
set_option maxRecDepth 20000 in
theorem ggX12_isShakeHere_X12_passWord : GoodIn wsX12_isShakeHere wsX12_passWord := goodIn_r _ [10, 11, 12, 13, 14, 9, 15, 16, 17, 122, 123, 124, 125, 126, 127, 128, 129, 130, 131, 132, 133, 134, 135, 136, 137, 138, 139, 140, 141, 142, 143, 144, 145, 146, 147, 148, 149, 150, 151, 152, 153, 154, 155, 156, 157, 158, 159, 160, 161, 162, 163, 164, 165] (by decide +kernel) (by decide +kernel)
set_option maxRecDepth 20000 in
theorem gX12_isShakeHere_X12_passWord : GoodIn wsX12_isShakeHere (wsV RX12 114 RX12 yX12_passWord wsX12_passWord) := goodIn_app (goodIn_of _ (by decide +kernel)) ggX12_isShakeHere_X12_passWord
set_option maxRecDepth 20000 in
theorem ggX12_isShakeHere_X12_summed : GoodIn wsX12_isShakeHere wsX12_summed := goodIn_r _ [21, 17, 11, 22, 23, 24, 9, 25, 26, 27, 28, 29, 30, 31, 32, 33, 34, 35, 16, 36, 37, 38, 39, 40, 41, 42, 43, 44, 45, 46, 47, 48, 49, 50, 51, 52, 53, 54, 55, 56, 57, 58, 59, 60, 61, 1, 4, 62, 63, 64, 65, 66, 67, 68, 69, 70, 71, 72, 73, 74, 75, 76, 77, 78, 79, 80, 12, 13, 14, 15, 6, 7, 8, 10, 122, 123, 124, 125, 126, 127, 128, 129, 130, 131, 132, 133, 134, 135, 136, 137, 138, 139, 140, 141, 142, 143, 144, 145, 146, 147, 148, 149, 150, 151, 152, 153, 154, 155, 156, 157, 158, 159, 160, 161, 162, 163, 164, 165] (by decide +kernel) (by decide +kernel)
set_option maxRecDepth 20000 in
theorem gX12_isShakeHere_X12_summed : GoodIn wsX12_isShakeHere (wsV RX12 190 RX12 yX12_summed wsX12_summed) := goodIn_app (goodIn_of _ (by decide +kernel)) ggX12_isShakeHere_X12_summed
set_option maxRecDepth 20000 in
theorem ggX12_isShakeHere_X12_takesWord : GoodIn wsX12_isShakeHere wsX12_takesWord := goodIn_r _ [84, 77, 78, 79, 9, 80, 11, 17, 32, 33, 34, 35, 16, 12, 13, 14, 15, 6, 7, 8, 10, 122, 123, 124, 125, 126, 127, 128, 129, 130, 131, 132, 133, 134, 135, 136, 137, 138, 139, 140, 141, 142, 143, 144, 145, 146, 147, 148, 149, 150, 151, 152, 153, 154, 155, 156, 157, 158, 159, 160, 161, 162, 163, 164, 165] (by decide +kernel) (by decide +kernel)
set_option maxRecDepth 20000 in
theorem gX12_isShakeHere_X12_takesWord : GoodIn wsX12_isShakeHere (wsV RX12 219 RX12 yX12_takesWord wsX12_takesWord) := goodIn_app (goodIn_of _ (by decide +kernel)) ggX12_isShakeHere_X12_takesWord
set_option maxRecDepth 20000 in
theorem ggX12_isShakeHere_X12_tested : GoodIn wsX12_isShakeHere wsX12_tested := goodIn_r _ [88, 89, 90, 91, 92, 93, 11, 94, 95, 96, 9, 97, 98, 32, 33, 34, 35, 16, 17, 77, 78, 79, 80, 12, 13, 14, 15, 99, 100, 101, 102, 44, 45, 46, 47, 48, 6, 7, 8, 10, 103, 104, 105, 106, 18, 19, 20, 21, 22, 23, 24, 25, 26, 27, 28, 29, 30, 31, 36, 37, 38, 39, 40, 41, 42, 43, 49, 50, 51, 52, 53, 54, 55, 56, 57, 58, 59, 60, 61, 1, 4, 62, 63, 64, 65, 66, 67, 68, 69, 70, 71, 72, 73, 74, 75, 76, 107, 108, 109, 110, 111, 112, 113, 114, 115, 116, 117, 118, 119, 120, 121, 122, 123, 124, 125, 126, 127, 128, 129, 130, 131, 132, 133, 134, 135, 136, 137, 138, 139, 140, 141, 142, 143, 144, 145, 146, 147, 148, 149, 150, 151, 152, 153, 154, 155, 156, 157, 158, 159, 160, 161, 162, 163, 164, 165] (by decide +kernel) (by decide +kernel)
set_option maxRecDepth 20000 in
theorem gX12_isShakeHere_X12_tested : GoodIn wsX12_isShakeHere (wsV RX12 222 RX12 yX12_tested wsX12_tested) := goodIn_app (goodIn_of _ (by decide +kernel)) ggX12_isShakeHere_X12_tested
theorem dX12_isShakeHere_0 : decode cX12_isShakeHere 0 = .ok (.aload_n 0, 1) := by decide +kernel
theorem dX12_isShakeHere_1 : decode cX12_isShakeHere 1 = .ok (.invokevirtual 114, 3) := by decide +kernel
theorem dX12_isShakeHere_4 : decode cX12_isShakeHere 4 = .ok (.bipush 48, 2) := by decide +kernel
theorem dX12_isShakeHere_6 : decode cX12_isShakeHere 6 = .ok (.aload_n 0, 1) := by decide +kernel
theorem dX12_isShakeHere_7 : decode cX12_isShakeHere 7 = .ok (.getfield 153, 3) := by decide +kernel
theorem dX12_isShakeHere_10 : decode cX12_isShakeHere 10 = .ok (.imul, 1) := by decide +kernel
theorem dX12_isShakeHere_11 : decode cX12_isShakeHere 11 = .ok (.iconst 4, 1) := by decide +kernel
theorem dX12_isShakeHere_12 : decode cX12_isShakeHere 12 = .ok (.aload_n 0, 1) := by decide +kernel
theorem dX12_isShakeHere_13 : decode cX12_isShakeHere 13 = .ok (.getfield 23, 3) := by decide +kernel
theorem dX12_isShakeHere_16 : decode cX12_isShakeHere 16 = .ok (.aload_n 0, 1) := by decide +kernel
theorem dX12_isShakeHere_17 : decode cX12_isShakeHere 17 = .ok (.getfield 153, 3) := by decide +kernel
theorem dX12_isShakeHere_20 : decode cX12_isShakeHere 20 = .ok (.iaload, 1) := by decide +kernel
theorem dX12_isShakeHere_21 : decode cX12_isShakeHere 21 = .ok (.imul, 1) := by decide +kernel
theorem dX12_isShakeHere_22 : decode cX12_isShakeHere 22 = .ok (.iadd, 1) := by decide +kernel
theorem dX12_isShakeHere_23 : decode cX12_isShakeHere 23 = .ok (.istore_n 1, 1) := by decide +kernel
theorem dX12_isShakeHere_24 : decode cX12_isShakeHere 24 = .ok (.aload_n 0, 1) := by decide +kernel
theorem dX12_isShakeHere_25 : decode cX12_isShakeHere 25 = .ok (.getfield 20, 3) := by decide +kernel
theorem dX12_isShakeHere_28 : decode cX12_isShakeHere 28 = .ok (.iload_n 1, 1) := by decide +kernel
theorem dX12_isShakeHere_29 : decode cX12_isShakeHere 29 = .ok (.aload_n 0, 1) := by decide +kernel
theorem dX12_isShakeHere_30 : decode cX12_isShakeHere 30 = .ok (.getfield 17, 3) := by decide +kernel
theorem dX12_isShakeHere_33 : decode cX12_isShakeHere 33 = .ok (.aload_n 0, 1) := by decide +kernel
theorem dX12_isShakeHere_34 : decode cX12_isShakeHere 34 = .ok (.getfield 153, 3) := by decide +kernel
theorem dX12_isShakeHere_37 : decode cX12_isShakeHere 37 = .ok (.iaload, 1) := by decide +kernel
theorem dX12_isShakeHere_38 : decode cX12_isShakeHere 38 = .ok (.iastore, 1) := by decide +kernel
theorem dX12_isShakeHere_39 : decode cX12_isShakeHere 39 = .ok (.aload_n 0, 1) := by decide +kernel
theorem dX12_isShakeHere_40 : decode cX12_isShakeHere 40 = .ok (.invokevirtual 190, 3) := by decide +kernel
theorem dX12_isShakeHere_43 : decode cX12_isShakeHere 43 = .ok (.ifCond .ne 5, 3) := by decide +kernel
theorem dX12_isShakeHere_46 : decode cX12_isShakeHere 46 = .ok (.iconst 0, 1) := by decide +kernel
theorem dX12_isShakeHere_47 : decode cX12_isShakeHere 47 = .ok (.ireturn, 1) := by decide +kernel
theorem dX12_isShakeHere_48 : decode cX12_isShakeHere 48 = .ok (.aload_n 0, 1) := by decide +kernel
theorem dX12_isShakeHere_49 : decode cX12_isShakeHere 49 = .ok (.getfield 20, 3) := by decide +kernel
theorem dX12_isShakeHere_52 : decode cX12_isShakeHere 52 = .ok (.iload_n 1, 1) := by decide +kernel
theorem dX12_isShakeHere_53 : decode cX12_isShakeHere 53 = .ok (.iconst 1, 1) := by decide +kernel
theorem dX12_isShakeHere_54 : decode cX12_isShakeHere 54 = .ok (.iadd, 1) := by decide +kernel
theorem dX12_isShakeHere_55 : decode cX12_isShakeHere 55 = .ok (.aload_n 0, 1) := by decide +kernel
theorem dX12_isShakeHere_56 : decode cX12_isShakeHere 56 = .ok (.getfield 17, 3) := by decide +kernel
theorem dX12_isShakeHere_59 : decode cX12_isShakeHere 59 = .ok (.aload_n 0, 1) := by decide +kernel
theorem dX12_isShakeHere_60 : decode cX12_isShakeHere 60 = .ok (.getfield 153, 3) := by decide +kernel
theorem dX12_isShakeHere_63 : decode cX12_isShakeHere 63 = .ok (.iaload, 1) := by decide +kernel
theorem dX12_isShakeHere_64 : decode cX12_isShakeHere 64 = .ok (.iastore, 1) := by decide +kernel
theorem dX12_isShakeHere_65 : decode cX12_isShakeHere 65 = .ok (.aload_n 0, 1) := by decide +kernel
theorem dX12_isShakeHere_66 : decode cX12_isShakeHere 66 = .ok (.getfield 20, 3) := by decide +kernel
theorem dX12_isShakeHere_69 : decode cX12_isShakeHere 69 = .ok (.iload_n 1, 1) := by decide +kernel
theorem dX12_isShakeHere_70 : decode cX12_isShakeHere 70 = .ok (.iconst 2, 1) := by decide +kernel
theorem dX12_isShakeHere_71 : decode cX12_isShakeHere 71 = .ok (.iadd, 1) := by decide +kernel
theorem dX12_isShakeHere_72 : decode cX12_isShakeHere 72 = .ok (.iconst (-1), 1) := by decide +kernel
theorem dX12_isShakeHere_73 : decode cX12_isShakeHere 73 = .ok (.iastore, 1) := by decide +kernel
theorem dX12_isShakeHere_74 : decode cX12_isShakeHere 74 = .ok (.aload_n 0, 1) := by decide +kernel
theorem dX12_isShakeHere_75 : decode cX12_isShakeHere 75 = .ok (.ldc2_w 217, 3) := by decide +kernel
theorem dX12_isShakeHere_78 : decode cX12_isShakeHere 78 = .ok (.invokevirtual 219, 3) := by decide +kernel
theorem dX12_isShakeHere_81 : decode cX12_isShakeHere 81 = .ok (.ifCond .eq 29, 3) := by decide +kernel
theorem dX12_isShakeHere_84 : decode cX12_isShakeHere 84 = .ok (.aload_n 0, 1) := by decide +kernel
theorem dX12_isShakeHere_85 : decode cX12_isShakeHere 85 = .ok (.getfield 20, 3) := by decide +kernel
theorem dX12_isShakeHere_88 : decode cX12_isShakeHere 88 = .ok (.iload_n 1, 1) := by decide +kernel
theorem dX12_isShakeHere_89 : decode cX12_isShakeHere 89 = .ok (.iconst 2, 1) := by decide +kernel
theorem dX12_isShakeHere_90 : decode cX12_isShakeHere 90 = .ok (.iadd, 1) := by decide +kernel
theorem dX12_isShakeHere_91 : decode cX12_isShakeHere 91 = .ok (.aload_n 0, 1) := by decide +kernel
theorem dX12_isShakeHere_92 : decode cX12_isShakeHere 92 = .ok (.getfield 17, 3) := by decide +kernel
theorem dX12_isShakeHere_95 : decode cX12_isShakeHere 95 = .ok (.aload_n 0, 1) := by decide +kernel
theorem dX12_isShakeHere_96 : decode cX12_isShakeHere 96 = .ok (.getfield 153, 3) := by decide +kernel
theorem dX12_isShakeHere_99 : decode cX12_isShakeHere 99 = .ok (.iaload, 1) := by decide +kernel
theorem dX12_isShakeHere_100 : decode cX12_isShakeHere 100 = .ok (.iastore, 1) := by decide +kernel
theorem dX12_isShakeHere_101 : decode cX12_isShakeHere 101 = .ok (.aload_n 0, 1) := by decide +kernel
theorem dX12_isShakeHere_102 : decode cX12_isShakeHere 102 = .ok (.invokevirtual 222, 3) := by decide +kernel
theorem dX12_isShakeHere_105 : decode cX12_isShakeHere 105 = .ok (.ifCond .ne 5, 3) := by decide +kernel
theorem dX12_isShakeHere_108 : decode cX12_isShakeHere 108 = .ok (.iconst 0, 1) := by decide +kernel
theorem dX12_isShakeHere_109 : decode cX12_isShakeHere 109 = .ok (.ireturn, 1) := by decide +kernel
theorem dX12_isShakeHere_110 : decode cX12_isShakeHere 110 = .ok (.aload_n 0, 1) := by decide +kernel
theorem dX12_isShakeHere_111 : decode cX12_isShakeHere 111 = .ok (.getfield 20, 3) := by decide +kernel
theorem dX12_isShakeHere_114 : decode cX12_isShakeHere 114 = .ok (.iload_n 1, 1) := by decide +kernel
theorem dX12_isShakeHere_115 : decode cX12_isShakeHere 115 = .ok (.iconst 3, 1) := by decide +kernel
theorem dX12_isShakeHere_116 : decode cX12_isShakeHere 116 = .ok (.iadd, 1) := by decide +kernel
theorem dX12_isShakeHere_117 : decode cX12_isShakeHere 117 = .ok (.aload_n 0, 1) := by decide +kernel
theorem dX12_isShakeHere_118 : decode cX12_isShakeHere 118 = .ok (.getfield 17, 3) := by decide +kernel
theorem dX12_isShakeHere_121 : decode cX12_isShakeHere 121 = .ok (.aload_n 0, 1) := by decide +kernel
theorem dX12_isShakeHere_122 : decode cX12_isShakeHere 122 = .ok (.getfield 153, 3) := by decide +kernel
theorem dX12_isShakeHere_125 : decode cX12_isShakeHere 125 = .ok (.iaload, 1) := by decide +kernel
theorem dX12_isShakeHere_126 : decode cX12_isShakeHere 126 = .ok (.iastore, 1) := by decide +kernel
theorem dX12_isShakeHere_127 : decode cX12_isShakeHere 127 = .ok (.aload_n 0, 1) := by decide +kernel
theorem dX12_isShakeHere_128 : decode cX12_isShakeHere 128 = .ok (.getfield 23, 3) := by decide +kernel
theorem dX12_isShakeHere_131 : decode cX12_isShakeHere 131 = .ok (.aload_n 0, 1) := by decide +kernel
theorem dX12_isShakeHere_132 : decode cX12_isShakeHere 132 = .ok (.getfield 153, 3) := by decide +kernel
theorem dX12_isShakeHere_135 : decode cX12_isShakeHere 135 = .ok (.dup2, 1) := by decide +kernel
theorem dX12_isShakeHere_136 : decode cX12_isShakeHere 136 = .ok (.iaload, 1) := by decide +kernel
theorem dX12_isShakeHere_137 : decode cX12_isShakeHere 137 = .ok (.iconst 1, 1) := by decide +kernel
theorem dX12_isShakeHere_138 : decode cX12_isShakeHere 138 = .ok (.iadd, 1) := by decide +kernel
theorem dX12_isShakeHere_139 : decode cX12_isShakeHere 139 = .ok (.iastore, 1) := by decide +kernel
theorem dX12_isShakeHere_140 : decode cX12_isShakeHere 140 = .ok (.iconst 1, 1) := by decide +kernel
theorem dX12_isShakeHere_141 : decode cX12_isShakeHere 141 = .ok (.ireturn, 1) := by decide +kernel
set_option maxRecDepth 20000 in
theorem ggX12_isTownHere_X12_fails : GoodIn wsX12_isTownHere wsX12_fails := goodIn_r _ [7, 8, 35, 36, 37, 38, 39, 40, 41, 42, 43, 44, 45, 46, 47, 48, 49, 50, 51, 52, 53, 54, 55, 56, 57, 58, 59, 60, 61, 62, 63, 64, 65, 66, 67, 68, 69, 70, 71, 72, 73, 74, 75, 76, 77, 78] (by decide +kernel) (by decide +kernel)
set_option maxRecDepth 20000 in
theorem gX12_isTownHere_X12_fails : GoodIn wsX12_isTownHere (wsV RX12 120 RX12 yX12_fails wsX12_fails) := goodIn_app (goodIn_of _ (by decide +kernel)) ggX12_isTownHere_X12_fails
set_option maxRecDepth 20000 in
theorem ggX12_isTownHere_X12_passWord : GoodIn wsX12_isTownHere wsX12_passWord := goodIn_r _ [12, 13, 14, 15, 16, 6, 17, 18, 19, 35, 36, 37, 38, 39, 40, 41, 42, 43, 44, 45, 46, 47, 48, 49, 50, 51, 52, 53, 54, 55, 56, 57, 58, 59, 60, 61, 62, 63, 64, 65, 66, 67, 68, 69, 70, 71, 72, 73, 74, 75, 76, 77, 78] (by decide +kernel) (by decide +kernel)
set_option maxRecDepth 20000 in
theorem gX12_isTownHere_X12_passWord : GoodIn wsX12_isTownHere (wsV RX12 114 RX12 yX12_passWord wsX12_passWord) := goodIn_app (goodIn_of _ (by decide +kernel)) ggX12_isTownHere_X12_passWord
set_option maxRecDepth 20000 in
theorem ggX12_isTownHere_X12_numberHere : GoodIn wsX12_isTownHere wsX12_numberHere := goodIn_r _ [23, 13, 19, 2, 24, 25, 26, 6, 27, 18, 28, 29, 30, 31, 3, 4, 5, 7, 8, 32, 33, 34, 35, 36, 37, 38, 39, 40, 41, 42, 43, 44, 45, 46, 47, 48, 49, 50, 51, 52, 53, 54, 55, 56, 57, 58, 59, 60, 61, 62, 63, 64, 65, 66, 67, 68, 69, 70, 71, 72, 73, 74, 75, 76, 77, 78] (by decide +kernel) (by decide +kernel)
set_option maxRecDepth 20000 in
theorem gX12_isTownHere_X12_numberHere : GoodIn wsX12_isTownHere (wsV RX12 174 RX12 yX12_numberHere wsX12_numberHere) := goodIn_app (goodIn_of _ (by decide +kernel)) ggX12_isTownHere_X12_numberHere
theorem dX12_isTownHere_0 : decode cX12_isTownHere 0 = .ok (.aload_n 0, 1) := by decide +kernel
theorem dX12_isTownHere_1 : decode cX12_isTownHere 1 = .ok (.getfield 26, 3) := by decide +kernel
theorem dX12_isTownHere_4 : decode cX12_isTownHere 4 = .ok (.iconst 0, 1) := by decide +kernel
theorem dX12_isTownHere_5 : decode cX12_isTownHere 5 = .ok (.iaload, 1) := by decide +kernel
theorem dX12_isTownHere_6 : decode cX12_isTownHere 6 = .ok (.ifCond .le 10, 3) := by decide +kernel
theorem dX12_isTownHere_9 : decode cX12_isTownHere 9 = .ok (.aload_n 0, 1) := by decide +kernel
theorem dX12_isTownHere_10 : decode cX12_isTownHere 10 = .ok (.iconst 4, 1) := by decide +kernel
theorem dX12_isTownHere_11 : decode cX12_isTownHere 11 = .ok (.iload_n 1, 1) := by decide +kernel
theorem dX12_isTownHere_12 : decode cX12_isTownHere 12 = .ok (.invokevirtual 120, 3) := by decide +kernel
theorem dX12_isTownHere_15 : decode cX12_isTownHere 15 = .ok (.ireturn, 1) := by decide +kernel
theorem dX12_isTownHere_16 : decode cX12_isTownHere 16 = .ok (.aload_n 0, 1) := by decide +kernel
theorem dX12_isTownHere_17 : decode cX12_isTownHere 17 = .ok (.invokevirtual 114, 3) := by decide +kernel
theorem dX12_isTownHere_20 : decode cX12_isTownHere 20 = .ok (.aload_n 0, 1) := by decide +kernel
theorem dX12_isTownHere_21 : decode cX12_isTownHere 21 = .ok (.iconst 2, 1) := by decide +kernel
theorem dX12_isTownHere_22 : decode cX12_isTownHere 22 = .ok (.bipush 6, 2) := by decide +kernel
theorem dX12_isTownHere_24 : decode cX12_isTownHere 24 = .ok (.invokevirtual 174, 3) := by decide +kernel
theorem dX12_isTownHere_27 : decode cX12_isTownHere 27 = .ok (.ifCond .ne 5, 3) := by decide +kernel
theorem dX12_isTownHere_30 : decode cX12_isTownHere 30 = .ok (.iconst 0, 1) := by decide +kernel
theorem dX12_isTownHere_31 : decode cX12_isTownHere 31 = .ok (.ireturn, 1) := by decide +kernel
theorem dX12_isTownHere_32 : decode cX12_isTownHere 32 = .ok (.aload_n 0, 1) := by decide +kernel
theorem dX12_isTownHere_33 : decode cX12_isTownHere 33 = .ok (.getfield 26, 3) := by decide +kernel
theorem dX12_isTownHere_36 : decode cX12_isTownHere 36 = .ok (.iconst 0, 1) := by decide +kernel
theorem dX12_isTownHere_37 : decode cX12_isTownHere 37 = .ok (.aload_n 0, 1) := by decide +kernel
theorem dX12_isTownHere_38 : decode cX12_isTownHere 38 = .ok (.getfield 124, 3) := by decide +kernel
theorem dX12_isTownHere_41 : decode cX12_isTownHere 41 = .ok (.iastore, 1) := by decide +kernel
theorem dX12_isTownHere_42 : decode cX12_isTownHere 42 = .ok (.aload_n 0, 1) := by decide +kernel
theorem dX12_isTownHere_43 : decode cX12_isTownHere 43 = .ok (.iconst 1, 1) := by decide +kernel
theorem dX12_isTownHere_44 : decode cX12_isTownHere 44 = .ok (.bipush 12, 2) := by decide +kernel
theorem dX12_isTownHere_46 : decode cX12_isTownHere 46 = .ok (.invokevirtual 174, 3) := by decide +kernel
theorem dX12_isTownHere_49 : decode cX12_isTownHere 49 = .ok (.ifCond .ne 5, 3) := by decide +kernel
theorem dX12_isTownHere_52 : decode cX12_isTownHere 52 = .ok (.iconst 0, 1) := by decide +kernel
theorem dX12_isTownHere_53 : decode cX12_isTownHere 53 = .ok (.ireturn, 1) := by decide +kernel
theorem dX12_isTownHere_54 : decode cX12_isTownHere 54 = .ok (.aload_n 0, 1) := by decide +kernel
theorem dX12_isTownHere_55 : decode cX12_isTownHere 55 = .ok (.getfield 26, 3) := by decide +kernel
theorem dX12_isTownHere_58 : decode cX12_isTownHere 58 = .ok (.iconst 1, 1) := by decide +kernel
theorem dX12_isTownHere_59 : decode cX12_isTownHere 59 = .ok (.aload_n 0, 1) := by decide +kernel
theorem dX12_isTownHere_60 : decode cX12_isTownHere 60 = .ok (.getfield 124, 3) := by decide +kernel
theorem dX12_isTownHere_63 : decode cX12_isTownHere 63 = .ok (.iastore, 1) := by decide +kernel
theorem dX12_isTownHere_64 : decode cX12_isTownHere 64 = .ok (.iconst 1, 1) := by decide +kernel
theorem dX12_isTownHere_65 : decode cX12_isTownHere 65 = .ok (.ireturn, 1) := by decide +kernel
set_option maxRecDepth 20000 in
theorem ggX12_isPersonHere_X12_fails : GoodIn wsX12_isPersonHere wsX12_fails := goodIn_r _ [9, 10, 27, 28, 29, 30, 31, 32, 33, 34, 35, 36, 37, 38, 39, 40, 41, 42, 43, 44, 45, 46, 47, 48, 49, 50, 51, 52, 53, 54, 55, 56, 57, 58, 59, 60, 61, 62, 63, 64, 65, 66, 67, 68, 69, 70] (by decide +kernel) (by decide +kernel)
set_option maxRecDepth 20000 in
theorem gX12_isPersonHere_X12_fails : GoodIn wsX12_isPersonHere (wsV RX12 120 RX12 yX12_fails wsX12_fails) := goodIn_app (goodIn_of _ (by decide +kernel)) ggX12_isPersonHere_X12_fails
set_option maxRecDepth 20000 in
theorem ggX12_isPersonHere_X12_passWord : GoodIn wsX12_isPersonHere wsX12_passWord := goodIn_r _ [14, 2, 15, 16, 17, 8, 18, 3, 4, 27, 28, 29, 30, 31, 32, 33, 34, 35, 36, 37, 38, 39, 40, 41, 42, 43, 44, 45, 46, 47, 48, 49, 50, 51, 52, 53, 54, 55, 56, 57, 58, 59, 60, 61, 62, 63, 64, 65, 66, 67, 68, 69, 70] (by decide +kernel) (by decide +kernel)
set_option maxRecDepth 20000 in
theorem gX12_isPersonHere_X12_passWord : GoodIn wsX12_isPersonHere (wsV RX12 114 RX12 yX12_passWord wsX12_passWord) := goodIn_app (goodIn_of _ (by decide +kernel)) ggX12_isPersonHere_X12_passWord
set_option maxRecDepth 20000 in
theorem ggX12_isPersonHere_X12_see : GoodIn wsX12_isPersonHere wsX12_see := goodIn_r _ [22, 2, 3, 4, 27, 28, 29, 30, 31, 32, 33, 34, 35, 36, 37, 38, 39, 40, 41, 42, 43, 44, 45, 46, 47, 48, 49, 50, 51, 52, 53, 54, 55, 56, 57, 58, 59, 60, 61, 62, 63, 64, 65, 66, 67, 68, 69, 70] (by decide +kernel) (by decide +kernel)
set_option maxRecDepth 20000 in
theorem gX12_isPersonHere_X12_see : GoodIn wsX12_isPersonHere (wsV RX12 102 RX12 yX12_see wsX12_see) := goodIn_app (goodIn_of _ (by decide +kernel)) ggX12_isPersonHere_X12_see
set_option maxRecDepth 20000 in
theorem ggX12_isPersonHere_X12_isDigit : GoodIn wsX12_isPersonHere wsX12_isDigit := goodIn_r _ [26, 3, 4, 27, 28, 29, 30, 31, 32, 33, 34, 35, 36, 37, 38, 39, 40, 41, 42, 43, 44, 45, 46, 47, 48, 49, 50, 51, 52, 53, 54, 55, 56, 57, 58, 59, 60, 61, 62, 63, 64, 65, 66, 67, 68, 69, 70] (by decide +kernel) (by decide +kernel)
set_option maxRecDepth 20000 in
theorem gX12_isPersonHere_X12_isDigit : GoodIn wsX12_isPersonHere (wsV RX12 117 RX12 yX12_isDigit wsX12_isDigit) := goodIn_app (goodIn_of _ (by decide +kernel)) ggX12_isPersonHere_X12_isDigit
theorem dX12_isPersonHere_0 : decode cX12_isPersonHere 0 = .ok (.aload_n 0, 1) := by decide +kernel
theorem dX12_isPersonHere_1 : decode cX12_isPersonHere 1 = .ok (.getfield 26, 3) := by decide +kernel
theorem dX12_isPersonHere_4 : decode cX12_isPersonHere 4 = .ok (.iconst 2, 1) := by decide +kernel
theorem dX12_isPersonHere_5 : decode cX12_isPersonHere 5 = .ok (.iaload, 1) := by decide +kernel
theorem dX12_isPersonHere_6 : decode cX12_isPersonHere 6 = .ok (.bipush 10, 2) := by decide +kernel
theorem dX12_isPersonHere_8 : decode cX12_isPersonHere 8 = .ok (.if_icmp .ne 10, 3) := by decide +kernel
theorem dX12_isPersonHere_11 : decode cX12_isPersonHere 11 = .ok (.aload_n 0, 1) := by decide +kernel
theorem dX12_isPersonHere_12 : decode cX12_isPersonHere 12 = .ok (.iconst 4, 1) := by decide +kernel
theorem dX12_isPersonHere_13 : decode cX12_isPersonHere 13 = .ok (.iload_n 1, 1) := by decide +kernel
theorem dX12_isPersonHere_14 : decode cX12_isPersonHere 14 = .ok (.invokevirtual 120, 3) := by decide +kernel
theorem dX12_isPersonHere_17 : decode cX12_isPersonHere 17 = .ok (.ireturn, 1) := by decide +kernel
theorem dX12_isPersonHere_18 : decode cX12_isPersonHere 18 = .ok (.aload_n 0, 1) := by decide +kernel
theorem dX12_isPersonHere_19 : decode cX12_isPersonHere 19 = .ok (.invokevirtual 114, 3) := by decide +kernel
theorem dX12_isPersonHere_22 : decode cX12_isPersonHere 22 = .ok (.aload_n 0, 1) := by decide +kernel
theorem dX12_isPersonHere_23 : decode cX12_isPersonHere 23 = .ok (.invokevirtual 102, 3) := by decide +kernel
theorem dX12_isPersonHere_26 : decode cX12_isPersonHere 26 = .ok (.pop, 1) := by decide +kernel
theorem dX12_isPersonHere_27 : decode cX12_isPersonHere 27 = .ok (.aload_n 0, 1) := by decide +kernel
theorem dX12_isPersonHere_28 : decode cX12_isPersonHere 28 = .ok (.getfield 26, 3) := by decide +kernel
theorem dX12_isPersonHere_31 : decode cX12_isPersonHere 31 = .ok (.iconst 2, 1) := by decide +kernel
theorem dX12_isPersonHere_32 : decode cX12_isPersonHere 32 = .ok (.iaload, 1) := by decide +kernel
theorem dX12_isPersonHere_33 : decode cX12_isPersonHere 33 = .ok (.istore_n 2, 1) := by decide +kernel
theorem dX12_isPersonHere_34 : decode cX12_isPersonHere 34 = .ok (.iconst 0, 1) := by decide +kernel
theorem dX12_isPersonHere_35 : decode cX12_isPersonHere 35 = .ok (.istore_n 3, 1) := by decide +kernel
theorem dX12_isPersonHere_36 : decode cX12_isPersonHere 36 = .ok (.iload_n 3, 1) := by decide +kernel
theorem dX12_isPersonHere_37 : decode cX12_isPersonHere 37 = .ok (.aload_n 0, 1) := by decide +kernel
theorem dX12_isPersonHere_38 : decode cX12_isPersonHere 38 = .ok (.getfield 26, 3) := by decide +kernel
theorem dX12_isPersonHere_41 : decode cX12_isPersonHere 41 = .ok (.iconst 1, 1) := by decide +kernel
theorem dX12_isPersonHere_42 : decode cX12_isPersonHere 42 = .ok (.iaload, 1) := by decide +kernel
theorem dX12_isPersonHere_43 : decode cX12_isPersonHere 43 = .ok (.if_icmp .ge 149, 3) := by decide +kernel
theorem dX12_isPersonHere_46 : decode cX12_isPersonHere 46 = .ok (.aload_n 0, 1) := by decide +kernel
theorem dX12_isPersonHere_47 : decode cX12_isPersonHere 47 = .ok (.getfield 99, 3) := by decide +kernel
theorem dX12_isPersonHere_50 : decode cX12_isPersonHere 50 = .ok (.aload_n 0, 1) := by decide +kernel
theorem dX12_isPersonHere_51 : decode cX12_isPersonHere 51 = .ok (.getfield 89, 3) := by decide +kernel
theorem dX12_isPersonHere_54 : decode cX12_isPersonHere 54 = .ok (.if_icmp .ge 21, 3) := by decide +kernel
theorem dX12_isPersonHere_57 : decode cX12_isPersonHere 57 = .ok (.aload_n 0, 1) := by decide +kernel
theorem dX12_isPersonHere_58 : decode cX12_isPersonHere 58 = .ok (.getfield 7, 3) := by decide +kernel
theorem dX12_isPersonHere_61 : decode cX12_isPersonHere 61 = .ok (.aload_n 0, 1) := by decide +kernel
theorem dX12_isPersonHere_62 : decode cX12_isPersonHere 62 = .ok (.getfield 99, 3) := by decide +kernel
theorem dX12_isPersonHere_65 : decode cX12_isPersonHere 65 = .ok (.baload, 1) := by decide +kernel
theorem dX12_isPersonHere_66 : decode cX12_isPersonHere 66 = .ok (.bipush 45, 2) := by decide +kernel
theorem dX12_isPersonHere_68 : decode cX12_isPersonHere 68 = .ok (.if_icmp .ne 7, 3) := by decide +kernel
theorem dX12_isPersonHere_71 : decode cX12_isPersonHere 71 = .ok (.iconst 1, 1) := by decide +kernel
theorem dX12_isPersonHere_72 : decode cX12_isPersonHere 72 = .ok (.goto 4, 3) := by decide +kernel
theorem dX12_isPersonHere_75 : decode cX12_isPersonHere 75 = .ok (.iconst 0, 1) := by decide +kernel
theorem dX12_isPersonHere_76 : decode cX12_isPersonHere 76 = .ok (.istore 4, 2) := by decide +kernel
theorem dX12_isPersonHere_78 : decode cX12_isPersonHere 78 = .ok (.iload 4, 2) := by decide +kernel
theorem dX12_isPersonHere_80 : decode cX12_isPersonHere 80 = .ok (.ifCond .ne 24, 3) := by decide +kernel
theorem dX12_isPersonHere_83 : decode cX12_isPersonHere 83 = .ok (.aload_n 0, 1) := by decide +kernel
theorem dX12_isPersonHere_84 : decode cX12_isPersonHere 84 = .ok (.aload_n 0, 1) := by decide +kernel
theorem dX12_isPersonHere_85 : decode cX12_isPersonHere 85 = .ok (.getfield 99, 3) := by decide +kernel
theorem dX12_isPersonHere_88 : decode cX12_isPersonHere 88 = .ok (.invokevirtual 117, 3) := by decide +kernel
theorem dX12_isPersonHere_91 : decode cX12_isPersonHere 91 = .ok (.ifCond .ne 13, 3) := by decide +kernel
theorem dX12_isPersonHere_94 : decode cX12_isPersonHere 94 = .ok (.aload_n 0, 1) := by decide +kernel
theorem dX12_isPersonHere_95 : decode cX12_isPersonHere 95 = .ok (.iconst 0, 1) := by decide +kernel
theorem dX12_isPersonHere_96 : decode cX12_isPersonHere 96 = .ok (.aload_n 0, 1) := by decide +kernel
theorem dX12_isPersonHere_97 : decode cX12_isPersonHere 97 = .ok (.getfield 99, 3) := by decide +kernel
theorem dX12_isPersonHere_100 : decode cX12_isPersonHere 100 = .ok (.invokevirtual 120, 3) := by decide +kernel
theorem dX12_isPersonHere_103 : decode cX12_isPersonHere 103 = .ok (.ireturn, 1) := by decide +kernel
theorem dX12_isPersonHere_104 : decode cX12_isPersonHere 104 = .ok (.iload 4, 2) := by decide +kernel
theorem dX12_isPersonHere_106 : decode cX12_isPersonHere 106 = .ok (.ifCond .ne 34, 3) := by decide +kernel
theorem dX12_isPersonHere_109 : decode cX12_isPersonHere 109 = .ok (.aload_n 0, 1) := by decide +kernel
theorem dX12_isPersonHere_110 : decode cX12_isPersonHere 110 = .ok (.getfield 7, 3) := by decide +kernel
theorem dX12_isPersonHere_113 : decode cX12_isPersonHere 113 = .ok (.aload_n 0, 1) := by decide +kernel
theorem dX12_isPersonHere_114 : decode cX12_isPersonHere 114 = .ok (.getfield 99, 3) := by decide +kernel
theorem dX12_isPersonHere_117 : decode cX12_isPersonHere 117 = .ok (.baload, 1) := by decide +kernel
theorem dX12_isPersonHere_118 : decode cX12_isPersonHere 118 = .ok (.bipush 48, 2) := by decide +kernel
theorem dX12_isPersonHere_120 : decode cX12_isPersonHere 120 = .ok (.isub, 1) := by decide +kernel
theorem dX12_isPersonHere_121 : decode cX12_isPersonHere 121 = .ok (.aload_n 0, 1) := by decide +kernel
theorem dX12_isPersonHere_122 : decode cX12_isPersonHere 122 = .ok (.getfield 26, 3) := by decide +kernel
theorem dX12_isPersonHere_125 : decode cX12_isPersonHere 125 = .ok (.iconst 0, 1) := by decide +kernel
theorem dX12_isPersonHere_126 : decode cX12_isPersonHere 126 = .ok (.iaload, 1) := by decide +kernel
theorem dX12_isPersonHere_127 : decode cX12_isPersonHere 127 = .ok (.if_icmp .lt 13, 3) := by decide +kernel
theorem dX12_isPersonHere_130 : decode cX12_isPersonHere 130 = .ok (.aload_n 0, 1) := by decide +kernel
theorem dX12_isPersonHere_131 : decode cX12_isPersonHere 131 = .ok (.iconst 1, 1) := by decide +kernel
theorem dX12_isPersonHere_132 : decode cX12_isPersonHere 132 = .ok (.aload_n 0, 1) := by decide +kernel
theorem dX12_isPersonHere_133 : decode cX12_isPersonHere 133 = .ok (.getfield 99, 3) := by decide +kernel
theorem dX12_isPersonHere_136 : decode cX12_isPersonHere 136 = .ok (.invokevirtual 120, 3) := by decide +kernel
theorem dX12_isPersonHere_139 : decode cX12_isPersonHere 139 = .ok (.ireturn, 1) := by decide +kernel
theorem dX12_isPersonHere_140 : decode cX12_isPersonHere 140 = .ok (.aload_n 0, 1) := by decide +kernel
theorem dX12_isPersonHere_141 : decode cX12_isPersonHere 141 = .ok (.getfield 26, 3) := by decide +kernel
theorem dX12_isPersonHere_144 : decode cX12_isPersonHere 144 = .ok (.bipush 10, 2) := by decide +kernel
theorem dX12_isPersonHere_146 : decode cX12_isPersonHere 146 = .ok (.bipush 12, 2) := by decide +kernel
theorem dX12_isPersonHere_148 : decode cX12_isPersonHere 148 = .ok (.iload_n 2, 1) := by decide +kernel
theorem dX12_isPersonHere_149 : decode cX12_isPersonHere 149 = .ok (.imul, 1) := by decide +kernel
theorem dX12_isPersonHere_150 : decode cX12_isPersonHere 150 = .ok (.iadd, 1) := by decide +kernel
theorem dX12_isPersonHere_151 : decode cX12_isPersonHere 151 = .ok (.iload_n 3, 1) := by decide +kernel
theorem dX12_isPersonHere_152 : decode cX12_isPersonHere 152 = .ok (.iadd, 1) := by decide +kernel
theorem dX12_isPersonHere_153 : decode cX12_isPersonHere 153 = .ok (.iload 4, 2) := by decide +kernel
theorem dX12_isPersonHere_155 : decode cX12_isPersonHere 155 = .ok (.ifCond .eq 8, 3) := by decide +kernel
theorem dX12_isPersonHere_158 : decode cX12_isPersonHere 158 = .ok (.bipush 99, 2) := by decide +kernel
theorem dX12_isPersonHere_160 : decode cX12_isPersonHere 160 = .ok (.goto 15, 3) := by decide +kernel
theorem dX12_isPersonHere_163 : decode cX12_isPersonHere 163 = .ok (.aload_n 0, 1) := by decide +kernel
theorem dX12_isPersonHere_164 : decode cX12_isPersonHere 164 = .ok (.getfield 7, 3) := by decide +kernel
theorem dX12_isPersonHere_167 : decode cX12_isPersonHere 167 = .ok (.aload_n 0, 1) := by decide +kernel
theorem dX12_isPersonHere_168 : decode cX12_isPersonHere 168 = .ok (.getfield 99, 3) := by decide +kernel
theorem dX12_isPersonHere_171 : decode cX12_isPersonHere 171 = .ok (.baload, 1) := by decide +kernel
theorem dX12_isPersonHere_172 : decode cX12_isPersonHere 172 = .ok (.bipush 48, 2) := by decide +kernel
theorem dX12_isPersonHere_174 : decode cX12_isPersonHere 174 = .ok (.isub, 1) := by decide +kernel
theorem dX12_isPersonHere_175 : decode cX12_isPersonHere 175 = .ok (.iastore, 1) := by decide +kernel
theorem dX12_isPersonHere_176 : decode cX12_isPersonHere 176 = .ok (.aload_n 0, 1) := by decide +kernel
theorem dX12_isPersonHere_177 : decode cX12_isPersonHere 177 = .ok (.dup, 1) := by decide +kernel
theorem dX12_isPersonHere_178 : decode cX12_isPersonHere 178 = .ok (.getfield 99, 3) := by decide +kernel
theorem dX12_isPersonHere_181 : decode cX12_isPersonHere 181 = .ok (.iconst 1, 1) := by decide +kernel
theorem dX12_isPersonHere_182 : decode cX12_isPersonHere 182 = .ok (.iadd, 1) := by decide +kernel
theorem dX12_isPersonHere_183 : decode cX12_isPersonHere 183 = .ok (.putfield 99, 3) := by decide +kernel
theorem dX12_isPersonHere_186 : decode cX12_isPersonHere 186 = .ok (.iinc 3 1, 3) := by decide +kernel
theorem dX12_isPersonHere_189 : decode cX12_isPersonHere 189 = .ok (.goto (-153), 3) := by decide +kernel
theorem dX12_isPersonHere_192 : decode cX12_isPersonHere 192 = .ok (.iconst 0, 1) := by decide +kernel
theorem dX12_isPersonHere_193 : decode cX12_isPersonHere 193 = .ok (.istore_n 3, 1) := by decide +kernel
theorem dX12_isPersonHere_194 : decode cX12_isPersonHere 194 = .ok (.iload_n 3, 1) := by decide +kernel
theorem dX12_isPersonHere_195 : decode cX12_isPersonHere 195 = .ok (.iconst 4, 1) := by decide +kernel
theorem dX12_isPersonHere_196 : decode cX12_isPersonHere 196 = .ok (.if_icmp .ge 24, 3) := by decide +kernel
theorem dX12_isPersonHere_199 : decode cX12_isPersonHere 199 = .ok (.aload_n 0, 1) := by decide +kernel
theorem dX12_isPersonHere_200 : decode cX12_isPersonHere 200 = .ok (.getfield 26, 3) := by decide +kernel
theorem dX12_isPersonHere_203 : decode cX12_isPersonHere 203 = .ok (.sipush 130, 3) := by decide +kernel
theorem dX12_isPersonHere_206 : decode cX12_isPersonHere 206 = .ok (.iconst 4, 1) := by decide +kernel
theorem dX12_isPersonHere_207 : decode cX12_isPersonHere 207 = .ok (.iload_n 2, 1) := by decide +kernel
theorem dX12_isPersonHere_208 : decode cX12_isPersonHere 208 = .ok (.imul, 1) := by decide +kernel
theorem dX12_isPersonHere_209 : decode cX12_isPersonHere 209 = .ok (.iadd, 1) := by decide +kernel
theorem dX12_isPersonHere_210 : decode cX12_isPersonHere 210 = .ok (.iload_n 3, 1) := by decide +kernel
theorem dX12_isPersonHere_211 : decode cX12_isPersonHere 211 = .ok (.iadd, 1) := by decide +kernel
theorem dX12_isPersonHere_212 : decode cX12_isPersonHere 212 = .ok (.iconst 0, 1) := by decide +kernel
theorem dX12_isPersonHere_213 : decode cX12_isPersonHere 213 = .ok (.iastore, 1) := by decide +kernel
theorem dX12_isPersonHere_214 : decode cX12_isPersonHere 214 = .ok (.iinc 3 1, 3) := by decide +kernel
theorem dX12_isPersonHere_217 : decode cX12_isPersonHere 217 = .ok (.goto (-23), 3) := by decide +kernel
theorem dX12_isPersonHere_220 : decode cX12_isPersonHere 220 = .ok (.aload_n 0, 1) := by decide +kernel
theorem dX12_isPersonHere_221 : decode cX12_isPersonHere 221 = .ok (.getfield 26, 3) := by decide +kernel
theorem dX12_isPersonHere_224 : decode cX12_isPersonHere 224 = .ok (.iconst 2, 1) := by decide +kernel
theorem dX12_isPersonHere_225 : decode cX12_isPersonHere 225 = .ok (.dup2, 1) := by decide +kernel
theorem dX12_isPersonHere_226 : decode cX12_isPersonHere 226 = .ok (.iaload, 1) := by decide +kernel
theorem dX12_isPersonHere_227 : decode cX12_isPersonHere 227 = .ok (.iconst 1, 1) := by decide +kernel
theorem dX12_isPersonHere_228 : decode cX12_isPersonHere 228 = .ok (.iadd, 1) := by decide +kernel
theorem dX12_isPersonHere_229 : decode cX12_isPersonHere 229 = .ok (.iastore, 1) := by decide +kernel
theorem dX12_isPersonHere_230 : decode cX12_isPersonHere 230 = .ok (.iconst 1, 1) := by decide +kernel
theorem dX12_isPersonHere_231 : decode cX12_isPersonHere 231 = .ok (.ireturn, 1) := by decide +kernel
set_option maxRecDepth 20000 in
theorem ggX12_isMarkHere_X12_passWord : GoodIn wsX12_isMarkHere wsX12_passWord := goodIn_r _ [7, 8, 9, 10, 11, 6, 12, 13, 14, 35, 36, 37, 38, 39, 40, 41, 42, 43, 44, 45, 46, 47, 48, 49, 50, 51, 52, 53, 54, 55, 56, 57, 58, 59, 60, 61, 62, 63, 64, 65, 66, 67, 68, 69, 70, 71, 72, 73, 74, 75, 76, 77, 78] (by decide +kernel) (by decide +kernel)
set_option maxRecDepth 20000 in
theorem gX12_isMarkHere_X12_passWord : GoodIn wsX12_isMarkHere (wsV RX12 114 RX12 yX12_passWord wsX12_passWord) := goodIn_app (goodIn_of _ (by decide +kernel)) ggX12_isMarkHere_X12_passWord
set_option maxRecDepth 20000 in
theorem ggX12_isMarkHere_X12_numberHere : GoodIn wsX12_isMarkHere wsX12_numberHere := goodIn_r _ [18, 8, 14, 2, 19, 20, 21, 6, 22, 13, 23, 24, 25, 26, 27, 28, 29, 30, 31, 32, 33, 34, 35, 36, 37, 38, 39, 40, 41, 42, 43, 44, 45, 46, 47, 48, 49, 50, 51, 52, 53, 54, 55, 56, 57, 58, 59, 60, 61, 62, 63, 64, 65, 66, 67, 68, 69, 70, 71, 72, 73, 74, 75, 76, 77, 78] (by decide +kernel) (by decide +kernel)
set_option maxRecDepth 20000 in
theorem gX12_isMarkHere_X12_numberHere : GoodIn wsX12_isMarkHere (wsV RX12 174 RX12 yX12_numberHere wsX12_numberHere) := goodIn_app (goodIn_of _ (by decide +kernel)) ggX12_isMarkHere_X12_numberHere
theorem dX12_isMarkHere_0 : decode cX12_isMarkHere 0 = .ok (.aload_n 0, 1) := by decide +kernel
theorem dX12_isMarkHere_1 : decode cX12_isMarkHere 1 = .ok (.invokevirtual 114, 3) := by decide +kernel
theorem dX12_isMarkHere_4 : decode cX12_isMarkHere 4 = .ok (.aload_n 0, 1) := by decide +kernel
theorem dX12_isMarkHere_5 : decode cX12_isMarkHere 5 = .ok (.iconst 0, 1) := by decide +kernel
theorem dX12_isMarkHere_6 : decode cX12_isMarkHere 6 = .ok (.aload_n 0, 1) := by decide +kernel
theorem dX12_isMarkHere_7 : decode cX12_isMarkHere 7 = .ok (.getfield 26, 3) := by decide +kernel
theorem dX12_isMarkHere_10 : decode cX12_isMarkHere 10 = .ok (.iconst 2, 1) := by decide +kernel
theorem dX12_isMarkHere_11 : decode cX12_isMarkHere 11 = .ok (.iaload, 1) := by decide +kernel
theorem dX12_isMarkHere_12 : decode cX12_isMarkHere 12 = .ok (.iconst 1, 1) := by decide +kernel
theorem dX12_isMarkHere_13 : decode cX12_isMarkHere 13 = .ok (.isub, 1) := by decide +kernel
theorem dX12_isMarkHere_14 : decode cX12_isMarkHere 14 = .ok (.invokevirtual 174, 3) := by decide +kernel
theorem dX12_isMarkHere_17 : decode cX12_isMarkHere 17 = .ok (.ifCond .ne 5, 3) := by decide +kernel
theorem dX12_isMarkHere_20 : decode cX12_isMarkHere 20 = .ok (.iconst 0, 1) := by decide +kernel
theorem dX12_isMarkHere_21 : decode cX12_isMarkHere 21 = .ok (.ireturn, 1) := by decide +kernel
theorem dX12_isMarkHere_22 : decode cX12_isMarkHere 22 = .ok (.aload_n 0, 1) := by decide +kernel
theorem dX12_isMarkHere_23 : decode cX12_isMarkHere 23 = .ok (.getfield 26, 3) := by decide +kernel
theorem dX12_isMarkHere_26 : decode cX12_isMarkHere 26 = .ok (.sipush 130, 3) := by decide +kernel
theorem dX12_isMarkHere_29 : decode cX12_isMarkHere 29 = .ok (.iconst 4, 1) := by decide +kernel
theorem dX12_isMarkHere_30 : decode cX12_isMarkHere 30 = .ok (.aload_n 0, 1) := by decide +kernel
theorem dX12_isMarkHere_31 : decode cX12_isMarkHere 31 = .ok (.getfield 124, 3) := by decide +kernel
theorem dX12_isMarkHere_34 : decode cX12_isMarkHere 34 = .ok (.imul, 1) := by decide +kernel
theorem dX12_isMarkHere_35 : decode cX12_isMarkHere 35 = .ok (.iadd, 1) := by decide +kernel
theorem dX12_isMarkHere_36 : decode cX12_isMarkHere 36 = .ok (.iload_n 1, 1) := by decide +kernel
theorem dX12_isMarkHere_37 : decode cX12_isMarkHere 37 = .ok (.iadd, 1) := by decide +kernel
theorem dX12_isMarkHere_38 : decode cX12_isMarkHere 38 = .ok (.iconst 1, 1) := by decide +kernel
theorem dX12_isMarkHere_39 : decode cX12_isMarkHere 39 = .ok (.iastore, 1) := by decide +kernel
theorem dX12_isMarkHere_40 : decode cX12_isMarkHere 40 = .ok (.iconst 1, 1) := by decide +kernel
theorem dX12_isMarkHere_41 : decode cX12_isMarkHere 41 = .ok (.ireturn, 1) := by decide +kernel
set_option maxRecDepth 20000 in
theorem ggX12_areKinHere_X12_passWord : GoodIn wsX12_areKinHere wsX12_passWord := goodIn_r _ [8, 3, 9, 10, 11, 7, 12, 13, 14, 35, 36, 37, 38, 39, 40, 41, 42, 43, 44, 45, 46, 47, 48, 49, 50, 51, 52, 53, 54, 55, 56, 57, 58, 59, 60, 61, 62, 63, 64, 65, 66, 67, 68, 69, 70, 71, 72, 73, 74, 75, 76, 77, 78] (by decide +kernel) (by decide +kernel)
set_option maxRecDepth 20000 in
theorem gX12_areKinHere_X12_passWord : GoodIn wsX12_areKinHere (wsV RX12 114 RX12 yX12_passWord wsX12_passWord) := goodIn_app (goodIn_of _ (by decide +kernel)) ggX12_areKinHere_X12_passWord
set_option maxRecDepth 20000 in
theorem ggX12_areKinHere_X12_numberHere : GoodIn wsX12_areKinHere wsX12_numberHere := goodIn_r _ [18, 3, 14, 2, 19, 20, 21, 7, 22, 13, 23, 24, 25, 26, 27, 28, 29, 30, 31, 32, 33, 34, 35, 36, 37, 38, 39, 40, 41, 42, 43, 44, 45, 46, 47, 48, 49, 50, 51, 52, 53, 54, 55, 56, 57, 58, 59, 60, 61, 62, 63, 64, 65, 66, 67, 68, 69, 70, 71, 72, 73, 74, 75, 76, 77, 78] (by decide +kernel) (by decide +kernel)
set_option maxRecDepth 20000 in
theorem gX12_areKinHere_X12_numberHere : GoodIn wsX12_areKinHere (wsV RX12 174 RX12 yX12_numberHere wsX12_numberHere) := goodIn_app (goodIn_of _ (by decide +kernel)) ggX12_areKinHere_X12_numberHere
set_option maxRecDepth 20000 in
theorem ggX12_areKinHere_X12_see : GoodIn wsX12_areKinHere wsX12_see := goodIn_r _ [22, 3, 13, 14, 35, 36, 37, 38, 39, 40, 41, 42, 43, 44, 45, 46, 47, 48, 49, 50, 51, 52, 53, 54, 55, 56, 57, 58, 59, 60, 61, 62, 63, 64, 65, 66, 67, 68, 69, 70, 71, 72, 73, 74, 75, 76, 77, 78] (by decide +kernel) (by decide +kernel)
set_option maxRecDepth 20000 in
theorem gX12_areKinHere_X12_see : GoodIn wsX12_areKinHere (wsV RX12 102 RX12 yX12_see wsX12_see) := goodIn_app (goodIn_of _ (by decide +kernel)) ggX12_areKinHere_X12_see
set_option maxRecDepth 20000 in
theorem ggX12_areKinHere_X12_fails : GoodIn wsX12_areKinHere wsX12_fails := goodIn_r _ [30, 31, 35, 36, 37, 38, 39, 40, 41, 42, 43, 44, 45, 46, 47, 48, 49, 50, 51, 52, 53, 54, 55, 56, 57, 58, 59, 60, 61, 62, 63, 64, 65, 66, 67, 68, 69, 70, 71, 72, 73, 74, 75, 76, 77, 78] (by decide +kernel) (by decide +kernel)
set_option maxRecDepth 20000 in
theorem gX12_areKinHere_X12_fails : GoodIn wsX12_areKinHere (wsV RX12 120 RX12 yX12_fails wsX12_fails) := goodIn_app (goodIn_of _ (by decide +kernel)) ggX12_areKinHere_X12_fails
theorem dX12_areKinHere_0 : decode cX12_areKinHere 0 = .ok (.aload_n 0, 1) := by decide +kernel
theorem dX12_areKinHere_1 : decode cX12_areKinHere 1 = .ok (.invokevirtual 114, 3) := by decide +kernel
theorem dX12_areKinHere_4 : decode cX12_areKinHere 4 = .ok (.aload_n 0, 1) := by decide +kernel
theorem dX12_areKinHere_5 : decode cX12_areKinHere 5 = .ok (.iconst 0, 1) := by decide +kernel
theorem dX12_areKinHere_6 : decode cX12_areKinHere 6 = .ok (.aload_n 0, 1) := by decide +kernel
theorem dX12_areKinHere_7 : decode cX12_areKinHere 7 = .ok (.getfield 26, 3) := by decide +kernel
theorem dX12_areKinHere_10 : decode cX12_areKinHere 10 = .ok (.iconst 2, 1) := by decide +kernel
theorem dX12_areKinHere_11 : decode cX12_areKinHere 11 = .ok (.iaload, 1) := by decide +kernel
theorem dX12_areKinHere_12 : decode cX12_areKinHere 12 = .ok (.iconst 1, 1) := by decide +kernel
theorem dX12_areKinHere_13 : decode cX12_areKinHere 13 = .ok (.isub, 1) := by decide +kernel
theorem dX12_areKinHere_14 : decode cX12_areKinHere 14 = .ok (.invokevirtual 174, 3) := by decide +kernel
theorem dX12_areKinHere_17 : decode cX12_areKinHere 17 = .ok (.ifCond .ne 5, 3) := by decide +kernel
theorem dX12_areKinHere_20 : decode cX12_areKinHere 20 = .ok (.iconst 0, 1) := by decide +kernel
theorem dX12_areKinHere_21 : decode cX12_areKinHere 21 = .ok (.ireturn, 1) := by decide +kernel
theorem dX12_areKinHere_22 : decode cX12_areKinHere 22 = .ok (.aload_n 0, 1) := by decide +kernel
theorem dX12_areKinHere_23 : decode cX12_areKinHere 23 = .ok (.getfield 124, 3) := by decide +kernel
theorem dX12_areKinHere_26 : decode cX12_areKinHere 26 = .ok (.istore_n 1, 1) := by decide +kernel
theorem dX12_areKinHere_27 : decode cX12_areKinHere 27 = .ok (.aload_n 0, 1) := by decide +kernel
theorem dX12_areKinHere_28 : decode cX12_areKinHere 28 = .ok (.invokevirtual 102, 3) := by decide +kernel
theorem dX12_areKinHere_31 : decode cX12_areKinHere 31 = .ok (.pop, 1) := by decide +kernel
theorem dX12_areKinHere_32 : decode cX12_areKinHere 32 = .ok (.aload_n 0, 1) := by decide +kernel
theorem dX12_areKinHere_33 : decode cX12_areKinHere 33 = .ok (.getfield 99, 3) := by decide +kernel
theorem dX12_areKinHere_36 : decode cX12_areKinHere 36 = .ok (.istore_n 2, 1) := by decide +kernel
theorem dX12_areKinHere_37 : decode cX12_areKinHere 37 = .ok (.aload_n 0, 1) := by decide +kernel
theorem dX12_areKinHere_38 : decode cX12_areKinHere 38 = .ok (.iconst 0, 1) := by decide +kernel
theorem dX12_areKinHere_39 : decode cX12_areKinHere 39 = .ok (.aload_n 0, 1) := by decide +kernel
theorem dX12_areKinHere_40 : decode cX12_areKinHere 40 = .ok (.getfield 26, 3) := by decide +kernel
theorem dX12_areKinHere_43 : decode cX12_areKinHere 43 = .ok (.iconst 2, 1) := by decide +kernel
theorem dX12_areKinHere_44 : decode cX12_areKinHere 44 = .ok (.iaload, 1) := by decide +kernel
theorem dX12_areKinHere_45 : decode cX12_areKinHere 45 = .ok (.iconst 1, 1) := by decide +kernel
theorem dX12_areKinHere_46 : decode cX12_areKinHere 46 = .ok (.isub, 1) := by decide +kernel
theorem dX12_areKinHere_47 : decode cX12_areKinHere 47 = .ok (.invokevirtual 174, 3) := by decide +kernel
theorem dX12_areKinHere_50 : decode cX12_areKinHere 50 = .ok (.ifCond .ne 5, 3) := by decide +kernel
theorem dX12_areKinHere_53 : decode cX12_areKinHere 53 = .ok (.iconst 0, 1) := by decide +kernel
theorem dX12_areKinHere_54 : decode cX12_areKinHere 54 = .ok (.ireturn, 1) := by decide +kernel
theorem dX12_areKinHere_55 : decode cX12_areKinHere 55 = .ok (.aload_n 0, 1) := by decide +kernel
theorem dX12_areKinHere_56 : decode cX12_areKinHere 56 = .ok (.getfield 124, 3) := by decide +kernel
theorem dX12_areKinHere_59 : decode cX12_areKinHere 59 = .ok (.iload_n 1, 1) := by decide +kernel
theorem dX12_areKinHere_60 : decode cX12_areKinHere 60 = .ok (.if_icmp .ne 10, 3) := by decide +kernel
theorem dX12_areKinHere_63 : decode cX12_areKinHere 63 = .ok (.aload_n 0, 1) := by decide +kernel
theorem dX12_areKinHere_64 : decode cX12_areKinHere 64 = .ok (.iconst 1, 1) := by decide +kernel
theorem dX12_areKinHere_65 : decode cX12_areKinHere 65 = .ok (.iload_n 2, 1) := by decide +kernel
theorem dX12_areKinHere_66 : decode cX12_areKinHere 66 = .ok (.invokevirtual 120, 3) := by decide +kernel
theorem dX12_areKinHere_69 : decode cX12_areKinHere 69 = .ok (.ireturn, 1) := by decide +kernel
theorem dX12_areKinHere_70 : decode cX12_areKinHere 70 = .ok (.aload_n 0, 1) := by decide +kernel
theorem dX12_areKinHere_71 : decode cX12_areKinHere 71 = .ok (.getfield 26, 3) := by decide +kernel
theorem dX12_areKinHere_74 : decode cX12_areKinHere 74 = .ok (.sipush 130, 3) := by decide +kernel
theorem dX12_areKinHere_77 : decode cX12_areKinHere 77 = .ok (.iconst 4, 1) := by decide +kernel
theorem dX12_areKinHere_78 : decode cX12_areKinHere 78 = .ok (.iload_n 1, 1) := by decide +kernel
theorem dX12_areKinHere_79 : decode cX12_areKinHere 79 = .ok (.imul, 1) := by decide +kernel
theorem dX12_areKinHere_80 : decode cX12_areKinHere 80 = .ok (.iadd, 1) := by decide +kernel
theorem dX12_areKinHere_81 : decode cX12_areKinHere 81 = .ok (.iconst 3, 1) := by decide +kernel
theorem dX12_areKinHere_82 : decode cX12_areKinHere 82 = .ok (.iadd, 1) := by decide +kernel
theorem dX12_areKinHere_83 : decode cX12_areKinHere 83 = .ok (.dup2, 1) := by decide +kernel
theorem dX12_areKinHere_84 : decode cX12_areKinHere 84 = .ok (.iaload, 1) := by decide +kernel
theorem dX12_areKinHere_85 : decode cX12_areKinHere 85 = .ok (.iconst 1, 1) := by decide +kernel
theorem dX12_areKinHere_86 : decode cX12_areKinHere 86 = .ok (.aload_n 0, 1) := by decide +kernel
theorem dX12_areKinHere_87 : decode cX12_areKinHere 87 = .ok (.getfield 124, 3) := by decide +kernel
theorem dX12_areKinHere_90 : decode cX12_areKinHere 90 = .ok (.ishl, 1) := by decide +kernel
theorem dX12_areKinHere_91 : decode cX12_areKinHere 91 = .ok (.ior, 1) := by decide +kernel
theorem dX12_areKinHere_92 : decode cX12_areKinHere 92 = .ok (.iastore, 1) := by decide +kernel
theorem dX12_areKinHere_93 : decode cX12_areKinHere 93 = .ok (.aload_n 0, 1) := by decide +kernel
theorem dX12_areKinHere_94 : decode cX12_areKinHere 94 = .ok (.getfield 26, 3) := by decide +kernel
theorem dX12_areKinHere_97 : decode cX12_areKinHere 97 = .ok (.sipush 130, 3) := by decide +kernel
theorem dX12_areKinHere_100 : decode cX12_areKinHere 100 = .ok (.iconst 4, 1) := by decide +kernel
theorem dX12_areKinHere_101 : decode cX12_areKinHere 101 = .ok (.aload_n 0, 1) := by decide +kernel
theorem dX12_areKinHere_102 : decode cX12_areKinHere 102 = .ok (.getfield 124, 3) := by decide +kernel
theorem dX12_areKinHere_105 : decode cX12_areKinHere 105 = .ok (.imul, 1) := by decide +kernel
theorem dX12_areKinHere_106 : decode cX12_areKinHere 106 = .ok (.iadd, 1) := by decide +kernel
theorem dX12_areKinHere_107 : decode cX12_areKinHere 107 = .ok (.iconst 3, 1) := by decide +kernel
theorem dX12_areKinHere_108 : decode cX12_areKinHere 108 = .ok (.iadd, 1) := by decide +kernel
theorem dX12_areKinHere_109 : decode cX12_areKinHere 109 = .ok (.dup2, 1) := by decide +kernel
theorem dX12_areKinHere_110 : decode cX12_areKinHere 110 = .ok (.iaload, 1) := by decide +kernel
theorem dX12_areKinHere_111 : decode cX12_areKinHere 111 = .ok (.iconst 1, 1) := by decide +kernel
theorem dX12_areKinHere_112 : decode cX12_areKinHere 112 = .ok (.iload_n 1, 1) := by decide +kernel
theorem dX12_areKinHere_113 : decode cX12_areKinHere 113 = .ok (.ishl, 1) := by decide +kernel
theorem dX12_areKinHere_114 : decode cX12_areKinHere 114 = .ok (.ior, 1) := by decide +kernel
theorem dX12_areKinHere_115 : decode cX12_areKinHere 115 = .ok (.iastore, 1) := by decide +kernel
theorem dX12_areKinHere_116 : decode cX12_areKinHere 116 = .ok (.iconst 1, 1) := by decide +kernel
theorem dX12_areKinHere_117 : decode cX12_areKinHere 117 = .ok (.ireturn, 1) := by decide +kernel
set_option maxRecDepth 20000 in
theorem ggX12_isCounterHere_X12_passWord : GoodIn wsX12_isCounterHere wsX12_passWord := goodIn_r _ [7, 8, 9, 10, 11, 6, 12, 13, 14, 35, 36, 37, 38, 39, 40, 41, 42, 43, 44, 45, 46, 47, 48, 49, 50, 51, 52, 53, 54, 55, 56, 57, 58, 59, 60, 61, 62, 63, 64, 65, 66, 67, 68, 69, 70, 71, 72, 73, 74, 75, 76, 77, 78] (by decide +kernel) (by decide +kernel)
set_option maxRecDepth 20000 in
theorem gX12_isCounterHere_X12_passWord : GoodIn wsX12_isCounterHere (wsV RX12 114 RX12 yX12_passWord wsX12_passWord) := goodIn_app (goodIn_of _ (by decide +kernel)) ggX12_isCounterHere_X12_passWord
set_option maxRecDepth 20000 in
theorem ggX12_isCounterHere_X12_numberHere : GoodIn wsX12_isCounterHere wsX12_numberHere := goodIn_r _ [18, 8, 14, 2, 19, 20, 21, 6, 22, 13, 23, 24, 25, 26, 27, 28, 29, 30, 31, 32, 33, 34, 35, 36, 37, 38, 39, 40, 41, 42, 43, 44, 45, 46, 47, 48, 49, 50, 51, 52, 53, 54, 55, 56, 57, 58, 59, 60, 61, 62, 63, 64, 65, 66, 67, 68, 69, 70, 71, 72, 73, 74, 75, 76, 77, 78] (by decide +kernel) (by decide +kernel)
set_option maxRecDepth 20000 in
theorem gX12_isCounterHere_X12_numberHere : GoodIn wsX12_isCounterHere (wsV RX12 174 RX12 yX12_numberHere wsX12_numberHere) := goodIn_app (goodIn_of _ (by decide +kernel)) ggX12_isCounterHere_X12_numberHere
theorem dX12_isCounterHere_0 : decode cX12_isCounterHere 0 = .ok (.aload_n 0, 1) := by decide +kernel
theorem dX12_isCounterHere_1 : decode cX12_isCounterHere 1 = .ok (.invokevirtual 114, 3) := by decide +kernel
theorem dX12_isCounterHere_4 : decode cX12_isCounterHere 4 = .ok (.aload_n 0, 1) := by decide +kernel
theorem dX12_isCounterHere_5 : decode cX12_isCounterHere 5 = .ok (.iconst 0, 1) := by decide +kernel
theorem dX12_isCounterHere_6 : decode cX12_isCounterHere 6 = .ok (.aload_n 0, 1) := by decide +kernel
theorem dX12_isCounterHere_7 : decode cX12_isCounterHere 7 = .ok (.getfield 26, 3) := by decide +kernel
theorem dX12_isCounterHere_10 : decode cX12_isCounterHere 10 = .ok (.iconst 0, 1) := by decide +kernel
theorem dX12_isCounterHere_11 : decode cX12_isCounterHere 11 = .ok (.iaload, 1) := by decide +kernel
theorem dX12_isCounterHere_12 : decode cX12_isCounterHere 12 = .ok (.iconst 1, 1) := by decide +kernel
theorem dX12_isCounterHere_13 : decode cX12_isCounterHere 13 = .ok (.isub, 1) := by decide +kernel
theorem dX12_isCounterHere_14 : decode cX12_isCounterHere 14 = .ok (.invokevirtual 174, 3) := by decide +kernel
theorem dX12_isCounterHere_17 : decode cX12_isCounterHere 17 = .ok (.ifCond .ne 5, 3) := by decide +kernel
theorem dX12_isCounterHere_20 : decode cX12_isCounterHere 20 = .ok (.iconst 0, 1) := by decide +kernel
theorem dX12_isCounterHere_21 : decode cX12_isCounterHere 21 = .ok (.ireturn, 1) := by decide +kernel
theorem dX12_isCounterHere_22 : decode cX12_isCounterHere 22 = .ok (.aload_n 0, 1) := by decide +kernel
theorem dX12_isCounterHere_23 : decode cX12_isCounterHere 23 = .ok (.getfield 26, 3) := by decide +kernel
theorem dX12_isCounterHere_26 : decode cX12_isCounterHere 26 = .ok (.iconst 4, 1) := by decide +kernel
theorem dX12_isCounterHere_27 : decode cX12_isCounterHere 27 = .ok (.dup2, 1) := by decide +kernel
theorem dX12_isCounterHere_28 : decode cX12_isCounterHere 28 = .ok (.iaload, 1) := by decide +kernel
theorem dX12_isCounterHere_29 : decode cX12_isCounterHere 29 = .ok (.iconst 1, 1) := by decide +kernel
theorem dX12_isCounterHere_30 : decode cX12_isCounterHere 30 = .ok (.aload_n 0, 1) := by decide +kernel
theorem dX12_isCounterHere_31 : decode cX12_isCounterHere 31 = .ok (.getfield 124, 3) := by decide +kernel
theorem dX12_isCounterHere_34 : decode cX12_isCounterHere 34 = .ok (.ishl, 1) := by decide +kernel
theorem dX12_isCounterHere_35 : decode cX12_isCounterHere 35 = .ok (.ior, 1) := by decide +kernel
theorem dX12_isCounterHere_36 : decode cX12_isCounterHere 36 = .ok (.iastore, 1) := by decide +kernel
theorem dX12_isCounterHere_37 : decode cX12_isCounterHere 37 = .ok (.iconst 1, 1) := by decide +kernel
theorem dX12_isCounterHere_38 : decode cX12_isCounterHere 38 = .ok (.ireturn, 1) := by decide +kernel
set_option maxRecDepth 20000 in
theorem ggX12_townLineHere_X12_isWord : GoodIn wsX12_townLineHere wsX12_isWord := goodIn_r _ [12, 13, 14, 15, 16, 17, 11, 18, 19, 20, 21, 22, 23, 65, 66, 67, 68, 69, 70, 71, 72, 73, 74, 75, 76, 77, 78, 79, 80, 81, 82, 83, 84, 85, 86, 87, 88, 89, 90, 91, 92, 93, 94, 95, 96, 97, 98, 99, 100, 101, 102, 103, 104, 105, 106, 107, 108] (by decide +kernel) (by decide +kernel)
set_option maxRecDepth 20000 in
theorem gX12_townLineHere_X12_isWord : GoodIn wsX12_townLineHere (wsV RX12 110 RX12 yX12_isWord wsX12_isWord) := goodIn_app (goodIn_of _ (by decide +kernel)) ggX12_townLineHere_X12_isWord
set_option maxRecDepth 20000 in
theorem ggX12_townLineHere_X12_isTownHere : GoodIn wsX12_townLineHere wsX12_isTownHere := goodIn_r _ [27, 2, 28, 29, 30, 31, 11, 32, 33, 34, 35, 36, 37, 13, 20, 21, 22, 23, 19, 14, 38, 39, 40, 41, 15, 16, 17, 18, 42, 43, 44, 45, 46, 47, 48, 65, 66, 67, 68, 69, 70, 71, 72, 73, 74, 75, 76, 77, 78, 79, 80, 81, 82, 83, 84, 85, 86, 87, 88, 89, 90, 91, 92, 93, 94, 95, 96, 97, 98, 99, 100, 101, 102, 103, 104, 105, 106, 107, 108] (by decide +kernel) (by decide +kernel)
set_option maxRecDepth 20000 in
theorem gX12_townLineHere_X12_isTownHere : GoodIn wsX12_townLineHere (wsV RX12 227 RX12 yX12_isTownHere wsX12_isTownHere) := goodIn_app (goodIn_of _ (by decide +kernel)) ggX12_townLineHere_X12_isTownHere
set_option maxRecDepth 20000 in
theorem ggX12_townLineHere_X12_fails : GoodIn wsX12_townLineHere wsX12_fails := goodIn_r _ [32, 33, 65, 66, 67, 68, 69, 70, 71, 72, 73, 74, 75, 76, 77, 78, 79, 80, 81, 82, 83, 84, 85, 86, 87, 88, 89, 90, 91, 92, 93, 94, 95, 96, 97, 98, 99, 100, 101, 102, 103, 104, 105, 106, 107, 108] (by decide +kernel) (by decide +kernel)
set_option maxRecDepth 20000 in
theorem gX12_townLineHere_X12_fails : GoodIn wsX12_townLineHere (wsV RX12 120 RX12 yX12_fails wsX12_fails) := goodIn_app (goodIn_of _ (by decide +kernel)) ggX12_townLineHere_X12_fails
set_option maxRecDepth 20000 in
theorem ggX12_townLineHere_X12_isPersonHere : GoodIn wsX12_townLineHere wsX12_isPersonHere := goodIn_r _ [52, 2, 13, 19, 14, 29, 30, 31, 11, 32, 33, 34, 35, 36, 37, 20, 21, 22, 23, 15, 16, 17, 18, 42, 43, 44, 45, 65, 66, 67, 68, 69, 70, 71, 72, 73, 74, 75, 76, 77, 78, 79, 80, 81, 82, 83, 84, 85, 86, 87, 88, 89, 90, 91, 92, 93, 94, 95, 96, 97, 98, 99, 100, 101, 102, 103, 104, 105, 106, 107, 108] (by decide +kernel) (by decide +kernel)
set_option maxRecDepth 20000 in
theorem gX12_townLineHere_X12_isPersonHere : GoodIn wsX12_townLineHere (wsV RX12 232 RX12 yX12_isPersonHere wsX12_isPersonHere) := goodIn_app (goodIn_of _ (by decide +kernel)) ggX12_townLineHere_X12_isPersonHere
set_option maxRecDepth 20000 in
theorem ggX12_townLineHere_X12_isMarkHere : GoodIn wsX12_townLineHere wsX12_isMarkHere := goodIn_r _ [56, 2, 28, 34, 35, 36, 11, 37, 13, 20, 21, 22, 23, 19, 14, 38, 39, 40, 41, 15, 16, 17, 18, 42, 43, 44, 45, 29, 30, 31, 32, 33, 46, 47, 48, 65, 66, 67, 68, 69, 70, 71, 72, 73, 74, 75, 76, 77, 78, 79, 80, 81, 82, 83, 84, 85, 86, 87, 88, 89, 90, 91, 92, 93, 94, 95, 96, 97, 98, 99, 100, 101, 102, 103, 104, 105, 106, 107, 108] (by decide +kernel) (by decide +kernel)
set_option maxRecDepth 20000 in
theorem gX12_townLineHere_X12_isMarkHere : GoodIn wsX12_townLineHere (wsV RX12 235 RX12 yX12_isMarkHere wsX12_isMarkHere) := goodIn_app (goodIn_of _ (by decide +kernel)) ggX12_townLineHere_X12_isMarkHere
set_option maxRecDepth 20000 in
theorem ggX12_townLineHere_X12_areKinHere : GoodIn wsX12_townLineHere wsX12_areKinHere := goodIn_r _ [60, 2, 28, 13, 34, 35, 36, 11, 37, 20, 21, 22, 23, 19, 14, 38, 39, 40, 41, 15, 16, 17, 18, 42, 43, 44, 45, 29, 30, 31, 32, 33, 46, 47, 48, 65, 66, 67, 68, 69, 70, 71, 72, 73, 74, 75, 76, 77, 78, 79, 80, 81, 82, 83, 84, 85, 86, 87, 88, 89, 90, 91, 92, 93, 94, 95, 96, 97, 98, 99, 100, 101, 102, 103, 104, 105, 106, 107, 108] (by decide +kernel) (by decide +kernel)
set_option maxRecDepth 20000 in
theorem gX12_townLineHere_X12_areKinHere : GoodIn wsX12_townLineHere (wsV RX12 242 RX12 yX12_areKinHere wsX12_areKinHere) := goodIn_app (goodIn_of _ (by decide +kernel)) ggX12_townLineHere_X12_areKinHere
set_option maxRecDepth 20000 in
theorem ggX12_townLineHere_X12_isCounterHere : GoodIn wsX12_townLineHere wsX12_isCounterHere := goodIn_r _ [64, 2, 28, 34, 35, 36, 11, 37, 13, 20, 21, 22, 23, 19, 14, 38, 39, 40, 41, 15, 16, 17, 18, 42, 43, 44, 45, 29, 30, 31, 32, 33, 46, 47, 48, 65, 66, 67, 68, 69, 70, 71, 72, 73, 74, 75, 76, 77, 78, 79, 80, 81, 82, 83, 84, 85, 86, 87, 88, 89, 90, 91, 92, 93, 94, 95, 96, 97, 98, 99, 100, 101, 102, 103, 104, 105, 106, 107, 108] (by decide +kernel) (by decide +kernel)
set_option maxRecDepth 20000 in
theorem gX12_townLineHere_X12_isCounterHere : GoodIn wsX12_townLineHere (wsV RX12 245 RX12 yX12_isCounterHere wsX12_isCounterHere) := goodIn_app (goodIn_of _ (by decide +kernel)) ggX12_townLineHere_X12_isCounterHere
theorem dX12_townLineHere_0 : decode cX12_townLineHere 0 = .ok (.aload_n 0, 1) := by decide +kernel
theorem dX12_townLineHere_1 : decode cX12_townLineHere 1 = .ok (.ldc2_w 225, 3) := by decide +kernel
theorem dX12_townLineHere_4 : decode cX12_townLineHere 4 = .ok (.invokevirtual 110, 3) := by decide +kernel
theorem dX12_townLineHere_7 : decode cX12_townLineHere 7 = .ok (.ifCond .eq 9, 3) := by decide +kernel
theorem dX12_townLineHere_10 : decode cX12_townLineHere 10 = .ok (.aload_n 0, 1) := by decide +kernel
theorem dX12_townLineHere_11 : decode cX12_townLineHere 11 = .ok (.iload_n 1, 1) := by decide +kernel
theorem dX12_townLineHere_12 : decode cX12_townLineHere 12 = .ok (.invokevirtual 227, 3) := by decide +kernel
theorem dX12_townLineHere_15 : decode cX12_townLineHere 15 = .ok (.ireturn, 1) := by decide +kernel
theorem dX12_townLineHere_16 : decode cX12_townLineHere 16 = .ok (.aload_n 0, 1) := by decide +kernel
theorem dX12_townLineHere_17 : decode cX12_townLineHere 17 = .ok (.getfield 26, 3) := by decide +kernel
theorem dX12_townLineHere_20 : decode cX12_townLineHere 20 = .ok (.iconst 0, 1) := by decide +kernel
theorem dX12_townLineHere_21 : decode cX12_townLineHere 21 = .ok (.iaload, 1) := by decide +kernel
theorem dX12_townLineHere_22 : decode cX12_townLineHere 22 = .ok (.ifCond .ne 10, 3) := by decide +kernel
theorem dX12_townLineHere_25 : decode cX12_townLineHere 25 = .ok (.aload_n 0, 1) := by decide +kernel
theorem dX12_townLineHere_26 : decode cX12_townLineHere 26 = .ok (.iconst 4, 1) := by decide +kernel
theorem dX12_townLineHere_27 : decode cX12_townLineHere 27 = .ok (.iload_n 1, 1) := by decide +kernel
theorem dX12_townLineHere_28 : decode cX12_townLineHere 28 = .ok (.invokevirtual 120, 3) := by decide +kernel
theorem dX12_townLineHere_31 : decode cX12_townLineHere 31 = .ok (.ireturn, 1) := by decide +kernel
theorem dX12_townLineHere_32 : decode cX12_townLineHere 32 = .ok (.aload_n 0, 1) := by decide +kernel
theorem dX12_townLineHere_33 : decode cX12_townLineHere 33 = .ok (.ldc2_w 230, 3) := by decide +kernel
theorem dX12_townLineHere_36 : decode cX12_townLineHere 36 = .ok (.invokevirtual 110, 3) := by decide +kernel
theorem dX12_townLineHere_39 : decode cX12_townLineHere 39 = .ok (.ifCond .eq 9, 3) := by decide +kernel
theorem dX12_townLineHere_42 : decode cX12_townLineHere 42 = .ok (.aload_n 0, 1) := by decide +kernel
theorem dX12_townLineHere_43 : decode cX12_townLineHere 43 = .ok (.iload_n 1, 1) := by decide +kernel
theorem dX12_townLineHere_44 : decode cX12_townLineHere 44 = .ok (.invokevirtual 232, 3) := by decide +kernel
theorem dX12_townLineHere_47 : decode cX12_townLineHere 47 = .ok (.ireturn, 1) := by decide +kernel
theorem dX12_townLineHere_48 : decode cX12_townLineHere 48 = .ok (.aload_n 0, 1) := by decide +kernel
theorem dX12_townLineHere_49 : decode cX12_townLineHere 49 = .ok (.ldc2_w 145, 3) := by decide +kernel
theorem dX12_townLineHere_52 : decode cX12_townLineHere 52 = .ok (.invokevirtual 110, 3) := by decide +kernel
theorem dX12_townLineHere_55 : decode cX12_townLineHere 55 = .ok (.ifCond .eq 9, 3) := by decide +kernel
theorem dX12_townLineHere_58 : decode cX12_townLineHere 58 = .ok (.aload_n 0, 1) := by decide +kernel
theorem dX12_townLineHere_59 : decode cX12_townLineHere 59 = .ok (.iconst 0, 1) := by decide +kernel
theorem dX12_townLineHere_60 : decode cX12_townLineHere 60 = .ok (.invokevirtual 235, 3) := by decide +kernel
theorem dX12_townLineHere_63 : decode cX12_townLineHere 63 = .ok (.ireturn, 1) := by decide +kernel
theorem dX12_townLineHere_64 : decode cX12_townLineHere 64 = .ok (.aload_n 0, 1) := by decide +kernel
theorem dX12_townLineHere_65 : decode cX12_townLineHere 65 = .ok (.ldc2_w 238, 3) := by decide +kernel
theorem dX12_townLineHere_68 : decode cX12_townLineHere 68 = .ok (.invokevirtual 110, 3) := by decide +kernel
theorem dX12_townLineHere_71 : decode cX12_townLineHere 71 = .ok (.ifCond .eq 9, 3) := by decide +kernel
theorem dX12_townLineHere_74 : decode cX12_townLineHere 74 = .ok (.aload_n 0, 1) := by decide +kernel
theorem dX12_townLineHere_75 : decode cX12_townLineHere 75 = .ok (.iconst 1, 1) := by decide +kernel
theorem dX12_townLineHere_76 : decode cX12_townLineHere 76 = .ok (.invokevirtual 235, 3) := by decide +kernel
theorem dX12_townLineHere_79 : decode cX12_townLineHere 79 = .ok (.ireturn, 1) := by decide +kernel
theorem dX12_townLineHere_80 : decode cX12_townLineHere 80 = .ok (.aload_n 0, 1) := by decide +kernel
theorem dX12_townLineHere_81 : decode cX12_townLineHere 81 = .ok (.ldc2_w 240, 3) := by decide +kernel
theorem dX12_townLineHere_84 : decode cX12_townLineHere 84 = .ok (.invokevirtual 110, 3) := by decide +kernel
theorem dX12_townLineHere_87 : decode cX12_townLineHere 87 = .ok (.ifCond .eq 9, 3) := by decide +kernel
theorem dX12_townLineHere_90 : decode cX12_townLineHere 90 = .ok (.aload_n 0, 1) := by decide +kernel
theorem dX12_townLineHere_91 : decode cX12_townLineHere 91 = .ok (.iconst 2, 1) := by decide +kernel
theorem dX12_townLineHere_92 : decode cX12_townLineHere 92 = .ok (.invokevirtual 235, 3) := by decide +kernel
theorem dX12_townLineHere_95 : decode cX12_townLineHere 95 = .ok (.ireturn, 1) := by decide +kernel
theorem dX12_townLineHere_96 : decode cX12_townLineHere 96 = .ok (.aload_n 0, 1) := by decide +kernel
theorem dX12_townLineHere_97 : decode cX12_townLineHere 97 = .ok (.ldc2_w 143, 3) := by decide +kernel
theorem dX12_townLineHere_100 : decode cX12_townLineHere 100 = .ok (.invokevirtual 110, 3) := by decide +kernel
theorem dX12_townLineHere_103 : decode cX12_townLineHere 103 = .ok (.ifCond .eq 10, 3) := by decide +kernel
theorem dX12_townLineHere_106 : decode cX12_townLineHere 106 = .ok (.aload_n 0, 1) := by decide +kernel
theorem dX12_townLineHere_107 : decode cX12_townLineHere 107 = .ok (.invokevirtual 242, 3) := by decide +kernel
theorem dX12_townLineHere_110 : decode cX12_townLineHere 110 = .ok (.goto 7, 3) := by decide +kernel
theorem dX12_townLineHere_113 : decode cX12_townLineHere 113 = .ok (.aload_n 0, 1) := by decide +kernel
theorem dX12_townLineHere_114 : decode cX12_townLineHere 114 = .ok (.invokevirtual 245, 3) := by decide +kernel
theorem dX12_townLineHere_117 : decode cX12_townLineHere 117 = .ok (.ireturn, 1) := by decide +kernel
set_option maxRecDepth 20000 in
theorem ggX12_isTownWord_X12_isWord : GoodIn wsX12_isTownWord wsX12_isWord := goodIn_r _ [12, 13, 14, 15, 16, 17, 11, 18, 19, 20, 21, 22, 23, 24, 25, 26, 27, 28, 29, 30, 31, 32, 33, 34, 35, 36, 37, 38, 39, 40, 41, 42, 43, 44, 45, 46, 47, 48, 49, 50, 51, 52, 53, 54, 55, 56, 57, 58, 59, 60, 61, 62, 63, 64, 65, 66, 67] (by decide +kernel) (by decide +kernel)
set_option maxRecDepth 20000 in
theorem gX12_isTownWord_X12_isWord : GoodIn wsX12_isTownWord (wsV RX12 110 RX12 yX12_isWord wsX12_isWord) := goodIn_app (goodIn_of _ (by decide +kernel)) ggX12_isTownWord_X12_isWord
theorem dX12_isTownWord_0 : decode cX12_isTownWord 0 = .ok (.aload_n 0, 1) := by decide +kernel
theorem dX12_isTownWord_1 : decode cX12_isTownWord 1 = .ok (.ldc2_w 225, 3) := by decide +kernel
theorem dX12_isTownWord_4 : decode cX12_isTownWord 4 = .ok (.invokevirtual 110, 3) := by decide +kernel
theorem dX12_isTownWord_7 : decode cX12_isTownWord 7 = .ok (.ifCond .ne 63, 3) := by decide +kernel
theorem dX12_isTownWord_10 : decode cX12_isTownWord 10 = .ok (.aload_n 0, 1) := by decide +kernel
theorem dX12_isTownWord_11 : decode cX12_isTownWord 11 = .ok (.ldc2_w 230, 3) := by decide +kernel
theorem dX12_isTownWord_14 : decode cX12_isTownWord 14 = .ok (.invokevirtual 110, 3) := by decide +kernel
theorem dX12_isTownWord_17 : decode cX12_isTownWord 17 = .ok (.ifCond .ne 53, 3) := by decide +kernel
theorem dX12_isTownWord_20 : decode cX12_isTownWord 20 = .ok (.aload_n 0, 1) := by decide +kernel
theorem dX12_isTownWord_21 : decode cX12_isTownWord 21 = .ok (.ldc2_w 145, 3) := by decide +kernel
theorem dX12_isTownWord_24 : decode cX12_isTownWord 24 = .ok (.invokevirtual 110, 3) := by decide +kernel
theorem dX12_isTownWord_27 : decode cX12_isTownWord 27 = .ok (.ifCond .ne 43, 3) := by decide +kernel
theorem dX12_isTownWord_30 : decode cX12_isTownWord 30 = .ok (.aload_n 0, 1) := by decide +kernel
theorem dX12_isTownWord_31 : decode cX12_isTownWord 31 = .ok (.ldc2_w 238, 3) := by decide +kernel
theorem dX12_isTownWord_34 : decode cX12_isTownWord 34 = .ok (.invokevirtual 110, 3) := by decide +kernel
theorem dX12_isTownWord_37 : decode cX12_isTownWord 37 = .ok (.ifCond .ne 33, 3) := by decide +kernel
theorem dX12_isTownWord_40 : decode cX12_isTownWord 40 = .ok (.aload_n 0, 1) := by decide +kernel
theorem dX12_isTownWord_41 : decode cX12_isTownWord 41 = .ok (.ldc2_w 240, 3) := by decide +kernel
theorem dX12_isTownWord_44 : decode cX12_isTownWord 44 = .ok (.invokevirtual 110, 3) := by decide +kernel
theorem dX12_isTownWord_47 : decode cX12_isTownWord 47 = .ok (.ifCond .ne 23, 3) := by decide +kernel
theorem dX12_isTownWord_50 : decode cX12_isTownWord 50 = .ok (.aload_n 0, 1) := by decide +kernel
theorem dX12_isTownWord_51 : decode cX12_isTownWord 51 = .ok (.ldc2_w 143, 3) := by decide +kernel
theorem dX12_isTownWord_54 : decode cX12_isTownWord 54 = .ok (.invokevirtual 110, 3) := by decide +kernel
theorem dX12_isTownWord_57 : decode cX12_isTownWord 57 = .ok (.ifCond .ne 13, 3) := by decide +kernel
theorem dX12_isTownWord_60 : decode cX12_isTownWord 60 = .ok (.aload_n 0, 1) := by decide +kernel
theorem dX12_isTownWord_61 : decode cX12_isTownWord 61 = .ok (.ldc2_w 248, 3) := by decide +kernel
theorem dX12_isTownWord_64 : decode cX12_isTownWord 64 = .ok (.invokevirtual 110, 3) := by decide +kernel
theorem dX12_isTownWord_67 : decode cX12_isTownWord 67 = .ok (.ifCond .eq 7, 3) := by decide +kernel
theorem dX12_isTownWord_70 : decode cX12_isTownWord 70 = .ok (.iconst 1, 1) := by decide +kernel
theorem dX12_isTownWord_71 : decode cX12_isTownWord 71 = .ok (.goto 4, 3) := by decide +kernel
theorem dX12_isTownWord_74 : decode cX12_isTownWord 74 = .ok (.iconst 0, 1) := by decide +kernel
theorem dX12_isTownWord_75 : decode cX12_isTownWord 75 = .ok (.ireturn, 1) := by decide +kernel
set_option maxRecDepth 20000 in
theorem ggX12_clauseHere_X12_see : GoodIn wsX12_clauseHere wsX12_see := goodIn_r _ [9, 1, 10, 11, 162, 163, 164, 165, 166, 167, 168, 169, 170, 171, 172, 173, 174, 175, 176, 177, 178, 179, 180, 181, 182, 183, 184, 185, 186, 187, 188, 189, 190, 191, 192, 193, 194, 195, 196, 197, 198, 199, 200, 201, 202, 203, 204, 205] (by decide +kernel) (by decide +kernel)
set_option maxRecDepth 20000 in
theorem gX12_clauseHere_X12_see : GoodIn wsX12_clauseHere (wsV RX12 102 RX12 yX12_see wsX12_see) := goodIn_app (goodIn_of _ (by decide +kernel)) ggX12_clauseHere_X12_see
set_option maxRecDepth 20000 in
theorem ggX12_clauseHere_X12_isTownWord : GoodIn wsX12_clauseHere wsX12_isTownWord := goodIn_r _ [15, 16, 17, 18, 19, 20, 21, 22, 23, 24, 25, 8, 26, 1, 11, 5, 6, 7, 9, 10, 27, 28, 29, 30, 162, 163, 164, 165, 166, 167, 168, 169, 170, 171, 172, 173, 174, 175, 176, 177, 178, 179, 180, 181, 182, 183, 184, 185, 186, 187, 188, 189, 190, 191, 192, 193, 194, 195, 196, 197, 198, 199, 200, 201, 202, 203, 204, 205] (by decide +kernel) (by decide +kernel)
set_option maxRecDepth 20000 in
theorem gX12_clauseHere_X12_isTownWord : GoodIn wsX12_clauseHere (wsV RX12 250 RX12 yX12_isTownWord wsX12_isTownWord) := goodIn_app (goodIn_of _ (by decide +kernel)) ggX12_clauseHere_X12_isTownWord
set_option maxRecDepth 20000 in
theorem ggX12_clauseHere_X12_isWord : GoodIn wsX12_clauseHere wsX12_isWord := goodIn_r _ [26, 1, 11, 5, 6, 7, 8, 9, 10, 27, 28, 29, 30, 162, 163, 164, 165, 166, 167, 168, 169, 170, 171, 172, 173, 174, 175, 176, 177, 178, 179, 180, 181, 182, 183, 184, 185, 186, 187, 188, 189, 190, 191, 192, 193, 194, 195, 196, 197, 198, 199, 200, 201, 202, 203, 204, 205] (by decide +kernel) (by decide +kernel)
set_option maxRecDepth 20000 in
theorem gX12_clauseHere_X12_isWord : GoodIn wsX12_clauseHere (wsV RX12 110 RX12 yX12_isWord wsX12_isWord) := goodIn_app (goodIn_of _ (by decide +kernel)) ggX12_clauseHere_X12_isWord
set_option maxRecDepth 20000 in
theorem ggX12_clauseHere_X12_fails : GoodIn wsX12_clauseHere wsX12_fails := goodIn_r _ [34, 35, 162, 163, 164, 165, 166, 167, 168, 169, 170, 171, 172, 173, 174, 175, 176, 177, 178, 179, 180, 181, 182, 183, 184, 185, 186, 187, 188, 189, 190, 191, 192, 193, 194, 195, 196, 197, 198, 199, 200, 201, 202, 203, 204, 205] (by decide +kernel) (by decide +kernel)
set_option maxRecDepth 20000 in
theorem gX12_clauseHere_X12_fails : GoodIn wsX12_clauseHere (wsV RX12 120 RX12 yX12_fails wsX12_fails) := goodIn_app (goodIn_of _ (by decide +kernel)) ggX12_clauseHere_X12_fails
set_option maxRecDepth 20000 in
theorem ggX12_clauseHere_X12_townLineHere : GoodIn wsX12_clauseHere wsX12_townLineHere := goodIn_r _ [39, 16, 40, 17, 18, 19, 20, 21, 23, 24, 25, 8, 26, 1, 11, 5, 6, 7, 9, 10, 27, 28, 29, 30, 41, 42, 43, 44, 45, 31, 32, 33, 34, 35, 46, 47, 48, 49, 50, 51, 52, 53, 54, 55, 56, 57, 58, 59, 60, 61, 62, 63, 64, 65, 66, 67, 68, 69, 70, 71, 72, 73, 74, 75, 76, 162, 163, 164, 165, 166, 167, 168, 169, 170, 171, 172, 173, 174, 175, 176, 177, 178, 179, 180, 181, 182, 183, 184, 185, 186, 187, 188, 189, 190, 191, 192, 193, 194, 195, 196, 197, 198, 199, 200, 201, 202, 203, 204, 205] (by decide +kernel) (by decide +kernel)
set_option maxRecDepth 20000 in
theorem gX12_clauseHere_X12_townLineHere : GoodIn wsX12_clauseHere (wsV RX12 258 RX12 yX12_townLineHere wsX12_townLineHere) := goodIn_app (goodIn_of _ (by decide +kernel)) ggX12_clauseHere_X12_townLineHere
set_option maxRecDepth 20000 in
theorem ggX12_clauseHere_X12_isShakeHere : GoodIn wsX12_clauseHere wsX12_isShakeHere := goodIn_r _ [80, 2, 81, 82, 83, 84, 46, 47, 48, 8, 49, 1, 27, 28, 29, 30, 10, 11, 85, 86, 87, 88, 89, 90, 91, 92, 93, 94, 95, 96, 97, 45, 5, 6, 7, 9, 54, 55, 56, 57, 50, 51, 52, 53, 31, 32, 33, 34, 35, 58, 59, 60, 98, 99, 100, 101, 102, 103, 104, 105, 106, 107, 108, 109, 110, 111, 112, 113, 114, 115, 116, 117, 21, 18, 118, 119, 120, 23, 24, 25, 26, 121, 122, 123, 124, 125, 126, 127, 128, 129, 130, 131, 132, 133, 134, 135, 136, 137, 138, 139, 140, 141, 142, 143, 144, 145, 146, 147, 148, 149, 150, 151, 152, 153, 154, 155, 156, 157, 158, 159, 160, 161, 162, 163, 164, 165, 166, 167, 168, 169, 170, 171, 172, 173, 174, 175, 176, 177, 178, 179, 180, 181, 182, 183, 184, 185, 186, 187, 188, 189, 190, 191, 192, 193, 194, 195, 196, 197, 198, 199, 200, 201, 202, 203, 204, 205] (by decide +kernel) (by decide +kernel)
set_option maxRecDepth 20000 in
theorem gX12_clauseHere_X12_isShakeHere : GoodIn wsX12_clauseHere (wsV RX12 261 RX12 yX12_isShakeHere wsX12_isShakeHere) := goodIn_app (goodIn_of _ (by decide +kernel)) ggX12_clauseHere_X12_isShakeHere
theorem dX12_clauseHere_0 : decode cX12_clauseHere 0 = .ok (.aload_n 0, 1) := by decide +kernel
theorem dX12_clauseHere_1 : decode cX12_clauseHere 1 = .ok (.invokevirtual 102, 3) := by decide +kernel
theorem dX12_clauseHere_4 : decode cX12_clauseHere 4 = .ok (.pop, 1) := by decide +kernel
theorem dX12_clauseHere_5 : decode cX12_clauseHere 5 = .ok (.aload_n 0, 1) := by decide +kernel
theorem dX12_clauseHere_6 : decode cX12_clauseHere 6 = .ok (.getfield 99, 3) := by decide +kernel
theorem dX12_clauseHere_9 : decode cX12_clauseHere 9 = .ok (.istore_n 1, 1) := by decide +kernel
theorem dX12_clauseHere_10 : decode cX12_clauseHere 10 = .ok (.aload_n 0, 1) := by decide +kernel
theorem dX12_clauseHere_11 : decode cX12_clauseHere 11 = .ok (.getfield 153, 3) := by decide +kernel
theorem dX12_clauseHere_14 : decode cX12_clauseHere 14 = .ok (.bipush 6, 2) := by decide +kernel
theorem dX12_clauseHere_16 : decode cX12_clauseHere 16 = .ok (.if_icmp .ne 7, 3) := by decide +kernel
theorem dX12_clauseHere_19 : decode cX12_clauseHere 19 = .ok (.iconst 1, 1) := by decide +kernel
theorem dX12_clauseHere_20 : decode cX12_clauseHere 20 = .ok (.goto 4, 3) := by decide +kernel
theorem dX12_clauseHere_23 : decode cX12_clauseHere 23 = .ok (.iconst 0, 1) := by decide +kernel
theorem dX12_clauseHere_24 : decode cX12_clauseHere 24 = .ok (.istore_n 2, 1) := by decide +kernel
theorem dX12_clauseHere_25 : decode cX12_clauseHere 25 = .ok (.iload_n 2, 1) := by decide +kernel
theorem dX12_clauseHere_26 : decode cX12_clauseHere 26 = .ok (.ifCond .eq 13, 3) := by decide +kernel
theorem dX12_clauseHere_29 : decode cX12_clauseHere 29 = .ok (.aload_n 0, 1) := by decide +kernel
theorem dX12_clauseHere_30 : decode cX12_clauseHere 30 = .ok (.invokevirtual 250, 3) := by decide +kernel
theorem dX12_clauseHere_33 : decode cX12_clauseHere 33 = .ok (.ifCond .ne 23, 3) := by decide +kernel
theorem dX12_clauseHere_36 : decode cX12_clauseHere 36 = .ok (.goto 13, 3) := by decide +kernel
theorem dX12_clauseHere_39 : decode cX12_clauseHere 39 = .ok (.aload_n 0, 1) := by decide +kernel
theorem dX12_clauseHere_40 : decode cX12_clauseHere 40 = .ok (.ldc2_w 253, 3) := by decide +kernel
theorem dX12_clauseHere_43 : decode cX12_clauseHere 43 = .ok (.invokevirtual 110, 3) := by decide +kernel
theorem dX12_clauseHere_46 : decode cX12_clauseHere 46 = .ok (.ifCond .ne 10, 3) := by decide +kernel
theorem dX12_clauseHere_49 : decode cX12_clauseHere 49 = .ok (.aload_n 0, 1) := by decide +kernel
theorem dX12_clauseHere_50 : decode cX12_clauseHere 50 = .ok (.iconst 0, 1) := by decide +kernel
theorem dX12_clauseHere_51 : decode cX12_clauseHere 51 = .ok (.iload_n 1, 1) := by decide +kernel
theorem dX12_clauseHere_52 : decode cX12_clauseHere 52 = .ok (.invokevirtual 120, 3) := by decide +kernel
theorem dX12_clauseHere_55 : decode cX12_clauseHere 55 = .ok (.ireturn, 1) := by decide +kernel
theorem dX12_clauseHere_56 : decode cX12_clauseHere 56 = .ok (.aload_n 0, 1) := by decide +kernel
theorem dX12_clauseHere_57 : decode cX12_clauseHere 57 = .ok (.getfield 255, 3) := by decide +kernel
theorem dX12_clauseHere_60 : decode cX12_clauseHere 60 = .ok (.iload_n 2, 1) := by decide +kernel
theorem dX12_clauseHere_61 : decode cX12_clauseHere 61 = .ok (.ifCond .eq 8, 3) := by decide +kernel
theorem dX12_clauseHere_64 : decode cX12_clauseHere 64 = .ok (.bipush 40, 2) := by decide +kernel
theorem dX12_clauseHere_66 : decode cX12_clauseHere 66 = .ok (.goto 5, 3) := by decide +kernel
theorem dX12_clauseHere_69 : decode cX12_clauseHere 69 = .ok (.bipush 12, 2) := by decide +kernel
theorem dX12_clauseHere_71 : decode cX12_clauseHere 71 = .ok (.if_icmp .ne 10, 3) := by decide +kernel
theorem dX12_clauseHere_74 : decode cX12_clauseHere 74 = .ok (.aload_n 0, 1) := by decide +kernel
theorem dX12_clauseHere_75 : decode cX12_clauseHere 75 = .ok (.iconst 4, 1) := by decide +kernel
theorem dX12_clauseHere_76 : decode cX12_clauseHere 76 = .ok (.iload_n 1, 1) := by decide +kernel
theorem dX12_clauseHere_77 : decode cX12_clauseHere 77 = .ok (.invokevirtual 120, 3) := by decide +kernel
theorem dX12_clauseHere_80 : decode cX12_clauseHere 80 = .ok (.ireturn, 1) := by decide +kernel
theorem dX12_clauseHere_81 : decode cX12_clauseHere 81 = .ok (.aload_n 0, 1) := by decide +kernel
theorem dX12_clauseHere_82 : decode cX12_clauseHere 82 = .ok (.dup, 1) := by decide +kernel
theorem dX12_clauseHere_83 : decode cX12_clauseHere 83 = .ok (.getfield 255, 3) := by decide +kernel
theorem dX12_clauseHere_86 : decode cX12_clauseHere 86 = .ok (.iconst 1, 1) := by decide +kernel
theorem dX12_clauseHere_87 : decode cX12_clauseHere 87 = .ok (.iadd, 1) := by decide +kernel
theorem dX12_clauseHere_88 : decode cX12_clauseHere 88 = .ok (.putfield 255, 3) := by decide +kernel
theorem dX12_clauseHere_91 : decode cX12_clauseHere 91 = .ok (.iload_n 2, 1) := by decide +kernel
theorem dX12_clauseHere_92 : decode cX12_clauseHere 92 = .ok (.ifCond .eq 11, 3) := by decide +kernel
theorem dX12_clauseHere_95 : decode cX12_clauseHere 95 = .ok (.aload_n 0, 1) := by decide +kernel
theorem dX12_clauseHere_96 : decode cX12_clauseHere 96 = .ok (.iload_n 1, 1) := by decide +kernel
theorem dX12_clauseHere_97 : decode cX12_clauseHere 97 = .ok (.invokevirtual 258, 3) := by decide +kernel
theorem dX12_clauseHere_100 : decode cX12_clauseHere 100 = .ok (.goto 7, 3) := by decide +kernel
theorem dX12_clauseHere_103 : decode cX12_clauseHere 103 = .ok (.aload_n 0, 1) := by decide +kernel
theorem dX12_clauseHere_104 : decode cX12_clauseHere 104 = .ok (.invokevirtual 261, 3) := by decide +kernel
theorem dX12_clauseHere_107 : decode cX12_clauseHere 107 = .ok (.ireturn, 1) := by decide +kernel
set_option maxRecDepth 20000 in
theorem ggX12_readsAll_X12_clauseHere : GoodIn wsX12_readsAll wsX12_clauseHere := goodIn_r _ [12, 4, 2, 13, 3, 14, 15, 16, 11, 17, 7, 18, 19, 20, 21, 22, 23, 24, 25, 26, 27, 28, 29, 30, 31, 32, 33, 34, 35, 36, 37, 38, 39, 40, 41, 5, 42, 43, 44, 45, 46, 47, 48, 49, 50, 51, 52, 53, 54, 55, 56, 57, 58, 59, 60, 61, 62, 63, 64, 65, 66, 67, 68, 69, 70, 71, 72, 73, 74, 75, 76, 77, 78, 79, 80, 81, 82, 83, 84, 85, 86, 87, 88, 1, 89, 90, 91, 92, 93, 94, 95, 96, 97, 98, 99, 100, 101, 102, 103, 104, 105, 106, 6, 107, 108, 109, 110, 111, 112, 113, 114, 115, 116, 117, 118, 119, 120, 121, 122, 123, 124, 125, 126, 127, 128, 129, 130, 131, 132, 133, 134, 135, 136, 137, 138, 139, 140, 141, 142, 143, 144, 145, 146, 147, 148, 149, 150, 151, 152, 153, 154, 155, 156, 157, 158, 159, 160, 161, 162, 163, 164, 165, 166, 167, 168, 169, 170, 171, 172, 173, 174, 175, 176, 177, 178, 179, 180, 181, 182, 183, 184, 185, 186, 187, 188, 189, 190, 191, 192, 193, 194, 195, 196, 197, 198, 199, 200, 201, 202, 203, 204, 205, 206, 207, 208, 209] (by decide +kernel) (by decide +kernel)
set_option maxRecDepth 20000 in
theorem gX12_readsAll_X12_clauseHere : GoodIn wsX12_readsAll (wsV RX12 264 RX12 yX12_clauseHere wsX12_clauseHere) := goodIn_app (goodIn_of _ (by decide +kernel)) ggX12_readsAll_X12_clauseHere
set_option maxRecDepth 20000 in
theorem ggX12_readsAll_X12_see : GoodIn wsX12_readsAll wsX12_see := goodIn_r _ [17, 4, 7, 18, 166, 167, 168, 169, 170, 171, 172, 173, 174, 175, 176, 177, 178, 179, 180, 181, 182, 183, 184, 185, 186, 187, 188, 189, 190, 191, 192, 193, 194, 195, 196, 197, 198, 199, 200, 201, 202, 203, 204, 205, 206, 207, 208, 209] (by decide +kernel) (by decide +kernel)
set_option maxRecDepth 20000 in
theorem gX12_readsAll_X12_see : GoodIn wsX12_readsAll (wsV RX12 102 RX12 yX12_see wsX12_see) := goodIn_app (goodIn_of _ (by decide +kernel)) ggX12_readsAll_X12_see
set_option maxRecDepth 20000 in
theorem ggX12_readsAll_X12_fails : GoodIn wsX12_readsAll wsX12_fails := goodIn_r _ [41, 5, 166, 167, 168, 169, 170, 171, 172, 173, 174, 175, 176, 177, 178, 179, 180, 181, 182, 183, 184, 185, 186, 187, 188, 189, 190, 191, 192, 193, 194, 195, 196, 197, 198, 199, 200, 201, 202, 203, 204, 205, 206, 207, 208, 209] (by decide +kernel) (by decide +kernel)
set_option maxRecDepth 20000 in
theorem gX12_readsAll_X12_fails : GoodIn wsX12_readsAll (wsV RX12 120 RX12 yX12_fails wsX12_fails) := goodIn_app (goodIn_of _ (by decide +kernel)) ggX12_readsAll_X12_fails
theorem dX12_readsAll_0 : decode cX12_readsAll 0 = .ok (.aload_n 0, 1) := by decide +kernel
theorem dX12_readsAll_1 : decode cX12_readsAll 1 = .ok (.getfield 17, 3) := by decide +kernel
theorem dX12_readsAll_4 : decode cX12_readsAll 4 = .ok (.aload_n 0, 1) := by decide +kernel
theorem dX12_readsAll_5 : decode cX12_readsAll 5 = .ok (.getfield 153, 3) := by decide +kernel
theorem dX12_readsAll_8 : decode cX12_readsAll 8 = .ok (.iconst 0, 1) := by decide +kernel
theorem dX12_readsAll_9 : decode cX12_readsAll 9 = .ok (.iastore, 1) := by decide +kernel
theorem dX12_readsAll_10 : decode cX12_readsAll 10 = .ok (.aload_n 0, 1) := by decide +kernel
theorem dX12_readsAll_11 : decode cX12_readsAll 11 = .ok (.iconst 0, 1) := by decide +kernel
theorem dX12_readsAll_12 : decode cX12_readsAll 12 = .ok (.putfield 255, 3) := by decide +kernel
theorem dX12_readsAll_15 : decode cX12_readsAll 15 = .ok (.aload_n 0, 1) := by decide +kernel
theorem dX12_readsAll_16 : decode cX12_readsAll 16 = .ok (.iconst 0, 1) := by decide +kernel
theorem dX12_readsAll_17 : decode cX12_readsAll 17 = .ok (.putfield 99, 3) := by decide +kernel
theorem dX12_readsAll_20 : decode cX12_readsAll 20 = .ok (.aload_n 0, 1) := by decide +kernel
theorem dX12_readsAll_21 : decode cX12_readsAll 21 = .ok (.iconst 0, 1) := by decide +kernel
theorem dX12_readsAll_22 : decode cX12_readsAll 22 = .ok (.putfield 96, 3) := by decide +kernel
theorem dX12_readsAll_25 : decode cX12_readsAll 25 = .ok (.aload_n 0, 1) := by decide +kernel
theorem dX12_readsAll_26 : decode cX12_readsAll 26 = .ok (.iconst 0, 1) := by decide +kernel
theorem dX12_readsAll_27 : decode cX12_readsAll 27 = .ok (.putfield 156, 3) := by decide +kernel
theorem dX12_readsAll_30 : decode cX12_readsAll 30 = .ok (.aload_n 0, 1) := by decide +kernel
theorem dX12_readsAll_31 : decode cX12_readsAll 31 = .ok (.invokevirtual 264, 3) := by decide +kernel
theorem dX12_readsAll_34 : decode cX12_readsAll 34 = .ok (.istore_n 1, 1) := by decide +kernel
theorem dX12_readsAll_35 : decode cX12_readsAll 35 = .ok (.iload_n 1, 1) := by decide +kernel
theorem dX12_readsAll_36 : decode cX12_readsAll 36 = .ok (.ifCond .eq 30, 3) := by decide +kernel
theorem dX12_readsAll_39 : decode cX12_readsAll 39 = .ok (.aload_n 0, 1) := by decide +kernel
theorem dX12_readsAll_40 : decode cX12_readsAll 40 = .ok (.invokevirtual 102, 3) := by decide +kernel
theorem dX12_readsAll_43 : decode cX12_readsAll 43 = .ok (.bipush 59, 2) := by decide +kernel
theorem dX12_readsAll_45 : decode cX12_readsAll 45 = .ok (.if_icmp .ne 21, 3) := by decide +kernel
theorem dX12_readsAll_48 : decode cX12_readsAll 48 = .ok (.aload_n 0, 1) := by decide +kernel
theorem dX12_readsAll_49 : decode cX12_readsAll 49 = .ok (.dup, 1) := by decide +kernel
theorem dX12_readsAll_50 : decode cX12_readsAll 50 = .ok (.getfield 99, 3) := by decide +kernel
theorem dX12_readsAll_53 : decode cX12_readsAll 53 = .ok (.iconst 1, 1) := by decide +kernel
theorem dX12_readsAll_54 : decode cX12_readsAll 54 = .ok (.iadd, 1) := by decide +kernel
theorem dX12_readsAll_55 : decode cX12_readsAll 55 = .ok (.putfield 99, 3) := by decide +kernel
theorem dX12_readsAll_58 : decode cX12_readsAll 58 = .ok (.aload_n 0, 1) := by decide +kernel
theorem dX12_readsAll_59 : decode cX12_readsAll 59 = .ok (.invokevirtual 264, 3) := by decide +kernel
theorem dX12_readsAll_62 : decode cX12_readsAll 62 = .ok (.istore_n 1, 1) := by decide +kernel
theorem dX12_readsAll_63 : decode cX12_readsAll 63 = .ok (.goto (-28), 3) := by decide +kernel
theorem dX12_readsAll_66 : decode cX12_readsAll 66 = .ok (.iload_n 1, 1) := by decide +kernel
theorem dX12_readsAll_67 : decode cX12_readsAll 67 = .ok (.ifCond .eq 21, 3) := by decide +kernel
theorem dX12_readsAll_70 : decode cX12_readsAll 70 = .ok (.aload_n 0, 1) := by decide +kernel
theorem dX12_readsAll_71 : decode cX12_readsAll 71 = .ok (.invokevirtual 102, 3) := by decide +kernel
theorem dX12_readsAll_74 : decode cX12_readsAll 74 = .ok (.iconst (-1), 1) := by decide +kernel
theorem dX12_readsAll_75 : decode cX12_readsAll 75 = .ok (.if_icmp .eq 13, 3) := by decide +kernel
theorem dX12_readsAll_78 : decode cX12_readsAll 78 = .ok (.aload_n 0, 1) := by decide +kernel
theorem dX12_readsAll_79 : decode cX12_readsAll 79 = .ok (.iconst 0, 1) := by decide +kernel
theorem dX12_readsAll_80 : decode cX12_readsAll 80 = .ok (.aload_n 0, 1) := by decide +kernel
theorem dX12_readsAll_81 : decode cX12_readsAll 81 = .ok (.getfield 99, 3) := by decide +kernel
theorem dX12_readsAll_84 : decode cX12_readsAll 84 = .ok (.invokevirtual 120, 3) := by decide +kernel
theorem dX12_readsAll_87 : decode cX12_readsAll 87 = .ok (.pop, 1) := by decide +kernel
theorem dX12_readsAll_88 : decode cX12_readsAll 88 = .ok (.aload_n 0, 1) := by decide +kernel
theorem dX12_readsAll_89 : decode cX12_readsAll 89 = .ok (.iconst 0, 1) := by decide +kernel
theorem dX12_readsAll_90 : decode cX12_readsAll 90 = .ok (.putfield 89, 3) := by decide +kernel
theorem dX12_readsAll_93 : decode cX12_readsAll 93 = .ok (.aload_n 0, 1) := by decide +kernel
theorem dX12_readsAll_94 : decode cX12_readsAll 94 = .ok (.getfield 96, 3) := by decide +kernel
theorem dX12_readsAll_97 : decode cX12_readsAll 97 = .ok (.ifCond .ne 7, 3) := by decide +kernel
theorem dX12_readsAll_100 : decode cX12_readsAll 100 = .ok (.iconst 1, 1) := by decide +kernel
theorem dX12_readsAll_101 : decode cX12_readsAll 101 = .ok (.goto 4, 3) := by decide +kernel
theorem dX12_readsAll_104 : decode cX12_readsAll 104 = .ok (.iconst 0, 1) := by decide +kernel
theorem dX12_readsAll_105 : decode cX12_readsAll 105 = .ok (.ireturn, 1) := by decide +kernel
set_option maxRecDepth 20000 in
theorem ggX12_rule_X12_readsAll : GoodIn wsX12_rule wsX12_readsAll := goodIn_r _ [9, 10, 2, 11, 12, 4, 13, 14, 15, 16, 17, 8, 18, 19, 20, 21, 22, 23, 24, 25, 26, 27, 28, 29, 30, 31, 32, 33, 34, 35, 36, 37, 38, 39, 40, 41, 42, 43, 44, 45, 46, 47, 48, 49, 50, 51, 52, 53, 54, 55, 56, 57, 58, 59, 60, 61, 62, 63, 64, 65, 66, 67, 68, 69, 70, 71, 72, 73, 74, 75, 76, 77, 78, 79, 80, 81, 82, 83, 84, 85, 86, 87, 88, 89, 90, 91, 92, 3, 93, 94, 95, 96, 97, 98, 99, 100, 101, 102, 103, 104, 105, 106, 107, 108, 109, 110, 111, 112, 113, 114, 115, 116, 117, 118, 119, 120, 121, 122, 123, 124, 125, 126, 127, 128, 129, 130, 131, 132, 133, 134, 135, 136, 137, 138, 139, 140, 141, 142, 143, 144, 145, 146, 147, 148, 149, 150, 151, 152, 153, 154, 155, 156, 157, 158, 159, 160, 161, 162, 163, 164, 165, 166, 167, 168, 169, 170, 171, 172, 173, 174, 175, 176, 177, 178, 179, 180, 181, 182, 183, 184, 185, 186, 187, 188, 189, 190, 191, 192, 193, 194, 195, 196, 197, 198, 199, 200, 201, 202, 203, 204, 205, 206, 207, 208, 209, 210, 211, 212, 213, 214] (by decide +kernel) (by decide +kernel)
set_option maxRecDepth 20000 in
theorem gX12_rule_X12_readsAll : GoodIn wsX12_rule (wsV RX12 270 RX12 yX12_readsAll wsX12_readsAll) := goodIn_app (goodIn_of _ (by decide +kernel)) ggX12_rule_X12_readsAll
theorem dX12_rule_0 : decode cX12_rule 0 = .ok (.aload_n 0, 1) := by decide +kernel
theorem dX12_rule_1 : decode cX12_rule 1 = .ok (.getfield 267, 3) := by decide +kernel
theorem dX12_rule_4 : decode cX12_rule 4 = .ok (.bipush 6, 2) := by decide +kernel
theorem dX12_rule_6 : decode cX12_rule 6 = .ok (.if_icmp .ne 5, 3) := by decide +kernel
theorem dX12_rule_9 : decode cX12_rule 9 = .ok (.iconst (-1), 1) := by decide +kernel
theorem dX12_rule_10 : decode cX12_rule 10 = .ok (.ireturn, 1) := by decide +kernel
theorem dX12_rule_11 : decode cX12_rule 11 = .ok (.aload_n 0, 1) := by decide +kernel
theorem dX12_rule_12 : decode cX12_rule 12 = .ok (.aload_n 0, 1) := by decide +kernel
theorem dX12_rule_13 : decode cX12_rule 13 = .ok (.getfield 267, 3) := by decide +kernel
theorem dX12_rule_16 : decode cX12_rule 16 = .ok (.putfield 153, 3) := by decide +kernel
theorem dX12_rule_19 : decode cX12_rule 19 = .ok (.aload_n 0, 1) := by decide +kernel
theorem dX12_rule_20 : decode cX12_rule 20 = .ok (.getfield 23, 3) := by decide +kernel
theorem dX12_rule_23 : decode cX12_rule 23 = .ok (.aload_n 0, 1) := by decide +kernel
theorem dX12_rule_24 : decode cX12_rule 24 = .ok (.getfield 153, 3) := by decide +kernel
theorem dX12_rule_27 : decode cX12_rule 27 = .ok (.iconst 0, 1) := by decide +kernel
theorem dX12_rule_28 : decode cX12_rule 28 = .ok (.iastore, 1) := by decide +kernel
theorem dX12_rule_29 : decode cX12_rule 29 = .ok (.aload_n 0, 1) := by decide +kernel
theorem dX12_rule_30 : decode cX12_rule 30 = .ok (.invokevirtual 270, 3) := by decide +kernel
theorem dX12_rule_33 : decode cX12_rule 33 = .ok (.ifCond .ne 11, 3) := by decide +kernel
theorem dX12_rule_36 : decode cX12_rule 36 = .ok (.bipush (-2), 2) := by decide +kernel
theorem dX12_rule_38 : decode cX12_rule 38 = .ok (.aload_n 0, 1) := by decide +kernel
theorem dX12_rule_39 : decode cX12_rule 39 = .ok (.getfield 96, 3) := by decide +kernel
theorem dX12_rule_42 : decode cX12_rule 42 = .ok (.isub, 1) := by decide +kernel
theorem dX12_rule_43 : decode cX12_rule 43 = .ok (.ireturn, 1) := by decide +kernel
theorem dX12_rule_44 : decode cX12_rule 44 = .ok (.aload_n 0, 1) := by decide +kernel
theorem dX12_rule_45 : decode cX12_rule 45 = .ok (.dup, 1) := by decide +kernel
theorem dX12_rule_46 : decode cX12_rule 46 = .ok (.getfield 267, 3) := by decide +kernel
theorem dX12_rule_49 : decode cX12_rule 49 = .ok (.iconst 1, 1) := by decide +kernel
theorem dX12_rule_50 : decode cX12_rule 50 = .ok (.iadd, 1) := by decide +kernel
theorem dX12_rule_51 : decode cX12_rule 51 = .ok (.putfield 267, 3) := by decide +kernel
theorem dX12_rule_54 : decode cX12_rule 54 = .ok (.aload_n 0, 1) := by decide +kernel
theorem dX12_rule_55 : decode cX12_rule 55 = .ok (.getfield 267, 3) := by decide +kernel
theorem dX12_rule_58 : decode cX12_rule 58 = .ok (.iconst 1, 1) := by decide +kernel
theorem dX12_rule_59 : decode cX12_rule 59 = .ok (.isub, 1) := by decide +kernel
theorem dX12_rule_60 : decode cX12_rule 60 = .ok (.ireturn, 1) := by decide +kernel
set_option maxRecDepth 20000 in
theorem ggX12_town_X12_readsAll : GoodIn wsX12_town wsX12_readsAll := goodIn_r _ [10, 11, 1, 12, 13, 3, 14, 15, 16, 17, 18, 9, 19, 20, 21, 22, 23, 24, 25, 26, 27, 28, 29, 30, 31, 32, 33, 34, 35, 36, 37, 38, 39, 40, 41, 42, 43, 44, 45, 46, 47, 48, 49, 50, 51, 52, 2, 53, 54, 55, 56, 57, 58, 59, 60, 61, 62, 63, 64, 65, 66, 67, 68, 69, 70, 71, 72, 73, 74, 75, 76, 77, 78, 79, 80, 81, 82, 83, 84, 85, 86, 87, 88, 89, 90, 91, 92, 93, 94, 95, 96, 97, 98, 99, 100, 101, 102, 103, 104, 105, 106, 107, 108, 109, 110, 111, 112, 113, 114, 115, 116, 117, 118, 119, 120, 121, 122, 123, 124, 125, 126, 127, 128, 129, 130, 131, 132, 133, 134, 135, 136, 137, 138, 139, 140, 141, 142, 143, 144, 145, 146, 147, 148, 149, 150, 151, 152, 153, 154, 155, 156, 157, 158, 159, 160, 161, 162, 163, 164, 165, 166, 167, 168, 169, 170, 171, 172, 173, 174, 175, 176, 177, 178, 179, 180, 181, 182, 183, 184, 185, 186, 187, 188, 189, 190, 191, 192, 193, 194, 195, 196, 197, 198, 199, 200, 201, 202, 203, 204, 205, 206, 207, 208, 209, 210, 211, 212, 213, 214, 215] (by decide +kernel) (by decide +kernel)
set_option maxRecDepth 20000 in
theorem gX12_town_X12_readsAll : GoodIn wsX12_town (wsV RX12 270 RX12 yX12_readsAll wsX12_readsAll) := goodIn_app (goodIn_of _ (by decide +kernel)) ggX12_town_X12_readsAll
theorem dX12_town_0 : decode cX12_town 0 = .ok (.aload_n 0, 1) := by decide +kernel
theorem dX12_town_1 : decode cX12_town 1 = .ok (.bipush 6, 2) := by decide +kernel
theorem dX12_town_3 : decode cX12_town 3 = .ok (.putfield 153, 3) := by decide +kernel
theorem dX12_town_6 : decode cX12_town 6 = .ok (.iconst 0, 1) := by decide +kernel
theorem dX12_town_7 : decode cX12_town 7 = .ok (.istore_n 1, 1) := by decide +kernel
theorem dX12_town_8 : decode cX12_town 8 = .ok (.iload_n 1, 1) := by decide +kernel
theorem dX12_town_9 : decode cX12_town 9 = .ok (.bipush 10, 2) := by decide +kernel
theorem dX12_town_11 : decode cX12_town 11 = .ok (.if_icmp .ge 16, 3) := by decide +kernel
theorem dX12_town_14 : decode cX12_town 14 = .ok (.aload_n 0, 1) := by decide +kernel
theorem dX12_town_15 : decode cX12_town 15 = .ok (.getfield 26, 3) := by decide +kernel
theorem dX12_town_18 : decode cX12_town 18 = .ok (.iload_n 1, 1) := by decide +kernel
theorem dX12_town_19 : decode cX12_town 19 = .ok (.iconst 0, 1) := by decide +kernel
theorem dX12_town_20 : decode cX12_town 20 = .ok (.iastore, 1) := by decide +kernel
theorem dX12_town_21 : decode cX12_town 21 = .ok (.iinc 1 1, 3) := by decide +kernel
theorem dX12_town_24 : decode cX12_town 24 = .ok (.goto (-16), 3) := by decide +kernel
theorem dX12_town_27 : decode cX12_town 27 = .ok (.aload_n 0, 1) := by decide +kernel
theorem dX12_town_28 : decode cX12_town 28 = .ok (.invokevirtual 270, 3) := by decide +kernel
theorem dX12_town_31 : decode cX12_town 31 = .ok (.ifCond .ne 11, 3) := by decide +kernel
theorem dX12_town_34 : decode cX12_town 34 = .ok (.bipush (-2), 2) := by decide +kernel
theorem dX12_town_36 : decode cX12_town 36 = .ok (.aload_n 0, 1) := by decide +kernel
theorem dX12_town_37 : decode cX12_town 37 = .ok (.getfield 96, 3) := by decide +kernel
theorem dX12_town_40 : decode cX12_town 40 = .ok (.isub, 1) := by decide +kernel
theorem dX12_town_41 : decode cX12_town 41 = .ok (.ireturn, 1) := by decide +kernel
theorem dX12_town_42 : decode cX12_town 42 = .ok (.iconst 0, 1) := by decide +kernel
theorem dX12_town_43 : decode cX12_town 43 = .ok (.istore_n 1, 1) := by decide +kernel
theorem dX12_town_44 : decode cX12_town 44 = .ok (.iload_n 1, 1) := by decide +kernel
theorem dX12_town_45 : decode cX12_town 45 = .ok (.sipush 211, 3) := by decide +kernel
theorem dX12_town_48 : decode cX12_town 48 = .ok (.if_icmp .ge 32, 3) := by decide +kernel
theorem dX12_town_51 : decode cX12_town 51 = .ok (.aload_n 0, 1) := by decide +kernel
theorem dX12_town_52 : decode cX12_town 52 = .ok (.getfield 39, 3) := by decide +kernel
theorem dX12_town_55 : decode cX12_town 55 = .ok (.iload_n 1, 1) := by decide +kernel
theorem dX12_town_56 : decode cX12_town 56 = .ok (.iload_n 1, 1) := by decide +kernel
theorem dX12_town_57 : decode cX12_town 57 = .ok (.sipush 170, 3) := by decide +kernel
theorem dX12_town_60 : decode cX12_town 60 = .ok (.if_icmp .ge 12, 3) := by decide +kernel
theorem dX12_town_63 : decode cX12_town 63 = .ok (.aload_n 0, 1) := by decide +kernel
theorem dX12_town_64 : decode cX12_town 64 = .ok (.getfield 26, 3) := by decide +kernel
theorem dX12_town_67 : decode cX12_town 67 = .ok (.iload_n 1, 1) := by decide +kernel
theorem dX12_town_68 : decode cX12_town 68 = .ok (.iaload, 1) := by decide +kernel
theorem dX12_town_69 : decode cX12_town 69 = .ok (.goto 4, 3) := by decide +kernel
theorem dX12_town_72 : decode cX12_town 72 = .ok (.iconst 0, 1) := by decide +kernel
theorem dX12_town_73 : decode cX12_town 73 = .ok (.iastore, 1) := by decide +kernel
theorem dX12_town_74 : decode cX12_town 74 = .ok (.iinc 1 1, 3) := by decide +kernel
theorem dX12_town_77 : decode cX12_town 77 = .ok (.goto (-33), 3) := by decide +kernel
theorem dX12_town_80 : decode cX12_town 80 = .ok (.iconst 0, 1) := by decide +kernel
theorem dX12_town_81 : decode cX12_town 81 = .ok (.istore_n 1, 1) := by decide +kernel
theorem dX12_town_82 : decode cX12_town 82 = .ok (.iload_n 1, 1) := by decide +kernel
theorem dX12_town_83 : decode cX12_town 83 = .ok (.bipush 10, 2) := by decide +kernel
theorem dX12_town_85 : decode cX12_town 85 = .ok (.if_icmp .ge 20, 3) := by decide +kernel
theorem dX12_town_88 : decode cX12_town 88 = .ok (.aload_n 0, 1) := by decide +kernel
theorem dX12_town_89 : decode cX12_town 89 = .ok (.getfield 39, 3) := by decide +kernel
theorem dX12_town_92 : decode cX12_town 92 = .ok (.sipush 200, 3) := by decide +kernel
theorem dX12_town_95 : decode cX12_town 95 = .ok (.iload_n 1, 1) := by decide +kernel
theorem dX12_town_96 : decode cX12_town 96 = .ok (.iadd, 1) := by decide +kernel
theorem dX12_town_97 : decode cX12_town 97 = .ok (.iconst (-1), 1) := by decide +kernel
theorem dX12_town_98 : decode cX12_town 98 = .ok (.iastore, 1) := by decide +kernel
theorem dX12_town_99 : decode cX12_town 99 = .ok (.iinc 1 1, 3) := by decide +kernel
theorem dX12_town_102 : decode cX12_town 102 = .ok (.goto (-20), 3) := by decide +kernel
theorem dX12_town_105 : decode cX12_town 105 = .ok (.aload_n 0, 1) := by decide +kernel
theorem dX12_town_106 : decode cX12_town 106 = .ok (.iconst 0, 1) := by decide +kernel
theorem dX12_town_107 : decode cX12_town 107 = .ok (.putfield 273, 3) := by decide +kernel
theorem dX12_town_110 : decode cX12_town 110 = .ok (.aload_n 0, 1) := by decide +kernel
theorem dX12_town_111 : decode cX12_town 111 = .ok (.getfield 39, 3) := by decide +kernel
theorem dX12_town_114 : decode cX12_town 114 = .ok (.iconst 2, 1) := by decide +kernel
theorem dX12_town_115 : decode cX12_town 115 = .ok (.iaload, 1) := by decide +kernel
theorem dX12_town_116 : decode cX12_town 116 = .ok (.ireturn, 1) := by decide +kernel
theorem dX12_isRule_0 : decode cX12_isRule 0 = .ok (.iload_n 1, 1) := by decide +kernel
theorem dX12_isRule_1 : decode cX12_isRule 1 = .ok (.ifCond .lt 15, 3) := by decide +kernel
theorem dX12_isRule_4 : decode cX12_isRule 4 = .ok (.iload_n 1, 1) := by decide +kernel
theorem dX12_isRule_5 : decode cX12_isRule 5 = .ok (.aload_n 0, 1) := by decide +kernel
theorem dX12_isRule_6 : decode cX12_isRule 6 = .ok (.getfield 267, 3) := by decide +kernel
theorem dX12_isRule_9 : decode cX12_isRule 9 = .ok (.if_icmp .ge 7, 3) := by decide +kernel
theorem dX12_isRule_12 : decode cX12_isRule 12 = .ok (.iconst 1, 1) := by decide +kernel
theorem dX12_isRule_13 : decode cX12_isRule 13 = .ok (.goto 4, 3) := by decide +kernel
theorem dX12_isRule_16 : decode cX12_isRule 16 = .ok (.iconst 0, 1) := by decide +kernel
theorem dX12_isRule_17 : decode cX12_isRule 17 = .ok (.ireturn, 1) := by decide +kernel
theorem dX12_push_0 : decode cX12_push 0 = .ok (.aload_n 0, 1) := by decide +kernel
theorem dX12_push_1 : decode cX12_push 1 = .ok (.getfield 32, 3) := by decide +kernel
theorem dX12_push_4 : decode cX12_push 4 = .ok (.aload_n 0, 1) := by decide +kernel
theorem dX12_push_5 : decode cX12_push 5 = .ok (.getfield 276, 3) := by decide +kernel
theorem dX12_push_8 : decode cX12_push 8 = .ok (.lload_n 1, 1) := by decide +kernel
theorem dX12_push_9 : decode cX12_push 9 = .ok (.lastore, 1) := by decide +kernel
theorem dX12_push_10 : decode cX12_push 10 = .ok (.aload_n 0, 1) := by decide +kernel
theorem dX12_push_11 : decode cX12_push 11 = .ok (.dup, 1) := by decide +kernel
theorem dX12_push_12 : decode cX12_push 12 = .ok (.getfield 276, 3) := by decide +kernel
theorem dX12_push_15 : decode cX12_push 15 = .ok (.iconst 1, 1) := by decide +kernel
theorem dX12_push_16 : decode cX12_push 16 = .ok (.iadd, 1) := by decide +kernel
theorem dX12_push_17 : decode cX12_push 17 = .ok (.putfield 276, 3) := by decide +kernel
theorem dX12_push_20 : decode cX12_push 20 = .ok (.return_, 1) := by decide +kernel
theorem dX12_pop_0 : decode cX12_pop 0 = .ok (.aload_n 0, 1) := by decide +kernel
theorem dX12_pop_1 : decode cX12_pop 1 = .ok (.dup, 1) := by decide +kernel
theorem dX12_pop_2 : decode cX12_pop 2 = .ok (.getfield 276, 3) := by decide +kernel
theorem dX12_pop_5 : decode cX12_pop 5 = .ok (.iconst 1, 1) := by decide +kernel
theorem dX12_pop_6 : decode cX12_pop 6 = .ok (.isub, 1) := by decide +kernel
theorem dX12_pop_7 : decode cX12_pop 7 = .ok (.putfield 276, 3) := by decide +kernel
theorem dX12_pop_10 : decode cX12_pop 10 = .ok (.aload_n 0, 1) := by decide +kernel
theorem dX12_pop_11 : decode cX12_pop 11 = .ok (.getfield 32, 3) := by decide +kernel
theorem dX12_pop_14 : decode cX12_pop 14 = .ok (.aload_n 0, 1) := by decide +kernel
theorem dX12_pop_15 : decode cX12_pop 15 = .ok (.getfield 276, 3) := by decide +kernel
theorem dX12_pop_18 : decode cX12_pop 18 = .ok (.laload, 1) := by decide +kernel
theorem dX12_pop_19 : decode cX12_pop 19 = .ok (.lreturn, 1) := by decide +kernel
theorem dX12_one_0 : decode cX12_one 0 = .ok (.iload_n 0, 1) := by decide +kernel
theorem dX12_one_1 : decode cX12_one 1 = .ok (.tableswitch 171 2 14 #[67, 71, 75, 79, 107, 119, 131, 143, 155, 171, 167, 171, 93], 67) := by decide +kernel
theorem dX12_one_68 : decode cX12_one 68 = .ok (.lload_n 1, 1) := by decide +kernel
theorem dX12_one_69 : decode cX12_one 69 = .ok (.lload_n 3, 1) := by decide +kernel
theorem dX12_one_70 : decode cX12_one 70 = .ok (.ladd, 1) := by decide +kernel
theorem dX12_one_71 : decode cX12_one 71 = .ok (.lreturn, 1) := by decide +kernel
theorem dX12_one_72 : decode cX12_one 72 = .ok (.lload_n 1, 1) := by decide +kernel
theorem dX12_one_73 : decode cX12_one 73 = .ok (.lload_n 3, 1) := by decide +kernel
theorem dX12_one_74 : decode cX12_one 74 = .ok (.lsub, 1) := by decide +kernel
theorem dX12_one_75 : decode cX12_one 75 = .ok (.lreturn, 1) := by decide +kernel
theorem dX12_one_76 : decode cX12_one 76 = .ok (.lload_n 1, 1) := by decide +kernel
theorem dX12_one_77 : decode cX12_one 77 = .ok (.lload_n 3, 1) := by decide +kernel
theorem dX12_one_78 : decode cX12_one 78 = .ok (.lmul, 1) := by decide +kernel
theorem dX12_one_79 : decode cX12_one 79 = .ok (.lreturn, 1) := by decide +kernel
theorem dX12_one_80 : decode cX12_one 80 = .ok (.lload_n 3, 1) := by decide +kernel
theorem dX12_one_81 : decode cX12_one 81 = .ok (.lconst 0, 1) := by decide +kernel
theorem dX12_one_82 : decode cX12_one 82 = .ok (.lcmp, 1) := by decide +kernel
theorem dX12_one_83 : decode cX12_one 83 = .ok (.ifCond .ne 7, 3) := by decide +kernel
theorem dX12_one_86 : decode cX12_one 86 = .ok (.lconst 0, 1) := by decide +kernel
theorem dX12_one_87 : decode cX12_one 87 = .ok (.goto 6, 3) := by decide +kernel
theorem dX12_one_90 : decode cX12_one 90 = .ok (.lload_n 1, 1) := by decide +kernel
theorem dX12_one_91 : decode cX12_one 91 = .ok (.lload_n 3, 1) := by decide +kernel
theorem dX12_one_92 : decode cX12_one 92 = .ok (.ldiv, 1) := by decide +kernel
theorem dX12_one_93 : decode cX12_one 93 = .ok (.lreturn, 1) := by decide +kernel
theorem dX12_one_94 : decode cX12_one 94 = .ok (.lload_n 3, 1) := by decide +kernel
theorem dX12_one_95 : decode cX12_one 95 = .ok (.lconst 0, 1) := by decide +kernel
theorem dX12_one_96 : decode cX12_one 96 = .ok (.lcmp, 1) := by decide +kernel
theorem dX12_one_97 : decode cX12_one 97 = .ok (.ifCond .ne 7, 3) := by decide +kernel
theorem dX12_one_100 : decode cX12_one 100 = .ok (.lconst 0, 1) := by decide +kernel
theorem dX12_one_101 : decode cX12_one 101 = .ok (.goto 6, 3) := by decide +kernel
theorem dX12_one_104 : decode cX12_one 104 = .ok (.lload_n 1, 1) := by decide +kernel
theorem dX12_one_105 : decode cX12_one 105 = .ok (.lload_n 3, 1) := by decide +kernel
theorem dX12_one_106 : decode cX12_one 106 = .ok (.lrem, 1) := by decide +kernel
theorem dX12_one_107 : decode cX12_one 107 = .ok (.lreturn, 1) := by decide +kernel
theorem dX12_one_108 : decode cX12_one 108 = .ok (.lload_n 1, 1) := by decide +kernel
theorem dX12_one_109 : decode cX12_one 109 = .ok (.lload_n 3, 1) := by decide +kernel
theorem dX12_one_110 : decode cX12_one 110 = .ok (.lcmp, 1) := by decide +kernel
theorem dX12_one_111 : decode cX12_one 111 = .ok (.ifCond .ge 7, 3) := by decide +kernel
theorem dX12_one_114 : decode cX12_one 114 = .ok (.lconst 1, 1) := by decide +kernel
theorem dX12_one_115 : decode cX12_one 115 = .ok (.goto 4, 3) := by decide +kernel
theorem dX12_one_118 : decode cX12_one 118 = .ok (.lconst 0, 1) := by decide +kernel
theorem dX12_one_119 : decode cX12_one 119 = .ok (.lreturn, 1) := by decide +kernel
theorem dX12_one_120 : decode cX12_one 120 = .ok (.lload_n 1, 1) := by decide +kernel
theorem dX12_one_121 : decode cX12_one 121 = .ok (.lload_n 3, 1) := by decide +kernel
theorem dX12_one_122 : decode cX12_one 122 = .ok (.lcmp, 1) := by decide +kernel
theorem dX12_one_123 : decode cX12_one 123 = .ok (.ifCond .gt 7, 3) := by decide +kernel
theorem dX12_one_126 : decode cX12_one 126 = .ok (.lconst 1, 1) := by decide +kernel
theorem dX12_one_127 : decode cX12_one 127 = .ok (.goto 4, 3) := by decide +kernel
theorem dX12_one_130 : decode cX12_one 130 = .ok (.lconst 0, 1) := by decide +kernel
theorem dX12_one_131 : decode cX12_one 131 = .ok (.lreturn, 1) := by decide +kernel
theorem dX12_one_132 : decode cX12_one 132 = .ok (.lload_n 1, 1) := by decide +kernel
theorem dX12_one_133 : decode cX12_one 133 = .ok (.lload_n 3, 1) := by decide +kernel
theorem dX12_one_134 : decode cX12_one 134 = .ok (.lcmp, 1) := by decide +kernel
theorem dX12_one_135 : decode cX12_one 135 = .ok (.ifCond .ne 7, 3) := by decide +kernel
theorem dX12_one_138 : decode cX12_one 138 = .ok (.lconst 1, 1) := by decide +kernel
theorem dX12_one_139 : decode cX12_one 139 = .ok (.goto 4, 3) := by decide +kernel
theorem dX12_one_142 : decode cX12_one 142 = .ok (.lconst 0, 1) := by decide +kernel
theorem dX12_one_143 : decode cX12_one 143 = .ok (.lreturn, 1) := by decide +kernel
theorem dX12_one_144 : decode cX12_one 144 = .ok (.lload_n 1, 1) := by decide +kernel
theorem dX12_one_145 : decode cX12_one 145 = .ok (.lload_n 3, 1) := by decide +kernel
theorem dX12_one_146 : decode cX12_one 146 = .ok (.lcmp, 1) := by decide +kernel
theorem dX12_one_147 : decode cX12_one 147 = .ok (.ifCond .lt 7, 3) := by decide +kernel
theorem dX12_one_150 : decode cX12_one 150 = .ok (.lconst 1, 1) := by decide +kernel
theorem dX12_one_151 : decode cX12_one 151 = .ok (.goto 4, 3) := by decide +kernel
theorem dX12_one_154 : decode cX12_one 154 = .ok (.lconst 0, 1) := by decide +kernel
theorem dX12_one_155 : decode cX12_one 155 = .ok (.lreturn, 1) := by decide +kernel
theorem dX12_one_156 : decode cX12_one 156 = .ok (.lload_n 1, 1) := by decide +kernel
theorem dX12_one_157 : decode cX12_one 157 = .ok (.lload_n 3, 1) := by decide +kernel
theorem dX12_one_158 : decode cX12_one 158 = .ok (.lcmp, 1) := by decide +kernel
theorem dX12_one_159 : decode cX12_one 159 = .ok (.ifCond .le 7, 3) := by decide +kernel
theorem dX12_one_162 : decode cX12_one 162 = .ok (.lconst 1, 1) := by decide +kernel
theorem dX12_one_163 : decode cX12_one 163 = .ok (.goto 4, 3) := by decide +kernel
theorem dX12_one_166 : decode cX12_one 166 = .ok (.lconst 0, 1) := by decide +kernel
theorem dX12_one_167 : decode cX12_one 167 = .ok (.lreturn, 1) := by decide +kernel
theorem dX12_one_168 : decode cX12_one 168 = .ok (.lload_n 1, 1) := by decide +kernel
theorem dX12_one_169 : decode cX12_one 169 = .ok (.lload_n 3, 1) := by decide +kernel
theorem dX12_one_170 : decode cX12_one 170 = .ok (.land, 1) := by decide +kernel
theorem dX12_one_171 : decode cX12_one 171 = .ok (.lreturn, 1) := by decide +kernel
theorem dX12_one_172 : decode cX12_one 172 = .ok (.lload_n 1, 1) := by decide +kernel
theorem dX12_one_173 : decode cX12_one 173 = .ok (.lload_n 3, 1) := by decide +kernel
theorem dX12_one_174 : decode cX12_one 174 = .ok (.lor, 1) := by decide +kernel
theorem dX12_one_175 : decode cX12_one 175 = .ok (.lreturn, 1) := by decide +kernel
set_option maxRecDepth 20000 in
theorem ggX12_reckons_X12_push : GoodIn wsX12_reckons wsX12_push := goodIn_r _ [8, 9, 1, 17, 18, 19, 20, 21, 22, 23, 24, 25, 26, 27, 28, 29, 30, 31, 32, 33, 34, 35, 36, 37, 38, 39, 40, 41, 42, 43, 44, 45, 46, 47, 48, 49, 50, 51, 52, 53, 54, 55, 56, 57, 58, 59, 60] (by decide +kernel) (by decide +kernel)
set_option maxRecDepth 20000 in
theorem gX12_reckons_X12_push : GoodIn wsX12_reckons (wsV RX12 279 RX12 yX12_push wsX12_push) := goodIn_app (goodIn_of _ (by decide +kernel)) ggX12_reckons_X12_push
set_option maxRecDepth 20000 in
theorem ggX12_reckons_X12_pop : GoodIn wsX12_reckons wsX12_pop := goodIn_r _ [13, 1, 9, 17, 18, 19, 20, 21, 22, 23, 24, 25, 26, 27, 28, 29, 30, 31, 32, 33, 34, 35, 36, 37, 38, 39, 40, 41, 42, 43, 44, 45, 46, 47, 48, 49, 50, 51, 52, 53, 54, 55, 56, 57, 58, 59, 60] (by decide +kernel) (by decide +kernel)
set_option maxRecDepth 20000 in
theorem gX12_reckons_X12_pop : GoodIn wsX12_reckons (wsV RX12 283 RX12 yX12_pop wsX12_pop) := goodIn_app (goodIn_of _ (by decide +kernel)) ggX12_reckons_X12_pop
set_option maxRecDepth 20000 in
theorem ggX12_reckons_X12_one : GoodIn wsX12_reckons wsX12_one := goodIn_r _ [16] (by decide +kernel) (by decide +kernel)
set_option maxRecDepth 20000 in
theorem gX12_reckons_X12_one : GoodIn wsX12_reckons (va_wsS RX12 287 yX12_one wsX12_one) := goodIn_app (goodIn_of _ (by decide +kernel)) ggX12_reckons_X12_one
theorem dX12_reckons_0 : decode cX12_reckons 0 = .ok (.aload_n 0, 1) := by decide +kernel
theorem dX12_reckons_1 : decode cX12_reckons 1 = .ok (.iconst 0, 1) := by decide +kernel
theorem dX12_reckons_2 : decode cX12_reckons 2 = .ok (.putfield 276, 3) := by decide +kernel
theorem dX12_reckons_5 : decode cX12_reckons 5 = .ok (.iload_n 2, 1) := by decide +kernel
theorem dX12_reckons_6 : decode cX12_reckons 6 = .ok (.istore 4, 2) := by decide +kernel
theorem dX12_reckons_8 : decode cX12_reckons 8 = .ok (.iload 4, 2) := by decide +kernel
theorem dX12_reckons_10 : decode cX12_reckons 10 = .ok (.iload_n 3, 1) := by decide +kernel
theorem dX12_reckons_11 : decode cX12_reckons 11 = .ok (.if_icmp .ge 124, 3) := by decide +kernel
theorem dX12_reckons_14 : decode cX12_reckons 14 = .ok (.aload_n 0, 1) := by decide +kernel
theorem dX12_reckons_15 : decode cX12_reckons 15 = .ok (.getfield 13, 3) := by decide +kernel
theorem dX12_reckons_18 : decode cX12_reckons 18 = .ok (.sipush 400, 3) := by decide +kernel
theorem dX12_reckons_21 : decode cX12_reckons 21 = .ok (.iload_n 1, 1) := by decide +kernel
theorem dX12_reckons_22 : decode cX12_reckons 22 = .ok (.imul, 1) := by decide +kernel
theorem dX12_reckons_23 : decode cX12_reckons 23 = .ok (.iload 4, 2) := by decide +kernel
theorem dX12_reckons_25 : decode cX12_reckons 25 = .ok (.iadd, 1) := by decide +kernel
theorem dX12_reckons_26 : decode cX12_reckons 26 = .ok (.iaload, 1) := by decide +kernel
theorem dX12_reckons_27 : decode cX12_reckons 27 = .ok (.bipush 15, 2) := by decide +kernel
theorem dX12_reckons_29 : decode cX12_reckons 29 = .ok (.iand, 1) := by decide +kernel
theorem dX12_reckons_30 : decode cX12_reckons 30 = .ok (.istore 5, 2) := by decide +kernel
theorem dX12_reckons_32 : decode cX12_reckons 32 = .ok (.aload_n 0, 1) := by decide +kernel
theorem dX12_reckons_33 : decode cX12_reckons 33 = .ok (.getfield 13, 3) := by decide +kernel
theorem dX12_reckons_36 : decode cX12_reckons 36 = .ok (.sipush 400, 3) := by decide +kernel
theorem dX12_reckons_39 : decode cX12_reckons 39 = .ok (.iload_n 1, 1) := by decide +kernel
theorem dX12_reckons_40 : decode cX12_reckons 40 = .ok (.imul, 1) := by decide +kernel
theorem dX12_reckons_41 : decode cX12_reckons 41 = .ok (.iload 4, 2) := by decide +kernel
theorem dX12_reckons_43 : decode cX12_reckons 43 = .ok (.iadd, 1) := by decide +kernel
theorem dX12_reckons_44 : decode cX12_reckons 44 = .ok (.iaload, 1) := by decide +kernel
theorem dX12_reckons_45 : decode cX12_reckons 45 = .ok (.iconst 4, 1) := by decide +kernel
theorem dX12_reckons_46 : decode cX12_reckons 46 = .ok (.ishr, 1) := by decide +kernel
theorem dX12_reckons_47 : decode cX12_reckons 47 = .ok (.istore 6, 2) := by decide +kernel
theorem dX12_reckons_49 : decode cX12_reckons 49 = .ok (.iload 5, 2) := by decide +kernel
theorem dX12_reckons_51 : decode cX12_reckons 51 = .ok (.ifCond .ne 13, 3) := by decide +kernel
theorem dX12_reckons_54 : decode cX12_reckons 54 = .ok (.aload_n 0, 1) := by decide +kernel
theorem dX12_reckons_55 : decode cX12_reckons 55 = .ok (.iload 6, 2) := by decide +kernel
theorem dX12_reckons_57 : decode cX12_reckons 57 = .ok (.i2l, 1) := by decide +kernel
theorem dX12_reckons_58 : decode cX12_reckons 58 = .ok (.invokevirtual 279, 3) := by decide +kernel
theorem dX12_reckons_61 : decode cX12_reckons 61 = .ok (.goto 68, 3) := by decide +kernel
theorem dX12_reckons_64 : decode cX12_reckons 64 = .ok (.iload 5, 2) := by decide +kernel
theorem dX12_reckons_66 : decode cX12_reckons 66 = .ok (.iconst 1, 1) := by decide +kernel
theorem dX12_reckons_67 : decode cX12_reckons 67 = .ok (.if_icmp .ne 17, 3) := by decide +kernel
theorem dX12_reckons_70 : decode cX12_reckons 70 = .ok (.aload_n 0, 1) := by decide +kernel
theorem dX12_reckons_71 : decode cX12_reckons 71 = .ok (.aload_n 0, 1) := by decide +kernel
theorem dX12_reckons_72 : decode cX12_reckons 72 = .ok (.getfield 36, 3) := by decide +kernel
theorem dX12_reckons_75 : decode cX12_reckons 75 = .ok (.iload 6, 2) := by decide +kernel
theorem dX12_reckons_77 : decode cX12_reckons 77 = .ok (.laload, 1) := by decide +kernel
theorem dX12_reckons_78 : decode cX12_reckons 78 = .ok (.invokevirtual 279, 3) := by decide +kernel
theorem dX12_reckons_81 : decode cX12_reckons 81 = .ok (.goto 48, 3) := by decide +kernel
theorem dX12_reckons_84 : decode cX12_reckons 84 = .ok (.iload 5, 2) := by decide +kernel
theorem dX12_reckons_86 : decode cX12_reckons 86 = .ok (.bipush 11, 2) := by decide +kernel
theorem dX12_reckons_88 : decode cX12_reckons 88 = .ok (.if_icmp .ne 16, 3) := by decide +kernel
theorem dX12_reckons_91 : decode cX12_reckons 91 = .ok (.aload_n 0, 1) := by decide +kernel
theorem dX12_reckons_92 : decode cX12_reckons 92 = .ok (.lconst 1, 1) := by decide +kernel
theorem dX12_reckons_93 : decode cX12_reckons 93 = .ok (.aload_n 0, 1) := by decide +kernel
theorem dX12_reckons_94 : decode cX12_reckons 94 = .ok (.invokevirtual 283, 3) := by decide +kernel
theorem dX12_reckons_97 : decode cX12_reckons 97 = .ok (.lsub, 1) := by decide +kernel
theorem dX12_reckons_98 : decode cX12_reckons 98 = .ok (.invokevirtual 279, 3) := by decide +kernel
theorem dX12_reckons_101 : decode cX12_reckons 101 = .ok (.goto 28, 3) := by decide +kernel
theorem dX12_reckons_104 : decode cX12_reckons 104 = .ok (.aload_n 0, 1) := by decide +kernel
theorem dX12_reckons_105 : decode cX12_reckons 105 = .ok (.invokevirtual 283, 3) := by decide +kernel
theorem dX12_reckons_108 : decode cX12_reckons 108 = .ok (.lstore 7, 2) := by decide +kernel
theorem dX12_reckons_110 : decode cX12_reckons 110 = .ok (.aload_n 0, 1) := by decide +kernel
theorem dX12_reckons_111 : decode cX12_reckons 111 = .ok (.invokevirtual 283, 3) := by decide +kernel
theorem dX12_reckons_114 : decode cX12_reckons 114 = .ok (.lstore 9, 2) := by decide +kernel
theorem dX12_reckons_116 : decode cX12_reckons 116 = .ok (.aload_n 0, 1) := by decide +kernel
theorem dX12_reckons_117 : decode cX12_reckons 117 = .ok (.iload 5, 2) := by decide +kernel
theorem dX12_reckons_119 : decode cX12_reckons 119 = .ok (.lload 9, 2) := by decide +kernel
theorem dX12_reckons_121 : decode cX12_reckons 121 = .ok (.lload 7, 2) := by decide +kernel
theorem dX12_reckons_123 : decode cX12_reckons 123 = .ok (.invokestatic 287, 3) := by decide +kernel
theorem dX12_reckons_126 : decode cX12_reckons 126 = .ok (.invokevirtual 279, 3) := by decide +kernel
theorem dX12_reckons_129 : decode cX12_reckons 129 = .ok (.iinc 4 1, 3) := by decide +kernel
theorem dX12_reckons_132 : decode cX12_reckons 132 = .ok (.goto (-124), 3) := by decide +kernel
theorem dX12_reckons_135 : decode cX12_reckons 135 = .ok (.aload_n 0, 1) := by decide +kernel
theorem dX12_reckons_136 : decode cX12_reckons 136 = .ok (.invokevirtual 283, 3) := by decide +kernel
theorem dX12_reckons_139 : decode cX12_reckons 139 = .ok (.lreturn, 1) := by decide +kernel
theorem dX12_isTown_0 : decode cX12_isTown 0 = .ok (.aload_n 0, 1) := by decide +kernel
theorem dX12_isTown_1 : decode cX12_isTown 1 = .ok (.getfield 39, 3) := by decide +kernel
theorem dX12_isTown_4 : decode cX12_isTown 4 = .ok (.iconst 0, 1) := by decide +kernel
theorem dX12_isTown_5 : decode cX12_isTown 5 = .ok (.iaload, 1) := by decide +kernel
theorem dX12_isTown_6 : decode cX12_isTown 6 = .ok (.ifCond .le 7, 3) := by decide +kernel
theorem dX12_isTown_9 : decode cX12_isTown 9 = .ok (.iconst 1, 1) := by decide +kernel
theorem dX12_isTown_10 : decode cX12_isTown 10 = .ok (.goto 4, 3) := by decide +kernel
theorem dX12_isTown_13 : decode cX12_isTown 13 = .ok (.iconst 0, 1) := by decide +kernel
theorem dX12_isTown_14 : decode cX12_isTown 14 = .ok (.ireturn, 1) := by decide +kernel
theorem dX12_isGate_0 : decode cX12_isGate 0 = .ok (.iload_n 1, 1) := by decide +kernel
theorem dX12_isGate_1 : decode cX12_isGate 1 = .ok (.ifCond .lt 17, 3) := by decide +kernel
theorem dX12_isGate_4 : decode cX12_isGate 4 = .ok (.iload_n 1, 1) := by decide +kernel
theorem dX12_isGate_5 : decode cX12_isGate 5 = .ok (.aload_n 0, 1) := by decide +kernel
theorem dX12_isGate_6 : decode cX12_isGate 6 = .ok (.getfield 39, 3) := by decide +kernel
theorem dX12_isGate_9 : decode cX12_isGate 9 = .ok (.iconst 0, 1) := by decide +kernel
theorem dX12_isGate_10 : decode cX12_isGate 10 = .ok (.iaload, 1) := by decide +kernel
theorem dX12_isGate_11 : decode cX12_isGate 11 = .ok (.if_icmp .ge 7, 3) := by decide +kernel
theorem dX12_isGate_14 : decode cX12_isGate 14 = .ok (.iconst 1, 1) := by decide +kernel
theorem dX12_isGate_15 : decode cX12_isGate 15 = .ok (.goto 4, 3) := by decide +kernel
theorem dX12_isGate_18 : decode cX12_isGate 18 = .ok (.iconst 0, 1) := by decide +kernel
theorem dX12_isGate_19 : decode cX12_isGate 19 = .ok (.ireturn, 1) := by decide +kernel
theorem dX12_isHour_0 : decode cX12_isHour 0 = .ok (.iload_n 1, 1) := by decide +kernel
theorem dX12_isHour_1 : decode cX12_isHour 1 = .ok (.ifCond .lt 17, 3) := by decide +kernel
theorem dX12_isHour_4 : decode cX12_isHour 4 = .ok (.iload_n 1, 1) := by decide +kernel
theorem dX12_isHour_5 : decode cX12_isHour 5 = .ok (.aload_n 0, 1) := by decide +kernel
theorem dX12_isHour_6 : decode cX12_isHour 6 = .ok (.getfield 39, 3) := by decide +kernel
theorem dX12_isHour_9 : decode cX12_isHour 9 = .ok (.iconst 1, 1) := by decide +kernel
theorem dX12_isHour_10 : decode cX12_isHour 10 = .ok (.iaload, 1) := by decide +kernel
theorem dX12_isHour_11 : decode cX12_isHour 11 = .ok (.if_icmp .ge 7, 3) := by decide +kernel
theorem dX12_isHour_14 : decode cX12_isHour 14 = .ok (.iconst 1, 1) := by decide +kernel
theorem dX12_isHour_15 : decode cX12_isHour 15 = .ok (.goto 4, 3) := by decide +kernel
theorem dX12_isHour_18 : decode cX12_isHour 18 = .ok (.iconst 0, 1) := by decide +kernel
theorem dX12_isHour_19 : decode cX12_isHour 19 = .ok (.ireturn, 1) := by decide +kernel
theorem dX12_isPerson_0 : decode cX12_isPerson 0 = .ok (.iload_n 1, 1) := by decide +kernel
theorem dX12_isPerson_1 : decode cX12_isPerson 1 = .ok (.ifCond .lt 17, 3) := by decide +kernel
theorem dX12_isPerson_4 : decode cX12_isPerson 4 = .ok (.iload_n 1, 1) := by decide +kernel
theorem dX12_isPerson_5 : decode cX12_isPerson 5 = .ok (.aload_n 0, 1) := by decide +kernel
theorem dX12_isPerson_6 : decode cX12_isPerson 6 = .ok (.getfield 39, 3) := by decide +kernel
theorem dX12_isPerson_9 : decode cX12_isPerson 9 = .ok (.iconst 2, 1) := by decide +kernel
theorem dX12_isPerson_10 : decode cX12_isPerson 10 = .ok (.iaload, 1) := by decide +kernel
theorem dX12_isPerson_11 : decode cX12_isPerson 11 = .ok (.if_icmp .ge 7, 3) := by decide +kernel
theorem dX12_isPerson_14 : decode cX12_isPerson 14 = .ok (.iconst 1, 1) := by decide +kernel
theorem dX12_isPerson_15 : decode cX12_isPerson 15 = .ok (.goto 4, 3) := by decide +kernel
theorem dX12_isPerson_18 : decode cX12_isPerson 18 = .ok (.iconst 0, 1) := by decide +kernel
theorem dX12_isPerson_19 : decode cX12_isPerson 19 = .ok (.ireturn, 1) := by decide +kernel
theorem dX12_placeOf_0 : decode cX12_placeOf 0 = .ok (.aload_n 0, 1) := by decide +kernel
theorem dX12_placeOf_1 : decode cX12_placeOf 1 = .ok (.getfield 39, 3) := by decide +kernel
theorem dX12_placeOf_4 : decode cX12_placeOf 4 = .ok (.bipush 10, 2) := by decide +kernel
theorem dX12_placeOf_6 : decode cX12_placeOf 6 = .ok (.bipush 12, 2) := by decide +kernel
theorem dX12_placeOf_8 : decode cX12_placeOf 8 = .ok (.iload_n 1, 1) := by decide +kernel
theorem dX12_placeOf_9 : decode cX12_placeOf 9 = .ok (.imul, 1) := by decide +kernel
theorem dX12_placeOf_10 : decode cX12_placeOf 10 = .ok (.iadd, 1) := by decide +kernel
theorem dX12_placeOf_11 : decode cX12_placeOf 11 = .ok (.iload_n 2, 1) := by decide +kernel
theorem dX12_placeOf_12 : decode cX12_placeOf 12 = .ok (.iadd, 1) := by decide +kernel
theorem dX12_placeOf_13 : decode cX12_placeOf 13 = .ok (.iaload, 1) := by decide +kernel
theorem dX12_placeOf_14 : decode cX12_placeOf 14 = .ok (.ireturn, 1) := by decide +kernel
theorem dX12_personOf_0 : decode cX12_personOf 0 = .ok (.aload_n 0, 1) := by decide +kernel
theorem dX12_personOf_1 : decode cX12_personOf 1 = .ok (.getfield 39, 3) := by decide +kernel
theorem dX12_personOf_4 : decode cX12_personOf 4 = .ok (.sipush 130, 3) := by decide +kernel
theorem dX12_personOf_7 : decode cX12_personOf 7 = .ok (.iconst 4, 1) := by decide +kernel
theorem dX12_personOf_8 : decode cX12_personOf 8 = .ok (.iload_n 1, 1) := by decide +kernel
theorem dX12_personOf_9 : decode cX12_personOf 9 = .ok (.imul, 1) := by decide +kernel
theorem dX12_personOf_10 : decode cX12_personOf 10 = .ok (.iadd, 1) := by decide +kernel
theorem dX12_personOf_11 : decode cX12_personOf 11 = .ok (.iload_n 2, 1) := by decide +kernel
theorem dX12_personOf_12 : decode cX12_personOf 12 = .ok (.iadd, 1) := by decide +kernel
theorem dX12_personOf_13 : decode cX12_personOf 13 = .ok (.iaload, 1) := by decide +kernel
theorem dX12_personOf_14 : decode cX12_personOf 14 = .ok (.ireturn, 1) := by decide +kernel
theorem dX12_everybody_0 : decode cX12_everybody 0 = .ok (.iconst 1, 1) := by decide +kernel
theorem dX12_everybody_1 : decode cX12_everybody 1 = .ok (.aload_n 0, 1) := by decide +kernel
theorem dX12_everybody_2 : decode cX12_everybody 2 = .ok (.getfield 39, 3) := by decide +kernel
theorem dX12_everybody_5 : decode cX12_everybody 5 = .ok (.iconst 2, 1) := by decide +kernel
theorem dX12_everybody_6 : decode cX12_everybody 6 = .ok (.iaload, 1) := by decide +kernel
theorem dX12_everybody_7 : decode cX12_everybody 7 = .ok (.ishl, 1) := by decide +kernel
theorem dX12_everybody_8 : decode cX12_everybody 8 = .ok (.iconst 1, 1) := by decide +kernel
theorem dX12_everybody_9 : decode cX12_everybody 9 = .ok (.isub, 1) := by decide +kernel
theorem dX12_everybody_10 : decode cX12_everybody 10 = .ok (.ireturn, 1) := by decide +kernel
set_option maxRecDepth 20000 in
theorem ggX12_meetIn_X12_placeOf : GoodIn wsX12_meetIn wsX12_placeOf := goodIn_r _ [5, 6, 7, 8, 9, 10, 11, 12, 13, 14, 15, 16, 17, 18, 19, 20, 21, 22, 23, 24, 25, 26, 27, 28, 29, 30, 31, 32, 33, 34, 35, 36, 37, 38, 39, 40, 41, 42, 43, 44, 45, 46, 47, 48, 49, 50] (by decide +kernel) (by decide +kernel)
set_option maxRecDepth 20000 in
theorem gX12_meetIn_X12_placeOf : GoodIn wsX12_meetIn (wsV RX12 291 RX12 yX12_placeOf wsX12_placeOf) := goodIn_app (goodIn_of _ (by decide +kernel)) ggX12_meetIn_X12_placeOf
theorem dX12_meetIn_0 : decode cX12_meetIn 0 = .ok (.aload_n 0, 1) := by decide +kernel
theorem dX12_meetIn_1 : decode cX12_meetIn 1 = .ok (.iload_n 1, 1) := by decide +kernel
theorem dX12_meetIn_2 : decode cX12_meetIn 2 = .ok (.iload_n 3, 1) := by decide +kernel
theorem dX12_meetIn_3 : decode cX12_meetIn 3 = .ok (.invokevirtual 291, 3) := by decide +kernel
theorem dX12_meetIn_6 : decode cX12_meetIn 6 = .ok (.aload_n 0, 1) := by decide +kernel
theorem dX12_meetIn_7 : decode cX12_meetIn 7 = .ok (.iload_n 2, 1) := by decide +kernel
theorem dX12_meetIn_8 : decode cX12_meetIn 8 = .ok (.iload_n 3, 1) := by decide +kernel
theorem dX12_meetIn_9 : decode cX12_meetIn 9 = .ok (.invokevirtual 291, 3) := by decide +kernel
theorem dX12_meetIn_12 : decode cX12_meetIn 12 = .ok (.if_icmp .ne 18, 3) := by decide +kernel
theorem dX12_meetIn_15 : decode cX12_meetIn 15 = .ok (.aload_n 0, 1) := by decide +kernel
theorem dX12_meetIn_16 : decode cX12_meetIn 16 = .ok (.iload_n 1, 1) := by decide +kernel
theorem dX12_meetIn_17 : decode cX12_meetIn 17 = .ok (.iload_n 3, 1) := by decide +kernel
theorem dX12_meetIn_18 : decode cX12_meetIn 18 = .ok (.invokevirtual 291, 3) := by decide +kernel
theorem dX12_meetIn_21 : decode cX12_meetIn 21 = .ok (.bipush 99, 2) := by decide +kernel
theorem dX12_meetIn_23 : decode cX12_meetIn 23 = .ok (.if_icmp .eq 7, 3) := by decide +kernel
theorem dX12_meetIn_26 : decode cX12_meetIn 26 = .ok (.iconst 1, 1) := by decide +kernel
theorem dX12_meetIn_27 : decode cX12_meetIn 27 = .ok (.goto 4, 3) := by decide +kernel
theorem dX12_meetIn_30 : decode cX12_meetIn 30 = .ok (.iconst 0, 1) := by decide +kernel
theorem dX12_meetIn_31 : decode cX12_meetIn 31 = .ok (.ireturn, 1) := by decide +kernel
set_option maxRecDepth 20000 in
theorem ggX12_meet_X12_meetIn : GoodIn wsX12_meet wsX12_meetIn := goodIn_r _ [6, 7, 8, 9, 5, 10, 1, 11, 12, 13, 14, 15, 16, 17, 18, 19, 20, 21, 22, 23, 24, 25, 26, 27, 28, 29, 30, 31, 32, 33, 34, 35, 36, 37, 38, 39, 40, 41, 42, 43, 44, 45, 46, 47, 48, 49, 50, 51, 52, 53, 54] (by decide +kernel) (by decide +kernel)
set_option maxRecDepth 20000 in
theorem gX12_meet_X12_meetIn : GoodIn wsX12_meet (wsV RX12 295 RX12 yX12_meetIn wsX12_meetIn) := goodIn_app (goodIn_of _ (by decide +kernel)) ggX12_meet_X12_meetIn
theorem dX12_meet_0 : decode cX12_meet 0 = .ok (.iconst 0, 1) := by decide +kernel
theorem dX12_meet_1 : decode cX12_meet 1 = .ok (.istore_n 3, 1) := by decide +kernel
theorem dX12_meet_2 : decode cX12_meet 2 = .ok (.iload_n 3, 1) := by decide +kernel
theorem dX12_meet_3 : decode cX12_meet 3 = .ok (.aload_n 0, 1) := by decide +kernel
theorem dX12_meet_4 : decode cX12_meet 4 = .ok (.getfield 39, 3) := by decide +kernel
theorem dX12_meet_7 : decode cX12_meet 7 = .ok (.iconst 1, 1) := by decide +kernel
theorem dX12_meet_8 : decode cX12_meet 8 = .ok (.iaload, 1) := by decide +kernel
theorem dX12_meet_9 : decode cX12_meet 9 = .ok (.if_icmp .ge 21, 3) := by decide +kernel
theorem dX12_meet_12 : decode cX12_meet 12 = .ok (.aload_n 0, 1) := by decide +kernel
theorem dX12_meet_13 : decode cX12_meet 13 = .ok (.iload_n 1, 1) := by decide +kernel
theorem dX12_meet_14 : decode cX12_meet 14 = .ok (.iload_n 2, 1) := by decide +kernel
theorem dX12_meet_15 : decode cX12_meet 15 = .ok (.iload_n 3, 1) := by decide +kernel
theorem dX12_meet_16 : decode cX12_meet 16 = .ok (.invokevirtual 295, 3) := by decide +kernel
theorem dX12_meet_19 : decode cX12_meet 19 = .ok (.ifCond .eq 5, 3) := by decide +kernel
theorem dX12_meet_22 : decode cX12_meet 22 = .ok (.iconst 1, 1) := by decide +kernel
theorem dX12_meet_23 : decode cX12_meet 23 = .ok (.ireturn, 1) := by decide +kernel
theorem dX12_meet_24 : decode cX12_meet 24 = .ok (.iinc 3 1, 3) := by decide +kernel
theorem dX12_meet_27 : decode cX12_meet 27 = .ok (.goto (-25), 3) := by decide +kernel
theorem dX12_meet_30 : decode cX12_meet 30 = .ok (.iconst 0, 1) := by decide +kernel
theorem dX12_meet_31 : decode cX12_meet 31 = .ok (.ireturn, 1) := by decide +kernel
set_option maxRecDepth 20000 in
theorem ggX12_crowdOf_X12_isOf : GoodIn wsX12_crowdOf wsX12_isOf := goodIn_r _ [5] (by decide +kernel) (by decide +kernel)
set_option maxRecDepth 20000 in
theorem gX12_crowdOf_X12_isOf : GoodIn wsX12_crowdOf (va_wsS RX12 299 yX12_isOf wsX12_isOf) := goodIn_app (goodIn_of _ (by decide +kernel)) ggX12_crowdOf_X12_isOf
set_option maxRecDepth 20000 in
theorem ggX12_crowdOf_X12_placeOf : GoodIn wsX12_crowdOf wsX12_placeOf := goodIn_r _ [9, 1, 10, 11, 12, 13, 14, 15, 16, 17, 18, 19, 20, 21, 22, 23, 24, 25, 26, 27, 28, 29, 30, 31, 32, 33, 34, 35, 36, 37, 38, 39, 40, 41, 42, 43, 44, 45, 46, 47, 48, 49, 50, 51, 52, 53] (by decide +kernel) (by decide +kernel)
set_option maxRecDepth 20000 in
theorem gX12_crowdOf_X12_placeOf : GoodIn wsX12_crowdOf (wsV RX12 291 RX12 yX12_placeOf wsX12_placeOf) := goodIn_app (goodIn_of _ (by decide +kernel)) ggX12_crowdOf_X12_placeOf
theorem dX12_crowdOf_0 : decode cX12_crowdOf 0 = .ok (.iconst 0, 1) := by decide +kernel
theorem dX12_crowdOf_1 : decode cX12_crowdOf 1 = .ok (.istore 4, 2) := by decide +kernel
theorem dX12_crowdOf_3 : decode cX12_crowdOf 3 = .ok (.iconst 0, 1) := by decide +kernel
theorem dX12_crowdOf_4 : decode cX12_crowdOf 4 = .ok (.istore 5, 2) := by decide +kernel
theorem dX12_crowdOf_6 : decode cX12_crowdOf 6 = .ok (.iload 5, 2) := by decide +kernel
theorem dX12_crowdOf_8 : decode cX12_crowdOf 8 = .ok (.aload_n 0, 1) := by decide +kernel
theorem dX12_crowdOf_9 : decode cX12_crowdOf 9 = .ok (.getfield 39, 3) := by decide +kernel
theorem dX12_crowdOf_12 : decode cX12_crowdOf 12 = .ok (.iconst 2, 1) := by decide +kernel
theorem dX12_crowdOf_13 : decode cX12_crowdOf 13 = .ok (.iaload, 1) := by decide +kernel
theorem dX12_crowdOf_14 : decode cX12_crowdOf 14 = .ok (.if_icmp .ge 42, 3) := by decide +kernel
theorem dX12_crowdOf_17 : decode cX12_crowdOf 17 = .ok (.iload 4, 2) := by decide +kernel
theorem dX12_crowdOf_19 : decode cX12_crowdOf 19 = .ok (.iload_n 1, 1) := by decide +kernel
theorem dX12_crowdOf_20 : decode cX12_crowdOf 20 = .ok (.iload 5, 2) := by decide +kernel
theorem dX12_crowdOf_22 : decode cX12_crowdOf 22 = .ok (.invokestatic 299, 3) := by decide +kernel
theorem dX12_crowdOf_25 : decode cX12_crowdOf 25 = .ok (.ifCond .eq 21, 3) := by decide +kernel
theorem dX12_crowdOf_28 : decode cX12_crowdOf 28 = .ok (.aload_n 0, 1) := by decide +kernel
theorem dX12_crowdOf_29 : decode cX12_crowdOf 29 = .ok (.iload 5, 2) := by decide +kernel
theorem dX12_crowdOf_31 : decode cX12_crowdOf 31 = .ok (.iload_n 3, 1) := by decide +kernel
theorem dX12_crowdOf_32 : decode cX12_crowdOf 32 = .ok (.invokevirtual 291, 3) := by decide +kernel
theorem dX12_crowdOf_35 : decode cX12_crowdOf 35 = .ok (.iload_n 2, 1) := by decide +kernel
theorem dX12_crowdOf_36 : decode cX12_crowdOf 36 = .ok (.if_icmp .ne 10, 3) := by decide +kernel
theorem dX12_crowdOf_39 : decode cX12_crowdOf 39 = .ok (.iconst 1, 1) := by decide +kernel
theorem dX12_crowdOf_40 : decode cX12_crowdOf 40 = .ok (.iload 5, 2) := by decide +kernel
theorem dX12_crowdOf_42 : decode cX12_crowdOf 42 = .ok (.ishl, 1) := by decide +kernel
theorem dX12_crowdOf_43 : decode cX12_crowdOf 43 = .ok (.goto 4, 3) := by decide +kernel
theorem dX12_crowdOf_46 : decode cX12_crowdOf 46 = .ok (.iconst 0, 1) := by decide +kernel
theorem dX12_crowdOf_47 : decode cX12_crowdOf 47 = .ok (.ior, 1) := by decide +kernel
theorem dX12_crowdOf_48 : decode cX12_crowdOf 48 = .ok (.istore 4, 2) := by decide +kernel
theorem dX12_crowdOf_50 : decode cX12_crowdOf 50 = .ok (.iinc 5 1, 3) := by decide +kernel
theorem dX12_crowdOf_53 : decode cX12_crowdOf 53 = .ok (.goto (-47), 3) := by decide +kernel
theorem dX12_crowdOf_56 : decode cX12_crowdOf 56 = .ok (.iload 4, 2) := by decide +kernel
theorem dX12_crowdOf_58 : decode cX12_crowdOf 58 = .ok (.ireturn, 1) := by decide +kernel
set_option maxRecDepth 20000 in
theorem ggX12_force_X12_isRule : GoodIn wsX12_force wsX12_isRule := goodIn_r _ [6, 7, 8, 9, 10, 11, 12, 13, 14, 15, 16, 17, 18, 19, 20, 21, 22, 23, 24, 25, 26, 27, 28, 29, 30, 31, 32, 33, 34, 35, 36, 37, 38, 39, 40, 41, 42, 43, 44, 45, 46, 47, 48, 49, 50, 51] (by decide +kernel) (by decide +kernel)
set_option maxRecDepth 20000 in
theorem gX12_force_X12_isRule : GoodIn wsX12_force (wsV RX12 302 RX12 yX12_isRule wsX12_isRule) := goodIn_app (goodIn_of _ (by decide +kernel)) ggX12_force_X12_isRule
theorem dX12_force_0 : decode cX12_force 0 = .ok (.iload_n 1, 1) := by decide +kernel
theorem dX12_force_1 : decode cX12_force 1 = .ok (.iconst (-1), 1) := by decide +kernel
theorem dX12_force_2 : decode cX12_force 2 = .ok (.if_icmp .eq 14, 3) := by decide +kernel
theorem dX12_force_5 : decode cX12_force 5 = .ok (.aload_n 0, 1) := by decide +kernel
theorem dX12_force_6 : decode cX12_force 6 = .ok (.iload_n 1, 1) := by decide +kernel
theorem dX12_force_7 : decode cX12_force 7 = .ok (.invokevirtual 302, 3) := by decide +kernel
theorem dX12_force_10 : decode cX12_force 10 = .ok (.ifCond .ne 6, 3) := by decide +kernel
theorem dX12_force_13 : decode cX12_force 13 = .ok (.bipush (-2), 2) := by decide +kernel
theorem dX12_force_15 : decode cX12_force 15 = .ok (.ireturn, 1) := by decide +kernel
theorem dX12_force_16 : decode cX12_force 16 = .ok (.aload_n 0, 1) := by decide +kernel
theorem dX12_force_17 : decode cX12_force 17 = .ok (.getfield 42, 3) := by decide +kernel
theorem dX12_force_20 : decode cX12_force 20 = .ok (.istore_n 2, 1) := by decide +kernel
theorem dX12_force_21 : decode cX12_force 21 = .ok (.aload_n 0, 1) := by decide +kernel
theorem dX12_force_22 : decode cX12_force 22 = .ok (.iload_n 1, 1) := by decide +kernel
theorem dX12_force_23 : decode cX12_force 23 = .ok (.putfield 42, 3) := by decide +kernel
theorem dX12_force_26 : decode cX12_force 26 = .ok (.iload_n 2, 1) := by decide +kernel
theorem dX12_force_27 : decode cX12_force 27 = .ok (.ireturn, 1) := by decide +kernel
set_option maxRecDepth 20000 in
theorem ggX12_gives_X12_personOf : GoodIn wsX12_gives wsX12_personOf := goodIn_r _ [5, 6, 7, 8, 9, 10, 11, 12, 13, 14, 15, 16, 17, 18, 19, 20, 21, 22, 23, 24, 25, 26, 27, 28, 29, 30, 31, 32, 33, 34, 35, 36, 37, 38, 39, 40, 41, 42, 43, 44, 45, 46, 47, 48, 49, 50] (by decide +kernel) (by decide +kernel)
set_option maxRecDepth 20000 in
theorem gX12_gives_X12_personOf : GoodIn wsX12_gives (wsV RX12 305 RX12 yX12_personOf wsX12_personOf) := goodIn_app (goodIn_of _ (by decide +kernel)) ggX12_gives_X12_personOf
theorem dX12_gives_0 : decode cX12_gives 0 = .ok (.aload_n 0, 1) := by decide +kernel
theorem dX12_gives_1 : decode cX12_gives 1 = .ok (.iload_n 1, 1) := by decide +kernel
theorem dX12_gives_2 : decode cX12_gives 2 = .ok (.iconst 1, 1) := by decide +kernel
theorem dX12_gives_3 : decode cX12_gives 3 = .ok (.invokevirtual 305, 3) := by decide +kernel
theorem dX12_gives_6 : decode cX12_gives 6 = .ok (.iconst 1, 1) := by decide +kernel
theorem dX12_gives_7 : decode cX12_gives 7 = .ok (.if_icmp .ne 5, 3) := by decide +kernel
theorem dX12_gives_10 : decode cX12_gives 10 = .ok (.iconst 0, 1) := by decide +kernel
theorem dX12_gives_11 : decode cX12_gives 11 = .ok (.ireturn, 1) := by decide +kernel
theorem dX12_gives_12 : decode cX12_gives 12 = .ok (.aload_n 0, 1) := by decide +kernel
theorem dX12_gives_13 : decode cX12_gives 13 = .ok (.iload_n 1, 1) := by decide +kernel
theorem dX12_gives_14 : decode cX12_gives 14 = .ok (.iconst 2, 1) := by decide +kernel
theorem dX12_gives_15 : decode cX12_gives 15 = .ok (.invokevirtual 305, 3) := by decide +kernel
theorem dX12_gives_18 : decode cX12_gives 18 = .ok (.iconst 1, 1) := by decide +kernel
theorem dX12_gives_19 : decode cX12_gives 19 = .ok (.if_icmp .ne 7, 3) := by decide +kernel
theorem dX12_gives_22 : decode cX12_gives 22 = .ok (.iconst 1, 1) := by decide +kernel
theorem dX12_gives_23 : decode cX12_gives 23 = .ok (.goto 4, 3) := by decide +kernel
theorem dX12_gives_26 : decode cX12_gives 26 = .ok (.iconst 2, 1) := by decide +kernel
theorem dX12_gives_27 : decode cX12_gives 27 = .ok (.istore_n 2, 1) := by decide +kernel
theorem dX12_gives_28 : decode cX12_gives 28 = .ok (.aload_n 0, 1) := by decide +kernel
theorem dX12_gives_29 : decode cX12_gives 29 = .ok (.iload_n 1, 1) := by decide +kernel
theorem dX12_gives_30 : decode cX12_gives 30 = .ok (.iconst 0, 1) := by decide +kernel
theorem dX12_gives_31 : decode cX12_gives 31 = .ok (.invokevirtual 305, 3) := by decide +kernel
theorem dX12_gives_34 : decode cX12_gives 34 = .ok (.iconst 1, 1) := by decide +kernel
theorem dX12_gives_35 : decode cX12_gives 35 = .ok (.if_icmp .ne 8, 3) := by decide +kernel
theorem dX12_gives_38 : decode cX12_gives 38 = .ok (.iload_n 2, 1) := by decide +kernel
theorem dX12_gives_39 : decode cX12_gives 39 = .ok (.ineg, 1) := by decide +kernel
theorem dX12_gives_40 : decode cX12_gives 40 = .ok (.goto 4, 3) := by decide +kernel
theorem dX12_gives_43 : decode cX12_gives 43 = .ok (.iload_n 2, 1) := by decide +kernel
theorem dX12_gives_44 : decode cX12_gives 44 = .ok (.ireturn, 1) := by decide +kernel
set_option maxRecDepth 20000 in
theorem ggX12_metAhead_X12_meetIn : GoodIn wsX12_metAhead wsX12_meetIn := goodIn_r _ [5, 6, 7, 8, 4, 9, 10, 11, 12, 13, 14, 15, 16, 17, 18, 19, 20, 21, 22, 23, 24, 25, 26, 27, 28, 29, 30, 31, 32, 33, 34, 35, 36, 37, 38, 39, 40, 41, 42, 43, 44, 45, 46, 47, 48, 49, 50, 51, 52, 53, 54] (by decide +kernel) (by decide +kernel)
set_option maxRecDepth 20000 in
theorem gX12_metAhead_X12_meetIn : GoodIn wsX12_metAhead (wsV RX12 295 RX12 yX12_meetIn wsX12_meetIn) := goodIn_app (goodIn_of _ (by decide +kernel)) ggX12_metAhead_X12_meetIn
theorem dX12_metAhead_0 : decode cX12_metAhead 0 = .ok (.iconst 0, 1) := by decide +kernel
theorem dX12_metAhead_1 : decode cX12_metAhead 1 = .ok (.istore 4, 2) := by decide +kernel
theorem dX12_metAhead_3 : decode cX12_metAhead 3 = .ok (.iconst 0, 1) := by decide +kernel
theorem dX12_metAhead_4 : decode cX12_metAhead 4 = .ok (.istore 5, 2) := by decide +kernel
theorem dX12_metAhead_6 : decode cX12_metAhead 6 = .ok (.iload 5, 2) := by decide +kernel
theorem dX12_metAhead_8 : decode cX12_metAhead 8 = .ok (.iload_n 3, 1) := by decide +kernel
theorem dX12_metAhead_9 : decode cX12_metAhead 9 = .ok (.if_icmp .ge 30, 3) := by decide +kernel
theorem dX12_metAhead_12 : decode cX12_metAhead 12 = .ok (.iload 4, 2) := by decide +kernel
theorem dX12_metAhead_14 : decode cX12_metAhead 14 = .ok (.aload_n 0, 1) := by decide +kernel
theorem dX12_metAhead_15 : decode cX12_metAhead 15 = .ok (.iload_n 1, 1) := by decide +kernel
theorem dX12_metAhead_16 : decode cX12_metAhead 16 = .ok (.iload_n 2, 1) := by decide +kernel
theorem dX12_metAhead_17 : decode cX12_metAhead 17 = .ok (.iload 5, 2) := by decide +kernel
theorem dX12_metAhead_19 : decode cX12_metAhead 19 = .ok (.invokevirtual 295, 3) := by decide +kernel
theorem dX12_metAhead_22 : decode cX12_metAhead 22 = .ok (.ifCond .eq 7, 3) := by decide +kernel
theorem dX12_metAhead_25 : decode cX12_metAhead 25 = .ok (.iconst 1, 1) := by decide +kernel
theorem dX12_metAhead_26 : decode cX12_metAhead 26 = .ok (.goto 4, 3) := by decide +kernel
theorem dX12_metAhead_29 : decode cX12_metAhead 29 = .ok (.iconst 0, 1) := by decide +kernel
theorem dX12_metAhead_30 : decode cX12_metAhead 30 = .ok (.iadd, 1) := by decide +kernel
theorem dX12_metAhead_31 : decode cX12_metAhead 31 = .ok (.istore 4, 2) := by decide +kernel
theorem dX12_metAhead_33 : decode cX12_metAhead 33 = .ok (.iinc 5 1, 3) := by decide +kernel
theorem dX12_metAhead_36 : decode cX12_metAhead 36 = .ok (.goto (-30), 3) := by decide +kernel
theorem dX12_metAhead_39 : decode cX12_metAhead 39 = .ok (.iload 4, 2) := by decide +kernel
theorem dX12_metAhead_41 : decode cX12_metAhead 41 = .ok (.ireturn, 1) := by decide +kernel
set_option maxRecDepth 20000 in
theorem ggX12_shakeOf_X12_metAhead : GoodIn wsX12_shakeOf wsX12_metAhead := goodIn_r _ [12, 13, 14, 15, 11, 16, 17, 18, 19, 20, 3, 50, 51, 52, 53, 54, 55, 56, 57, 58, 59, 60, 61, 62, 63, 64, 65, 66, 67, 68, 69, 70, 71, 72, 73, 74, 75, 76, 77, 78, 79, 80, 81, 82, 83, 84, 85, 86, 87, 88, 89, 90, 91, 92, 93] (by decide +kernel) (by decide +kernel)
set_option maxRecDepth 20000 in
theorem gX12_shakeOf_X12_metAhead : GoodIn wsX12_shakeOf (wsV RX12 308 RX12 yX12_metAhead wsX12_metAhead) := goodIn_app (goodIn_of _ (by decide +kernel)) ggX12_shakeOf_X12_metAhead
set_option maxRecDepth 20000 in
theorem ggX12_shakeOf_X12_personOf : GoodIn wsX12_shakeOf wsX12_personOf := goodIn_r _ [24, 3, 50, 51, 52, 53, 54, 55, 56, 57, 58, 59, 60, 61, 62, 63, 64, 65, 66, 67, 68, 69, 70, 71, 72, 73, 74, 75, 76, 77, 78, 79, 80, 81, 82, 83, 84, 85, 86, 87, 88, 89, 90, 91, 92, 93] (by decide +kernel) (by decide +kernel)
set_option maxRecDepth 20000 in
theorem gX12_shakeOf_X12_personOf : GoodIn wsX12_shakeOf (wsV RX12 305 RX12 yX12_personOf wsX12_personOf) := goodIn_app (goodIn_of _ (by decide +kernel)) ggX12_shakeOf_X12_personOf
set_option maxRecDepth 20000 in
theorem ggX12_shakeOf_X12_isOf : GoodIn wsX12_shakeOf wsX12_isOf := goodIn_r _ [27] (by decide +kernel) (by decide +kernel)
set_option maxRecDepth 20000 in
theorem gX12_shakeOf_X12_isOf : GoodIn wsX12_shakeOf (va_wsS RX12 299 yX12_isOf wsX12_isOf) := goodIn_app (goodIn_of _ (by decide +kernel)) ggX12_shakeOf_X12_isOf
set_option maxRecDepth 20000 in
theorem ggX12_shakeOf_X12_gives : GoodIn wsX12_shakeOf wsX12_gives := goodIn_r _ [31, 21, 22, 23, 11, 24, 3, 50, 51, 52, 53, 54, 55, 56, 57, 58, 59, 60, 61, 62, 63, 64, 65, 66, 67, 68, 69, 70, 71, 72, 73, 74, 75, 76, 77, 78, 79, 80, 81, 82, 83, 84, 85, 86, 87, 88, 89, 90, 91, 92, 93] (by decide +kernel) (by decide +kernel)
set_option maxRecDepth 20000 in
theorem gX12_shakeOf_X12_gives : GoodIn wsX12_shakeOf (wsV RX12 312 RX12 yX12_gives wsX12_gives) := goodIn_app (goodIn_of _ (by decide +kernel)) ggX12_shakeOf_X12_gives
set_option maxRecDepth 20000 in
theorem ggX12_shakeOf_X12_placeOf : GoodIn wsX12_shakeOf wsX12_placeOf := goodIn_r _ [20, 3, 50, 51, 52, 53, 54, 55, 56, 57, 58, 59, 60, 61, 62, 63, 64, 65, 66, 67, 68, 69, 70, 71, 72, 73, 74, 75, 76, 77, 78, 79, 80, 81, 82, 83, 84, 85, 86, 87, 88, 89, 90, 91, 92, 93] (by decide +kernel) (by decide +kernel)
set_option maxRecDepth 20000 in
theorem gX12_shakeOf_X12_placeOf : GoodIn wsX12_shakeOf (wsV RX12 291 RX12 yX12_placeOf wsX12_placeOf) := goodIn_app (goodIn_of _ (by decide +kernel)) ggX12_shakeOf_X12_placeOf
set_option maxRecDepth 20000 in
theorem ggX12_shakeOf_X12_reckons : GoodIn wsX12_shakeOf wsX12_reckons := goodIn_r _ [35, 36, 37, 2, 38, 39, 40, 11, 41, 42, 43, 44, 45, 46, 47, 48, 49, 50, 51, 52, 53, 54, 55, 56, 57, 58, 59, 60, 61, 62, 63, 64, 65, 66, 67, 68, 69, 70, 71, 72, 73, 74, 75, 76, 77, 78, 79, 80, 81, 82, 83, 84, 85, 86, 87, 88, 89, 90, 91, 92, 93] (by decide +kernel) (by decide +kernel)
set_option maxRecDepth 20000 in
theorem gX12_shakeOf_X12_reckons : GoodIn wsX12_shakeOf (wsV RX12 315 RX12 yX12_reckons wsX12_reckons) := goodIn_app (goodIn_of _ (by decide +kernel)) ggX12_shakeOf_X12_reckons
theorem dX12_shakeOf_0 : decode cX12_shakeOf 0 = .ok (.aload_n 0, 1) := by decide +kernel
theorem dX12_shakeOf_1 : decode cX12_shakeOf 1 = .ok (.iload_n 1, 1) := by decide +kernel
theorem dX12_shakeOf_2 : decode cX12_shakeOf 2 = .ok (.iload_n 2, 1) := by decide +kernel
theorem dX12_shakeOf_3 : decode cX12_shakeOf 3 = .ok (.iload_n 3, 1) := by decide +kernel
theorem dX12_shakeOf_4 : decode cX12_shakeOf 4 = .ok (.invokevirtual 308, 3) := by decide +kernel
theorem dX12_shakeOf_7 : decode cX12_shakeOf 7 = .ok (.istore 5, 2) := by decide +kernel
theorem dX12_shakeOf_9 : decode cX12_shakeOf 9 = .ok (.aload_n 0, 1) := by decide +kernel
theorem dX12_shakeOf_10 : decode cX12_shakeOf 10 = .ok (.iload_n 1, 1) := by decide +kernel
theorem dX12_shakeOf_11 : decode cX12_shakeOf 11 = .ok (.iconst 3, 1) := by decide +kernel
theorem dX12_shakeOf_12 : decode cX12_shakeOf 12 = .ok (.invokevirtual 305, 3) := by decide +kernel
theorem dX12_shakeOf_15 : decode cX12_shakeOf 15 = .ok (.iload_n 2, 1) := by decide +kernel
theorem dX12_shakeOf_16 : decode cX12_shakeOf 16 = .ok (.invokestatic 299, 3) := by decide +kernel
theorem dX12_shakeOf_19 : decode cX12_shakeOf 19 = .ok (.istore 6, 2) := by decide +kernel
theorem dX12_shakeOf_21 : decode cX12_shakeOf 21 = .ok (.aload_n 0, 1) := by decide +kernel
theorem dX12_shakeOf_22 : decode cX12_shakeOf 22 = .ok (.getfield 42, 3) := by decide +kernel
theorem dX12_shakeOf_25 : decode cX12_shakeOf 25 = .ok (.ifCond .ge 35, 3) := by decide +kernel
theorem dX12_shakeOf_28 : decode cX12_shakeOf 28 = .ok (.iload 5, 2) := by decide +kernel
theorem dX12_shakeOf_30 : decode cX12_shakeOf 30 = .ok (.ifCond .le 7, 3) := by decide +kernel
theorem dX12_shakeOf_33 : decode cX12_shakeOf 33 = .ok (.iconst 0, 1) := by decide +kernel
theorem dX12_shakeOf_34 : decode cX12_shakeOf 34 = .ok (.goto 25, 3) := by decide +kernel
theorem dX12_shakeOf_37 : decode cX12_shakeOf 37 = .ok (.aload_n 0, 1) := by decide +kernel
theorem dX12_shakeOf_38 : decode cX12_shakeOf 38 = .ok (.iload_n 1, 1) := by decide +kernel
theorem dX12_shakeOf_39 : decode cX12_shakeOf 39 = .ok (.invokevirtual 312, 3) := by decide +kernel
theorem dX12_shakeOf_42 : decode cX12_shakeOf 42 = .ok (.aload_n 0, 1) := by decide +kernel
theorem dX12_shakeOf_43 : decode cX12_shakeOf 43 = .ok (.iload_n 2, 1) := by decide +kernel
theorem dX12_shakeOf_44 : decode cX12_shakeOf 44 = .ok (.invokevirtual 312, 3) := by decide +kernel
theorem dX12_shakeOf_47 : decode cX12_shakeOf 47 = .ok (.iadd, 1) := by decide +kernel
theorem dX12_shakeOf_48 : decode cX12_shakeOf 48 = .ok (.iload 6, 2) := by decide +kernel
theorem dX12_shakeOf_50 : decode cX12_shakeOf 50 = .ok (.ifCond .eq 7, 3) := by decide +kernel
theorem dX12_shakeOf_53 : decode cX12_shakeOf 53 = .ok (.iconst 2, 1) := by decide +kernel
theorem dX12_shakeOf_54 : decode cX12_shakeOf 54 = .ok (.goto 4, 3) := by decide +kernel
theorem dX12_shakeOf_57 : decode cX12_shakeOf 57 = .ok (.iconst 1, 1) := by decide +kernel
theorem dX12_shakeOf_58 : decode cX12_shakeOf 58 = .ok (.imul, 1) := by decide +kernel
theorem dX12_shakeOf_59 : decode cX12_shakeOf 59 = .ok (.ireturn, 1) := by decide +kernel
theorem dX12_shakeOf_60 : decode cX12_shakeOf 60 = .ok (.aload_n 0, 1) := by decide +kernel
theorem dX12_shakeOf_61 : decode cX12_shakeOf 61 = .ok (.getfield 36, 3) := by decide +kernel
theorem dX12_shakeOf_64 : decode cX12_shakeOf 64 = .ok (.iconst 0, 1) := by decide +kernel
theorem dX12_shakeOf_65 : decode cX12_shakeOf 65 = .ok (.iload_n 1, 1) := by decide +kernel
theorem dX12_shakeOf_66 : decode cX12_shakeOf 66 = .ok (.i2l, 1) := by decide +kernel
theorem dX12_shakeOf_67 : decode cX12_shakeOf 67 = .ok (.lastore, 1) := by decide +kernel
theorem dX12_shakeOf_68 : decode cX12_shakeOf 68 = .ok (.aload_n 0, 1) := by decide +kernel
theorem dX12_shakeOf_69 : decode cX12_shakeOf 69 = .ok (.getfield 36, 3) := by decide +kernel
theorem dX12_shakeOf_72 : decode cX12_shakeOf 72 = .ok (.iconst 1, 1) := by decide +kernel
theorem dX12_shakeOf_73 : decode cX12_shakeOf 73 = .ok (.iload_n 2, 1) := by decide +kernel
theorem dX12_shakeOf_74 : decode cX12_shakeOf 74 = .ok (.i2l, 1) := by decide +kernel
theorem dX12_shakeOf_75 : decode cX12_shakeOf 75 = .ok (.lastore, 1) := by decide +kernel
theorem dX12_shakeOf_76 : decode cX12_shakeOf 76 = .ok (.aload_n 0, 1) := by decide +kernel
theorem dX12_shakeOf_77 : decode cX12_shakeOf 77 = .ok (.getfield 36, 3) := by decide +kernel
theorem dX12_shakeOf_80 : decode cX12_shakeOf 80 = .ok (.iconst 2, 1) := by decide +kernel
theorem dX12_shakeOf_81 : decode cX12_shakeOf 81 = .ok (.aload_n 0, 1) := by decide +kernel
theorem dX12_shakeOf_82 : decode cX12_shakeOf 82 = .ok (.iload_n 1, 1) := by decide +kernel
theorem dX12_shakeOf_83 : decode cX12_shakeOf 83 = .ok (.iload_n 3, 1) := by decide +kernel
theorem dX12_shakeOf_84 : decode cX12_shakeOf 84 = .ok (.invokevirtual 291, 3) := by decide +kernel
theorem dX12_shakeOf_87 : decode cX12_shakeOf 87 = .ok (.i2l, 1) := by decide +kernel
theorem dX12_shakeOf_88 : decode cX12_shakeOf 88 = .ok (.lastore, 1) := by decide +kernel
theorem dX12_shakeOf_89 : decode cX12_shakeOf 89 = .ok (.aload_n 0, 1) := by decide +kernel
theorem dX12_shakeOf_90 : decode cX12_shakeOf 90 = .ok (.getfield 36, 3) := by decide +kernel
theorem dX12_shakeOf_93 : decode cX12_shakeOf 93 = .ok (.iconst 3, 1) := by decide +kernel
theorem dX12_shakeOf_94 : decode cX12_shakeOf 94 = .ok (.iload_n 3, 1) := by decide +kernel
theorem dX12_shakeOf_95 : decode cX12_shakeOf 95 = .ok (.i2l, 1) := by decide +kernel
theorem dX12_shakeOf_96 : decode cX12_shakeOf 96 = .ok (.lastore, 1) := by decide +kernel
theorem dX12_shakeOf_97 : decode cX12_shakeOf 97 = .ok (.aload_n 0, 1) := by decide +kernel
theorem dX12_shakeOf_98 : decode cX12_shakeOf 98 = .ok (.getfield 36, 3) := by decide +kernel
theorem dX12_shakeOf_101 : decode cX12_shakeOf 101 = .ok (.iconst 4, 1) := by decide +kernel
theorem dX12_shakeOf_102 : decode cX12_shakeOf 102 = .ok (.aload_n 0, 1) := by decide +kernel
theorem dX12_shakeOf_103 : decode cX12_shakeOf 103 = .ok (.getfield 39, 3) := by decide +kernel
theorem dX12_shakeOf_106 : decode cX12_shakeOf 106 = .ok (.iconst 3, 1) := by decide +kernel
theorem dX12_shakeOf_107 : decode cX12_shakeOf 107 = .ok (.iaload, 1) := by decide +kernel
theorem dX12_shakeOf_108 : decode cX12_shakeOf 108 = .ok (.i2l, 1) := by decide +kernel
theorem dX12_shakeOf_109 : decode cX12_shakeOf 109 = .ok (.lastore, 1) := by decide +kernel
theorem dX12_shakeOf_110 : decode cX12_shakeOf 110 = .ok (.aload_n 0, 1) := by decide +kernel
theorem dX12_shakeOf_111 : decode cX12_shakeOf 111 = .ok (.getfield 36, 3) := by decide +kernel
theorem dX12_shakeOf_114 : decode cX12_shakeOf 114 = .ok (.iconst 5, 1) := by decide +kernel
theorem dX12_shakeOf_115 : decode cX12_shakeOf 115 = .ok (.iload 5, 2) := by decide +kernel
theorem dX12_shakeOf_117 : decode cX12_shakeOf 117 = .ok (.i2l, 1) := by decide +kernel
theorem dX12_shakeOf_118 : decode cX12_shakeOf 118 = .ok (.lastore, 1) := by decide +kernel
theorem dX12_shakeOf_119 : decode cX12_shakeOf 119 = .ok (.aload_n 0, 1) := by decide +kernel
theorem dX12_shakeOf_120 : decode cX12_shakeOf 120 = .ok (.getfield 36, 3) := by decide +kernel
theorem dX12_shakeOf_123 : decode cX12_shakeOf 123 = .ok (.bipush 6, 2) := by decide +kernel
theorem dX12_shakeOf_125 : decode cX12_shakeOf 125 = .ok (.iload 6, 2) := by decide +kernel
theorem dX12_shakeOf_127 : decode cX12_shakeOf 127 = .ok (.ifCond .eq 7, 3) := by decide +kernel
theorem dX12_shakeOf_130 : decode cX12_shakeOf 130 = .ok (.lconst 1, 1) := by decide +kernel
theorem dX12_shakeOf_131 : decode cX12_shakeOf 131 = .ok (.goto 4, 3) := by decide +kernel
theorem dX12_shakeOf_134 : decode cX12_shakeOf 134 = .ok (.lconst 0, 1) := by decide +kernel
theorem dX12_shakeOf_135 : decode cX12_shakeOf 135 = .ok (.lastore, 1) := by decide +kernel
theorem dX12_shakeOf_136 : decode cX12_shakeOf 136 = .ok (.iconst 0, 1) := by decide +kernel
theorem dX12_shakeOf_137 : decode cX12_shakeOf 137 = .ok (.istore 7, 2) := by decide +kernel
theorem dX12_shakeOf_139 : decode cX12_shakeOf 139 = .ok (.iload 7, 2) := by decide +kernel
theorem dX12_shakeOf_141 : decode cX12_shakeOf 141 = .ok (.iconst 3, 1) := by decide +kernel
theorem dX12_shakeOf_142 : decode cX12_shakeOf 142 = .ok (.if_icmp .ge 35, 3) := by decide +kernel
theorem dX12_shakeOf_145 : decode cX12_shakeOf 145 = .ok (.aload_n 0, 1) := by decide +kernel
theorem dX12_shakeOf_146 : decode cX12_shakeOf 146 = .ok (.getfield 36, 3) := by decide +kernel
theorem dX12_shakeOf_149 : decode cX12_shakeOf 149 = .ok (.bipush 7, 2) := by decide +kernel
theorem dX12_shakeOf_151 : decode cX12_shakeOf 151 = .ok (.iload 7, 2) := by decide +kernel
theorem dX12_shakeOf_153 : decode cX12_shakeOf 153 = .ok (.iadd, 1) := by decide +kernel
theorem dX12_shakeOf_154 : decode cX12_shakeOf 154 = .ok (.aload_n 0, 1) := by decide +kernel
theorem dX12_shakeOf_155 : decode cX12_shakeOf 155 = .ok (.iload_n 1, 1) := by decide +kernel
theorem dX12_shakeOf_156 : decode cX12_shakeOf 156 = .ok (.iload 7, 2) := by decide +kernel
theorem dX12_shakeOf_158 : decode cX12_shakeOf 158 = .ok (.invokevirtual 305, 3) := by decide +kernel
theorem dX12_shakeOf_161 : decode cX12_shakeOf 161 = .ok (.aload_n 0, 1) := by decide +kernel
theorem dX12_shakeOf_162 : decode cX12_shakeOf 162 = .ok (.iload_n 2, 1) := by decide +kernel
theorem dX12_shakeOf_163 : decode cX12_shakeOf 163 = .ok (.iload 7, 2) := by decide +kernel
theorem dX12_shakeOf_165 : decode cX12_shakeOf 165 = .ok (.invokevirtual 305, 3) := by decide +kernel
theorem dX12_shakeOf_168 : decode cX12_shakeOf 168 = .ok (.iadd, 1) := by decide +kernel
theorem dX12_shakeOf_169 : decode cX12_shakeOf 169 = .ok (.i2l, 1) := by decide +kernel
theorem dX12_shakeOf_170 : decode cX12_shakeOf 170 = .ok (.lastore, 1) := by decide +kernel
theorem dX12_shakeOf_171 : decode cX12_shakeOf 171 = .ok (.iinc 7 1, 3) := by decide +kernel
theorem dX12_shakeOf_174 : decode cX12_shakeOf 174 = .ok (.goto (-35), 3) := by decide +kernel
theorem dX12_shakeOf_177 : decode cX12_shakeOf 177 = .ok (.aload_n 0, 1) := by decide +kernel
theorem dX12_shakeOf_178 : decode cX12_shakeOf 178 = .ok (.getfield 36, 3) := by decide +kernel
theorem dX12_shakeOf_181 : decode cX12_shakeOf 181 = .ok (.bipush 10, 2) := by decide +kernel
theorem dX12_shakeOf_183 : decode cX12_shakeOf 183 = .ok (.iload 4, 2) := by decide +kernel
theorem dX12_shakeOf_185 : decode cX12_shakeOf 185 = .ok (.i2l, 1) := by decide +kernel
theorem dX12_shakeOf_186 : decode cX12_shakeOf 186 = .ok (.lastore, 1) := by decide +kernel
theorem dX12_shakeOf_187 : decode cX12_shakeOf 187 = .ok (.iconst 0, 1) := by decide +kernel
theorem dX12_shakeOf_188 : decode cX12_shakeOf 188 = .ok (.istore 7, 2) := by decide +kernel
theorem dX12_shakeOf_190 : decode cX12_shakeOf 190 = .ok (.iload 7, 2) := by decide +kernel
theorem dX12_shakeOf_192 : decode cX12_shakeOf 192 = .ok (.aload_n 0, 1) := by decide +kernel
theorem dX12_shakeOf_193 : decode cX12_shakeOf 193 = .ok (.getfield 23, 3) := by decide +kernel
theorem dX12_shakeOf_196 : decode cX12_shakeOf 196 = .ok (.aload_n 0, 1) := by decide +kernel
theorem dX12_shakeOf_197 : decode cX12_shakeOf 197 = .ok (.getfield 42, 3) := by decide +kernel
theorem dX12_shakeOf_200 : decode cX12_shakeOf 200 = .ok (.iaload, 1) := by decide +kernel
theorem dX12_shakeOf_201 : decode cX12_shakeOf 201 = .ok (.if_icmp .ge 129, 3) := by decide +kernel
theorem dX12_shakeOf_204 : decode cX12_shakeOf 204 = .ok (.bipush 48, 2) := by decide +kernel
theorem dX12_shakeOf_206 : decode cX12_shakeOf 206 = .ok (.aload_n 0, 1) := by decide +kernel
theorem dX12_shakeOf_207 : decode cX12_shakeOf 207 = .ok (.getfield 42, 3) := by decide +kernel
theorem dX12_shakeOf_210 : decode cX12_shakeOf 210 = .ok (.imul, 1) := by decide +kernel
theorem dX12_shakeOf_211 : decode cX12_shakeOf 211 = .ok (.iconst 4, 1) := by decide +kernel
theorem dX12_shakeOf_212 : decode cX12_shakeOf 212 = .ok (.iload 7, 2) := by decide +kernel
theorem dX12_shakeOf_214 : decode cX12_shakeOf 214 = .ok (.imul, 1) := by decide +kernel
theorem dX12_shakeOf_215 : decode cX12_shakeOf 215 = .ok (.iadd, 1) := by decide +kernel
theorem dX12_shakeOf_216 : decode cX12_shakeOf 216 = .ok (.istore 8, 2) := by decide +kernel
theorem dX12_shakeOf_218 : decode cX12_shakeOf 218 = .ok (.aload_n 0, 1) := by decide +kernel
theorem dX12_shakeOf_219 : decode cX12_shakeOf 219 = .ok (.getfield 20, 3) := by decide +kernel
theorem dX12_shakeOf_222 : decode cX12_shakeOf 222 = .ok (.iload 8, 2) := by decide +kernel
theorem dX12_shakeOf_224 : decode cX12_shakeOf 224 = .ok (.iconst 2, 1) := by decide +kernel
theorem dX12_shakeOf_225 : decode cX12_shakeOf 225 = .ok (.iadd, 1) := by decide +kernel
theorem dX12_shakeOf_226 : decode cX12_shakeOf 226 = .ok (.iaload, 1) := by decide +kernel
theorem dX12_shakeOf_227 : decode cX12_shakeOf 227 = .ok (.ifCond .lt 37, 3) := by decide +kernel
theorem dX12_shakeOf_230 : decode cX12_shakeOf 230 = .ok (.aload_n 0, 1) := by decide +kernel
theorem dX12_shakeOf_231 : decode cX12_shakeOf 231 = .ok (.aload_n 0, 1) := by decide +kernel
theorem dX12_shakeOf_232 : decode cX12_shakeOf 232 = .ok (.getfield 42, 3) := by decide +kernel
theorem dX12_shakeOf_235 : decode cX12_shakeOf 235 = .ok (.aload_n 0, 1) := by decide +kernel
theorem dX12_shakeOf_236 : decode cX12_shakeOf 236 = .ok (.getfield 20, 3) := by decide +kernel
theorem dX12_shakeOf_239 : decode cX12_shakeOf 239 = .ok (.iload 8, 2) := by decide +kernel
theorem dX12_shakeOf_241 : decode cX12_shakeOf 241 = .ok (.iconst 2, 1) := by decide +kernel
theorem dX12_shakeOf_242 : decode cX12_shakeOf 242 = .ok (.iadd, 1) := by decide +kernel
theorem dX12_shakeOf_243 : decode cX12_shakeOf 243 = .ok (.iaload, 1) := by decide +kernel
theorem dX12_shakeOf_244 : decode cX12_shakeOf 244 = .ok (.aload_n 0, 1) := by decide +kernel
theorem dX12_shakeOf_245 : decode cX12_shakeOf 245 = .ok (.getfield 20, 3) := by decide +kernel
theorem dX12_shakeOf_248 : decode cX12_shakeOf 248 = .ok (.iload 8, 2) := by decide +kernel
theorem dX12_shakeOf_250 : decode cX12_shakeOf 250 = .ok (.iconst 3, 1) := by decide +kernel
theorem dX12_shakeOf_251 : decode cX12_shakeOf 251 = .ok (.iadd, 1) := by decide +kernel
theorem dX12_shakeOf_252 : decode cX12_shakeOf 252 = .ok (.iaload, 1) := by decide +kernel
theorem dX12_shakeOf_253 : decode cX12_shakeOf 253 = .ok (.invokevirtual 315, 3) := by decide +kernel
theorem dX12_shakeOf_256 : decode cX12_shakeOf 256 = .ok (.lconst 1, 1) := by decide +kernel
theorem dX12_shakeOf_257 : decode cX12_shakeOf 257 = .ok (.lcmp, 1) := by decide +kernel
theorem dX12_shakeOf_258 : decode cX12_shakeOf 258 = .ok (.ifCond .eq 6, 3) := by decide +kernel
theorem dX12_shakeOf_261 : decode cX12_shakeOf 261 = .ok (.goto 63, 3) := by decide +kernel
theorem dX12_shakeOf_264 : decode cX12_shakeOf 264 = .ok (.aload_n 0, 1) := by decide +kernel
theorem dX12_shakeOf_265 : decode cX12_shakeOf 265 = .ok (.aload_n 0, 1) := by decide +kernel
theorem dX12_shakeOf_266 : decode cX12_shakeOf 266 = .ok (.getfield 42, 3) := by decide +kernel
theorem dX12_shakeOf_269 : decode cX12_shakeOf 269 = .ok (.aload_n 0, 1) := by decide +kernel
theorem dX12_shakeOf_270 : decode cX12_shakeOf 270 = .ok (.getfield 20, 3) := by decide +kernel
theorem dX12_shakeOf_273 : decode cX12_shakeOf 273 = .ok (.iload 8, 2) := by decide +kernel
theorem dX12_shakeOf_275 : decode cX12_shakeOf 275 = .ok (.iaload, 1) := by decide +kernel
theorem dX12_shakeOf_276 : decode cX12_shakeOf 276 = .ok (.aload_n 0, 1) := by decide +kernel
theorem dX12_shakeOf_277 : decode cX12_shakeOf 277 = .ok (.getfield 20, 3) := by decide +kernel
theorem dX12_shakeOf_280 : decode cX12_shakeOf 280 = .ok (.iload 8, 2) := by decide +kernel
theorem dX12_shakeOf_282 : decode cX12_shakeOf 282 = .ok (.iconst 1, 1) := by decide +kernel
theorem dX12_shakeOf_283 : decode cX12_shakeOf 283 = .ok (.iadd, 1) := by decide +kernel
theorem dX12_shakeOf_284 : decode cX12_shakeOf 284 = .ok (.iaload, 1) := by decide +kernel
theorem dX12_shakeOf_285 : decode cX12_shakeOf 285 = .ok (.invokevirtual 315, 3) := by decide +kernel
theorem dX12_shakeOf_288 : decode cX12_shakeOf 288 = .ok (.lstore 9, 2) := by decide +kernel
theorem dX12_shakeOf_290 : decode cX12_shakeOf 290 = .ok (.lload 9, 2) := by decide +kernel
theorem dX12_shakeOf_292 : decode cX12_shakeOf 292 = .ok (.ldc2_w 319, 3) := by decide +kernel
theorem dX12_shakeOf_295 : decode cX12_shakeOf 295 = .ok (.lcmp, 1) := by decide +kernel
theorem dX12_shakeOf_296 : decode cX12_shakeOf 296 = .ok (.ifCond .ge 9, 3) := by decide +kernel
theorem dX12_shakeOf_299 : decode cX12_shakeOf 299 = .ok (.sipush (-999), 3) := by decide +kernel
theorem dX12_shakeOf_302 : decode cX12_shakeOf 302 = .ok (.goto 21, 3) := by decide +kernel
theorem dX12_shakeOf_305 : decode cX12_shakeOf 305 = .ok (.lload 9, 2) := by decide +kernel
theorem dX12_shakeOf_307 : decode cX12_shakeOf 307 = .ok (.ldc2_w 321, 3) := by decide +kernel
theorem dX12_shakeOf_310 : decode cX12_shakeOf 310 = .ok (.lcmp, 1) := by decide +kernel
theorem dX12_shakeOf_311 : decode cX12_shakeOf 311 = .ok (.ifCond .le 9, 3) := by decide +kernel
theorem dX12_shakeOf_314 : decode cX12_shakeOf 314 = .ok (.sipush 999, 3) := by decide +kernel
theorem dX12_shakeOf_317 : decode cX12_shakeOf 317 = .ok (.goto 6, 3) := by decide +kernel
theorem dX12_shakeOf_320 : decode cX12_shakeOf 320 = .ok (.lload 9, 2) := by decide +kernel
theorem dX12_shakeOf_322 : decode cX12_shakeOf 322 = .ok (.l2i, 1) := by decide +kernel
theorem dX12_shakeOf_323 : decode cX12_shakeOf 323 = .ok (.ireturn, 1) := by decide +kernel
theorem dX12_shakeOf_324 : decode cX12_shakeOf 324 = .ok (.iinc 7 1, 3) := by decide +kernel
theorem dX12_shakeOf_327 : decode cX12_shakeOf 327 = .ok (.goto (-137), 3) := by decide +kernel
theorem dX12_shakeOf_330 : decode cX12_shakeOf 330 = .ok (.iconst 0, 1) := by decide +kernel
theorem dX12_shakeOf_331 : decode cX12_shakeOf 331 = .ok (.ireturn, 1) := by decide +kernel
set_option maxRecDepth 20000 in
theorem ggX12_sumOf_X12_crowdOf : GoodIn wsX12_sumOf wsX12_crowdOf := goodIn_r _ [6, 1, 7, 8, 5, 9, 10, 11, 12, 13, 61, 62, 63, 64, 65, 66, 67, 68, 69, 70, 71, 72, 73, 74, 75, 76, 77, 78, 79, 80, 81, 82, 83, 84, 85, 86, 87, 88, 89, 90, 91, 92, 93, 94, 95, 96, 97, 98, 99, 100, 101, 102, 103, 104] (by decide +kernel) (by decide +kernel)
set_option maxRecDepth 20000 in
theorem gX12_sumOf_X12_crowdOf : GoodIn wsX12_sumOf (wsV RX12 323 RX12 yX12_crowdOf wsX12_crowdOf) := goodIn_app (goodIn_of _ (by decide +kernel)) ggX12_sumOf_X12_crowdOf
set_option maxRecDepth 20000 in
theorem ggX12_sumOf_X12_bits : GoodIn wsX12_sumOf wsX12_bits := goodIn_r _ [16] (by decide +kernel) (by decide +kernel)
set_option maxRecDepth 20000 in
theorem gX12_sumOf_X12_bits : GoodIn wsX12_sumOf (va_wsS RX12 326 yX12_bits wsX12_bits) := goodIn_app (goodIn_of _ (by decide +kernel)) ggX12_sumOf_X12_bits
set_option maxRecDepth 20000 in
theorem ggX12_sumOf_X12_isOf : GoodIn wsX12_sumOf wsX12_isOf := goodIn_r _ [9] (by decide +kernel) (by decide +kernel)
set_option maxRecDepth 20000 in
theorem gX12_sumOf_X12_isOf : GoodIn wsX12_sumOf (va_wsS RX12 299 yX12_isOf wsX12_isOf) := goodIn_app (goodIn_of _ (by decide +kernel)) ggX12_sumOf_X12_isOf
set_option maxRecDepth 20000 in
theorem ggX12_sumOf_X12_shakeOf : GoodIn wsX12_sumOf wsX12_shakeOf := goodIn_r _ [20, 21, 22, 1, 23, 24, 25, 26, 27, 28, 29, 5, 30, 31, 32, 33, 34, 10, 11, 12, 13, 35, 36, 37, 38, 7, 8, 9, 39, 40, 41, 42, 43, 44, 45, 46, 47, 48, 49, 50, 51, 52, 53, 54, 55, 56, 57, 58, 59, 60, 61, 62, 63, 64, 65, 66, 67, 68, 69, 70, 71, 72, 73, 74, 75, 76, 77, 78, 79, 80, 81, 82, 83, 84, 85, 86, 87, 88, 89, 90, 91, 92, 93, 94, 95, 96, 97, 98, 99, 100, 101, 102, 103, 104] (by decide +kernel) (by decide +kernel)
set_option maxRecDepth 20000 in
theorem gX12_sumOf_X12_shakeOf : GoodIn wsX12_sumOf (wsV RX12 329 RX12 yX12_shakeOf wsX12_shakeOf) := goodIn_app (goodIn_of _ (by decide +kernel)) ggX12_sumOf_X12_shakeOf
theorem dX12_sumOf_0 : decode cX12_sumOf 0 = .ok (.aload_n 0, 1) := by decide +kernel
theorem dX12_sumOf_1 : decode cX12_sumOf 1 = .ok (.iload_n 1, 1) := by decide +kernel
theorem dX12_sumOf_2 : decode cX12_sumOf 2 = .ok (.iload_n 2, 1) := by decide +kernel
theorem dX12_sumOf_3 : decode cX12_sumOf 3 = .ok (.iload_n 3, 1) := by decide +kernel
theorem dX12_sumOf_4 : decode cX12_sumOf 4 = .ok (.invokevirtual 323, 3) := by decide +kernel
theorem dX12_sumOf_7 : decode cX12_sumOf 7 = .ok (.istore 4, 2) := by decide +kernel
theorem dX12_sumOf_9 : decode cX12_sumOf 9 = .ok (.iload 4, 2) := by decide +kernel
theorem dX12_sumOf_11 : decode cX12_sumOf 11 = .ok (.invokestatic 326, 3) := by decide +kernel
theorem dX12_sumOf_14 : decode cX12_sumOf 14 = .ok (.istore 5, 2) := by decide +kernel
theorem dX12_sumOf_16 : decode cX12_sumOf 16 = .ok (.iconst 0, 1) := by decide +kernel
theorem dX12_sumOf_17 : decode cX12_sumOf 17 = .ok (.istore 6, 2) := by decide +kernel
theorem dX12_sumOf_19 : decode cX12_sumOf 19 = .ok (.iconst 0, 1) := by decide +kernel
theorem dX12_sumOf_20 : decode cX12_sumOf 20 = .ok (.istore 7, 2) := by decide +kernel
theorem dX12_sumOf_22 : decode cX12_sumOf 22 = .ok (.iload 7, 2) := by decide +kernel
theorem dX12_sumOf_24 : decode cX12_sumOf 24 = .ok (.aload_n 0, 1) := by decide +kernel
theorem dX12_sumOf_25 : decode cX12_sumOf 25 = .ok (.getfield 39, 3) := by decide +kernel
theorem dX12_sumOf_28 : decode cX12_sumOf 28 = .ok (.iconst 2, 1) := by decide +kernel
theorem dX12_sumOf_29 : decode cX12_sumOf 29 = .ok (.iaload, 1) := by decide +kernel
theorem dX12_sumOf_30 : decode cX12_sumOf 30 = .ok (.if_icmp .ge 68, 3) := by decide +kernel
theorem dX12_sumOf_33 : decode cX12_sumOf 33 = .ok (.iload 7, 2) := by decide +kernel
theorem dX12_sumOf_35 : decode cX12_sumOf 35 = .ok (.iconst 1, 1) := by decide +kernel
theorem dX12_sumOf_36 : decode cX12_sumOf 36 = .ok (.iadd, 1) := by decide +kernel
theorem dX12_sumOf_37 : decode cX12_sumOf 37 = .ok (.istore 8, 2) := by decide +kernel
theorem dX12_sumOf_39 : decode cX12_sumOf 39 = .ok (.iload 8, 2) := by decide +kernel
theorem dX12_sumOf_41 : decode cX12_sumOf 41 = .ok (.aload_n 0, 1) := by decide +kernel
theorem dX12_sumOf_42 : decode cX12_sumOf 42 = .ok (.getfield 39, 3) := by decide +kernel
theorem dX12_sumOf_45 : decode cX12_sumOf 45 = .ok (.iconst 2, 1) := by decide +kernel
theorem dX12_sumOf_46 : decode cX12_sumOf 46 = .ok (.iaload, 1) := by decide +kernel
theorem dX12_sumOf_47 : decode cX12_sumOf 47 = .ok (.if_icmp .ge 45, 3) := by decide +kernel
theorem dX12_sumOf_50 : decode cX12_sumOf 50 = .ok (.iload 4, 2) := by decide +kernel
theorem dX12_sumOf_52 : decode cX12_sumOf 52 = .ok (.iload 7, 2) := by decide +kernel
theorem dX12_sumOf_54 : decode cX12_sumOf 54 = .ok (.invokestatic 299, 3) := by decide +kernel
theorem dX12_sumOf_57 : decode cX12_sumOf 57 = .ok (.ifCond .eq 29, 3) := by decide +kernel
theorem dX12_sumOf_60 : decode cX12_sumOf 60 = .ok (.iload 4, 2) := by decide +kernel
theorem dX12_sumOf_62 : decode cX12_sumOf 62 = .ok (.iload 8, 2) := by decide +kernel
theorem dX12_sumOf_64 : decode cX12_sumOf 64 = .ok (.invokestatic 299, 3) := by decide +kernel
theorem dX12_sumOf_67 : decode cX12_sumOf 67 = .ok (.ifCond .eq 19, 3) := by decide +kernel
theorem dX12_sumOf_70 : decode cX12_sumOf 70 = .ok (.iload 6, 2) := by decide +kernel
theorem dX12_sumOf_72 : decode cX12_sumOf 72 = .ok (.aload_n 0, 1) := by decide +kernel
theorem dX12_sumOf_73 : decode cX12_sumOf 73 = .ok (.iload 7, 2) := by decide +kernel
theorem dX12_sumOf_75 : decode cX12_sumOf 75 = .ok (.iload 8, 2) := by decide +kernel
theorem dX12_sumOf_77 : decode cX12_sumOf 77 = .ok (.iload_n 3, 1) := by decide +kernel
theorem dX12_sumOf_78 : decode cX12_sumOf 78 = .ok (.iload 5, 2) := by decide +kernel
theorem dX12_sumOf_80 : decode cX12_sumOf 80 = .ok (.invokevirtual 329, 3) := by decide +kernel
theorem dX12_sumOf_83 : decode cX12_sumOf 83 = .ok (.iadd, 1) := by decide +kernel
theorem dX12_sumOf_84 : decode cX12_sumOf 84 = .ok (.istore 6, 2) := by decide +kernel
theorem dX12_sumOf_86 : decode cX12_sumOf 86 = .ok (.iinc 8 1, 3) := by decide +kernel
theorem dX12_sumOf_89 : decode cX12_sumOf 89 = .ok (.goto (-50), 3) := by decide +kernel
theorem dX12_sumOf_92 : decode cX12_sumOf 92 = .ok (.iinc 7 1, 3) := by decide +kernel
theorem dX12_sumOf_95 : decode cX12_sumOf 95 = .ok (.goto (-73), 3) := by decide +kernel
theorem dX12_sumOf_98 : decode cX12_sumOf 98 = .ok (.iload 6, 2) := by decide +kernel
theorem dX12_sumOf_100 : decode cX12_sumOf 100 = .ok (.ireturn, 1) := by decide +kernel
set_option maxRecDepth 20000 in
theorem ggX12_totalOf_X12_everybody : GoodIn wsX12_totalOf wsX12_everybody := goodIn_r _ [6, 1, 69, 70, 71, 72, 73, 74, 75, 76, 77, 78, 79, 80, 81, 82, 83, 84, 85, 86, 87, 88, 89, 90, 91, 92, 93, 94, 95, 96, 97, 98, 99, 100, 101, 102, 103, 104, 105, 106, 107, 108, 109, 110, 111, 112] (by decide +kernel) (by decide +kernel)
set_option maxRecDepth 20000 in
theorem gX12_totalOf_X12_everybody : GoodIn wsX12_totalOf (wsV RX12 333 RX12 yX12_everybody wsX12_everybody) := goodIn_app (goodIn_of _ (by decide +kernel)) ggX12_totalOf_X12_everybody
set_option maxRecDepth 20000 in
theorem ggX12_totalOf_X12_sumOf : GoodIn wsX12_totalOf wsX12_sumOf := goodIn_r _ [10, 1, 11, 12, 13, 5, 14, 15, 16, 17, 18, 19, 20, 21, 22, 23, 24, 25, 26, 27, 28, 29, 30, 31, 32, 33, 34, 35, 36, 37, 38, 39, 40, 41, 42, 43, 44, 45, 46, 47, 48, 49, 50, 51, 52, 53, 54, 55, 56, 57, 58, 59, 60, 61, 62, 63, 64, 65, 66, 67, 68, 69, 70, 71, 72, 73, 74, 75, 76, 77, 78, 79, 80, 81, 82, 83, 84, 85, 86, 87, 88, 89, 90, 91, 92, 93, 94, 95, 96, 97, 98, 99, 100, 101, 102, 103, 104, 105, 106, 107, 108, 109, 110, 111, 112] (by decide +kernel) (by decide +kernel)
set_option maxRecDepth 20000 in
theorem gX12_totalOf_X12_sumOf : GoodIn wsX12_totalOf (wsV RX12 336 RX12 yX12_sumOf wsX12_sumOf) := goodIn_app (goodIn_of _ (by decide +kernel)) ggX12_totalOf_X12_sumOf
theorem dX12_totalOf_0 : decode cX12_totalOf 0 = .ok (.iconst 0, 1) := by decide +kernel
theorem dX12_totalOf_1 : decode cX12_totalOf 1 = .ok (.istore_n 1, 1) := by decide +kernel
theorem dX12_totalOf_2 : decode cX12_totalOf 2 = .ok (.iconst 0, 1) := by decide +kernel
theorem dX12_totalOf_3 : decode cX12_totalOf 3 = .ok (.istore_n 2, 1) := by decide +kernel
theorem dX12_totalOf_4 : decode cX12_totalOf 4 = .ok (.iload_n 2, 1) := by decide +kernel
theorem dX12_totalOf_5 : decode cX12_totalOf 5 = .ok (.aload_n 0, 1) := by decide +kernel
theorem dX12_totalOf_6 : decode cX12_totalOf 6 = .ok (.getfield 39, 3) := by decide +kernel
theorem dX12_totalOf_9 : decode cX12_totalOf 9 = .ok (.iconst 1, 1) := by decide +kernel
theorem dX12_totalOf_10 : decode cX12_totalOf 10 = .ok (.iaload, 1) := by decide +kernel
theorem dX12_totalOf_11 : decode cX12_totalOf 11 = .ok (.if_icmp .ge 40, 3) := by decide +kernel
theorem dX12_totalOf_14 : decode cX12_totalOf 14 = .ok (.iconst 0, 1) := by decide +kernel
theorem dX12_totalOf_15 : decode cX12_totalOf 15 = .ok (.istore_n 3, 1) := by decide +kernel
theorem dX12_totalOf_16 : decode cX12_totalOf 16 = .ok (.iload_n 3, 1) := by decide +kernel
theorem dX12_totalOf_17 : decode cX12_totalOf 17 = .ok (.aload_n 0, 1) := by decide +kernel
theorem dX12_totalOf_18 : decode cX12_totalOf 18 = .ok (.getfield 39, 3) := by decide +kernel
theorem dX12_totalOf_21 : decode cX12_totalOf 21 = .ok (.iconst 0, 1) := by decide +kernel
theorem dX12_totalOf_22 : decode cX12_totalOf 22 = .ok (.iaload, 1) := by decide +kernel
theorem dX12_totalOf_23 : decode cX12_totalOf 23 = .ok (.if_icmp .ge 22, 3) := by decide +kernel
theorem dX12_totalOf_26 : decode cX12_totalOf 26 = .ok (.iload_n 1, 1) := by decide +kernel
theorem dX12_totalOf_27 : decode cX12_totalOf 27 = .ok (.aload_n 0, 1) := by decide +kernel
theorem dX12_totalOf_28 : decode cX12_totalOf 28 = .ok (.aload_n 0, 1) := by decide +kernel
theorem dX12_totalOf_29 : decode cX12_totalOf 29 = .ok (.invokevirtual 333, 3) := by decide +kernel
theorem dX12_totalOf_32 : decode cX12_totalOf 32 = .ok (.iload_n 3, 1) := by decide +kernel
theorem dX12_totalOf_33 : decode cX12_totalOf 33 = .ok (.iload_n 2, 1) := by decide +kernel
theorem dX12_totalOf_34 : decode cX12_totalOf 34 = .ok (.invokevirtual 336, 3) := by decide +kernel
theorem dX12_totalOf_37 : decode cX12_totalOf 37 = .ok (.iadd, 1) := by decide +kernel
theorem dX12_totalOf_38 : decode cX12_totalOf 38 = .ok (.istore_n 1, 1) := by decide +kernel
theorem dX12_totalOf_39 : decode cX12_totalOf 39 = .ok (.iinc 3 1, 3) := by decide +kernel
theorem dX12_totalOf_42 : decode cX12_totalOf 42 = .ok (.goto (-26), 3) := by decide +kernel
theorem dX12_totalOf_45 : decode cX12_totalOf 45 = .ok (.iinc 2 1, 3) := by decide +kernel
theorem dX12_totalOf_48 : decode cX12_totalOf 48 = .ok (.goto (-44), 3) := by decide +kernel
theorem dX12_totalOf_51 : decode cX12_totalOf 51 = .ok (.iload_n 1, 1) := by decide +kernel
theorem dX12_totalOf_52 : decode cX12_totalOf 52 = .ok (.ireturn, 1) := by decide +kernel
set_option maxRecDepth 20000 in
theorem ggX12_at_X12_isPerson : GoodIn wsX12_at wsX12_isPerson := goodIn_r _ [5, 6, 15, 16, 17, 18, 19, 20, 21, 22, 23, 24, 25, 26, 27, 28, 29, 30, 31, 32, 33, 34, 35, 36, 37, 38, 39, 40, 41, 42, 43, 44, 45, 46, 47, 48, 49, 50, 51, 52, 53, 54, 55, 56, 57, 58] (by decide +kernel) (by decide +kernel)
set_option maxRecDepth 20000 in
theorem gX12_at_X12_isPerson : GoodIn wsX12_at (wsV RX12 339 RX12 yX12_isPerson wsX12_isPerson) := goodIn_app (goodIn_of _ (by decide +kernel)) ggX12_at_X12_isPerson
set_option maxRecDepth 20000 in
theorem ggX12_at_X12_isHour : GoodIn wsX12_at wsX12_isHour := goodIn_r _ [10, 6, 15, 16, 17, 18, 19, 20, 21, 22, 23, 24, 25, 26, 27, 28, 29, 30, 31, 32, 33, 34, 35, 36, 37, 38, 39, 40, 41, 42, 43, 44, 45, 46, 47, 48, 49, 50, 51, 52, 53, 54, 55, 56, 57, 58] (by decide +kernel) (by decide +kernel)
set_option maxRecDepth 20000 in
theorem gX12_at_X12_isHour : GoodIn wsX12_at (wsV RX12 342 RX12 yX12_isHour wsX12_isHour) := goodIn_app (goodIn_of _ (by decide +kernel)) ggX12_at_X12_isHour
set_option maxRecDepth 20000 in
theorem ggX12_at_X12_placeOf : GoodIn wsX12_at wsX12_placeOf := goodIn_r _ [14, 6, 15, 16, 17, 18, 19, 20, 21, 22, 23, 24, 25, 26, 27, 28, 29, 30, 31, 32, 33, 34, 35, 36, 37, 38, 39, 40, 41, 42, 43, 44, 45, 46, 47, 48, 49, 50, 51, 52, 53, 54, 55, 56, 57, 58] (by decide +kernel) (by decide +kernel)
set_option maxRecDepth 20000 in
theorem gX12_at_X12_placeOf : GoodIn wsX12_at (wsV RX12 291 RX12 yX12_placeOf wsX12_placeOf) := goodIn_app (goodIn_of _ (by decide +kernel)) ggX12_at_X12_placeOf
theorem dX12_at_0 : decode cX12_at 0 = .ok (.aload_n 0, 1) := by decide +kernel
theorem dX12_at_1 : decode cX12_at 1 = .ok (.iload_n 1, 1) := by decide +kernel
theorem dX12_at_2 : decode cX12_at 2 = .ok (.invokevirtual 339, 3) := by decide +kernel
theorem dX12_at_5 : decode cX12_at 5 = .ok (.ifCond .eq 20, 3) := by decide +kernel
theorem dX12_at_8 : decode cX12_at 8 = .ok (.aload_n 0, 1) := by decide +kernel
theorem dX12_at_9 : decode cX12_at 9 = .ok (.iload_n 2, 1) := by decide +kernel
theorem dX12_at_10 : decode cX12_at 10 = .ok (.invokevirtual 342, 3) := by decide +kernel
theorem dX12_at_13 : decode cX12_at 13 = .ok (.ifCond .eq 12, 3) := by decide +kernel
theorem dX12_at_16 : decode cX12_at 16 = .ok (.aload_n 0, 1) := by decide +kernel
theorem dX12_at_17 : decode cX12_at 17 = .ok (.iload_n 1, 1) := by decide +kernel
theorem dX12_at_18 : decode cX12_at 18 = .ok (.iload_n 2, 1) := by decide +kernel
theorem dX12_at_19 : decode cX12_at 19 = .ok (.invokevirtual 291, 3) := by decide +kernel
theorem dX12_at_22 : decode cX12_at 22 = .ok (.goto 4, 3) := by decide +kernel
theorem dX12_at_25 : decode cX12_at 25 = .ok (.iconst (-1), 1) := by decide +kernel
theorem dX12_at_26 : decode cX12_at 26 = .ok (.ireturn, 1) := by decide +kernel
set_option maxRecDepth 20000 in
theorem ggX12_meetsOf_X12_meet : GoodIn wsX12_meetsOf wsX12_meet := goodIn_r _ [6, 1, 7, 8, 9, 5, 10, 11, 12, 13, 14, 15, 16, 17, 18, 19, 20, 21, 22, 23, 24, 25, 26, 27, 28, 29, 30, 31, 32, 33, 34, 35, 36, 37, 38, 39, 40, 41, 42, 43, 44, 45, 46, 47, 48, 49, 50, 51, 52, 53, 54, 55, 56, 57, 58] (by decide +kernel) (by decide +kernel)
set_option maxRecDepth 20000 in
theorem gX12_meetsOf_X12_meet : GoodIn wsX12_meetsOf (wsV RX12 345 RX12 yX12_meet wsX12_meet) := goodIn_app (goodIn_of _ (by decide +kernel)) ggX12_meetsOf_X12_meet
theorem dX12_meetsOf_0 : decode cX12_meetsOf 0 = .ok (.iconst 0, 1) := by decide +kernel
theorem dX12_meetsOf_1 : decode cX12_meetsOf 1 = .ok (.istore_n 2, 1) := by decide +kernel
theorem dX12_meetsOf_2 : decode cX12_meetsOf 2 = .ok (.iconst 0, 1) := by decide +kernel
theorem dX12_meetsOf_3 : decode cX12_meetsOf 3 = .ok (.istore_n 3, 1) := by decide +kernel
theorem dX12_meetsOf_4 : decode cX12_meetsOf 4 = .ok (.iload_n 3, 1) := by decide +kernel
theorem dX12_meetsOf_5 : decode cX12_meetsOf 5 = .ok (.aload_n 0, 1) := by decide +kernel
theorem dX12_meetsOf_6 : decode cX12_meetsOf 6 = .ok (.getfield 39, 3) := by decide +kernel
theorem dX12_meetsOf_9 : decode cX12_meetsOf 9 = .ok (.iconst 2, 1) := by decide +kernel
theorem dX12_meetsOf_10 : decode cX12_meetsOf 10 = .ok (.iaload, 1) := by decide +kernel
theorem dX12_meetsOf_11 : decode cX12_meetsOf 11 = .ok (.if_icmp .ge 33, 3) := by decide +kernel
theorem dX12_meetsOf_14 : decode cX12_meetsOf 14 = .ok (.iload_n 2, 1) := by decide +kernel
theorem dX12_meetsOf_15 : decode cX12_meetsOf 15 = .ok (.iload_n 3, 1) := by decide +kernel
theorem dX12_meetsOf_16 : decode cX12_meetsOf 16 = .ok (.iload_n 1, 1) := by decide +kernel
theorem dX12_meetsOf_17 : decode cX12_meetsOf 17 = .ok (.if_icmp .eq 18, 3) := by decide +kernel
theorem dX12_meetsOf_20 : decode cX12_meetsOf 20 = .ok (.aload_n 0, 1) := by decide +kernel
theorem dX12_meetsOf_21 : decode cX12_meetsOf 21 = .ok (.iload_n 1, 1) := by decide +kernel
theorem dX12_meetsOf_22 : decode cX12_meetsOf 22 = .ok (.iload_n 3, 1) := by decide +kernel
theorem dX12_meetsOf_23 : decode cX12_meetsOf 23 = .ok (.invokevirtual 345, 3) := by decide +kernel
theorem dX12_meetsOf_26 : decode cX12_meetsOf 26 = .ok (.ifCond .eq 9, 3) := by decide +kernel
theorem dX12_meetsOf_29 : decode cX12_meetsOf 29 = .ok (.iconst 1, 1) := by decide +kernel
theorem dX12_meetsOf_30 : decode cX12_meetsOf 30 = .ok (.iload_n 3, 1) := by decide +kernel
theorem dX12_meetsOf_31 : decode cX12_meetsOf 31 = .ok (.ishl, 1) := by decide +kernel
theorem dX12_meetsOf_32 : decode cX12_meetsOf 32 = .ok (.goto 4, 3) := by decide +kernel
theorem dX12_meetsOf_35 : decode cX12_meetsOf 35 = .ok (.iconst 0, 1) := by decide +kernel
theorem dX12_meetsOf_36 : decode cX12_meetsOf 36 = .ok (.ior, 1) := by decide +kernel
theorem dX12_meetsOf_37 : decode cX12_meetsOf 37 = .ok (.istore_n 2, 1) := by decide +kernel
theorem dX12_meetsOf_38 : decode cX12_meetsOf 38 = .ok (.iinc 3 1, 3) := by decide +kernel
theorem dX12_meetsOf_41 : decode cX12_meetsOf 41 = .ok (.goto (-37), 3) := by decide +kernel
theorem dX12_meetsOf_44 : decode cX12_meetsOf 44 = .ok (.iload_n 2, 1) := by decide +kernel
theorem dX12_meetsOf_45 : decode cX12_meetsOf 45 = .ok (.ireturn, 1) := by decide +kernel
set_option maxRecDepth 20000 in
theorem ggX12_person_X12_isPerson : GoodIn wsX12_person wsX12_isPerson := goodIn_r _ [6, 7, 31, 32, 33, 34, 35, 36, 37, 38, 39, 40, 41, 42, 43, 44, 45, 46, 47, 48, 49, 50, 51, 52, 53, 54, 55, 56, 57, 58, 59, 60, 61, 62, 63, 64, 65, 66, 67, 68, 69, 70, 71, 72, 73, 74] (by decide +kernel) (by decide +kernel)
set_option maxRecDepth 20000 in
theorem gX12_person_X12_isPerson : GoodIn wsX12_person (wsV RX12 339 RX12 yX12_isPerson wsX12_isPerson) := goodIn_app (goodIn_of _ (by decide +kernel)) ggX12_person_X12_isPerson
