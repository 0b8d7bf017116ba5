theorem dX0_init_0 : decode cX0_init 0 = .ok (.aload_n 0, 1) := by decide +kernel
theorem dX0_init_1 : decode cX0_init 1 = .ok (.invokespecial 1, 3) := by decide +kernel
theorem dX0_init_4 : decode cX0_init 4 = .ok (.aload_n 0, 1) := by decide +kernel
theorem dX0_init_5 : decode cX0_init 5 = .ok (.iconst 0, 1) := by decide +kernel
theorem dX0_init_6 : decode cX0_init 6 = .ok (.putfield 7, 3) := by decide +kernel
theorem dX0_init_9 : decode cX0_init 9 = .ok (.aload_n 0, 1) := by decide +kernel
theorem dX0_init_10 : decode cX0_init 10 = .ok (.iconst 0, 1) := by decide +kernel
theorem dX0_init_11 : decode cX0_init 11 = .ok (.putfield 13, 3) := by decide +kernel
theorem dX0_init_14 : decode cX0_init 14 = .ok (.aload_n 0, 1) := by decide +kernel
theorem dX0_init_15 : decode cX0_init 15 = .ok (.iconst 0, 1) := by decide +kernel
theorem dX0_init_16 : decode cX0_init 16 = .ok (.putfield 17, 3) := by decide +kernel
theorem dX0_init_19 : decode cX0_init 19 = .ok (.aload_n 0, 1) := by decide +kernel
theorem dX0_init_20 : decode cX0_init 20 = .ok (.iconst 0, 1) := by decide +kernel
theorem dX0_init_21 : decode cX0_init 21 = .ok (.putfield 20, 3) := by decide +kernel
theorem dX0_init_24 : decode cX0_init 24 = .ok (.return_, 1) := by decide +kernel
theorem dX0_forget_0 : decode cX0_forget 0 = .ok (.aload_n 0, 1) := by decide +kernel
theorem dX0_forget_1 : decode cX0_forget 1 = .ok (.iconst 0, 1) := by decide +kernel
theorem dX0_forget_2 : decode cX0_forget 2 = .ok (.putfield 7, 3) := by decide +kernel
theorem dX0_forget_5 : decode cX0_forget 5 = .ok (.return_, 1) := by decide +kernel
theorem dX0_offer_0 : decode cX0_offer 0 = .ok (.aload_n 0, 1) := by decide +kernel
theorem dX0_offer_1 : decode cX0_offer 1 = .ok (.getfield 7, 3) := by decide +kernel
theorem dX0_offer_4 : decode cX0_offer 4 = .ok (.ifCond .eq 11, 3) := by decide +kernel
theorem dX0_offer_7 : decode cX0_offer 7 = .ok (.iload_n 1, 1) := by decide +kernel
theorem dX0_offer_8 : decode cX0_offer 8 = .ok (.aload_n 0, 1) := by decide +kernel
theorem dX0_offer_9 : decode cX0_offer 9 = .ok (.getfield 13, 3) := by decide +kernel
theorem dX0_offer_12 : decode cX0_offer 12 = .ok (.if_icmp .le 23, 3) := by decide +kernel
theorem dX0_offer_15 : decode cX0_offer 15 = .ok (.aload_n 0, 1) := by decide +kernel
theorem dX0_offer_16 : decode cX0_offer 16 = .ok (.iconst 1, 1) := by decide +kernel
theorem dX0_offer_17 : decode cX0_offer 17 = .ok (.putfield 7, 3) := by decide +kernel
theorem dX0_offer_20 : decode cX0_offer 20 = .ok (.aload_n 0, 1) := by decide +kernel
theorem dX0_offer_21 : decode cX0_offer 21 = .ok (.iload_n 1, 1) := by decide +kernel
theorem dX0_offer_22 : decode cX0_offer 22 = .ok (.putfield 13, 3) := by decide +kernel
theorem dX0_offer_25 : decode cX0_offer 25 = .ok (.aload_n 0, 1) := by decide +kernel
theorem dX0_offer_26 : decode cX0_offer 26 = .ok (.iload_n 2, 1) := by decide +kernel
theorem dX0_offer_27 : decode cX0_offer 27 = .ok (.putfield 17, 3) := by decide +kernel
theorem dX0_offer_30 : decode cX0_offer 30 = .ok (.aload_n 0, 1) := by decide +kernel
theorem dX0_offer_31 : decode cX0_offer 31 = .ok (.iload_n 3, 1) := by decide +kernel
theorem dX0_offer_32 : decode cX0_offer 32 = .ok (.putfield 20, 3) := by decide +kernel
theorem dX0_offer_35 : decode cX0_offer 35 = .ok (.return_, 1) := by decide +kernel
set_option maxRecDepth 20000 in
theorem ggX1_init_X8_init : GoodIn wsX1_init wsX8_init := goodIn_r _ [23, 24, 2, 3, 25, 26, 27, 28, 29, 30, 31, 32, 11, 33, 34, 35, 36, 37, 38, 39, 41, 42, 43, 44, 45, 46, 47, 48, 49, 50, 51] (by decide +kernel) (by decide +kernel)
set_option maxRecDepth 20000 in
theorem gX1_init_X8_init : GoodIn wsX1_init (wsX8_init) := ggX1_init_X8_init
set_option maxRecDepth 20000 in
theorem ggX1_init_J7_fill_53178 : GoodIn wsX1_init wsJ7_fill_53178 := goodIn_r _ [39] (by decide +kernel) (by decide +kernel)
set_option maxRecDepth 20000 in
theorem gX1_init_J7_fill_53178 : GoodIn wsX1_init (va_wsS RX1 56 yJ7_fill_53178 wsJ7_fill_53178) := goodIn_app (goodIn_of _ (by decide +kernel)) ggX1_init_J7_fill_53178
theorem dX1_init_0 : decode cX1_init 0 = .ok (.aload_n 0, 1) := by decide +kernel
theorem dX1_init_1 : decode cX1_init 1 = .ok (.invokespecial 3, 3) := by decide +kernel
theorem dX1_init_4 : decode cX1_init 4 = .ok (.aload_n 0, 1) := by decide +kernel
theorem dX1_init_5 : decode cX1_init 5 = .ok (.new 9, 3) := by decide +kernel
theorem dX1_init_8 : decode cX1_init 8 = .ok (.dup, 1) := by decide +kernel
theorem dX1_init_9 : decode cX1_init 9 = .ok (.invokespecial 11, 3) := by decide +kernel
theorem dX1_init_12 : decode cX1_init 12 = .ok (.putfield 12, 3) := by decide +kernel
theorem dX1_init_15 : decode cX1_init 15 = .ok (.aload_n 0, 1) := by decide +kernel
theorem dX1_init_16 : decode cX1_init 16 = .ok (.iconst (-1), 1) := by decide +kernel
theorem dX1_init_17 : decode cX1_init 17 = .ok (.putfield 18, 3) := by decide +kernel
theorem dX1_init_20 : decode cX1_init 20 = .ok (.aload_n 0, 1) := by decide +kernel
theorem dX1_init_21 : decode cX1_init 21 = .ok (.iconst 0, 1) := by decide +kernel
theorem dX1_init_22 : decode cX1_init 22 = .ok (.putfield 22, 3) := by decide +kernel
theorem dX1_init_25 : decode cX1_init 25 = .ok (.aload_n 0, 1) := by decide +kernel
theorem dX1_init_26 : decode cX1_init 26 = .ok (.iconst 0, 1) := by decide +kernel
theorem dX1_init_27 : decode cX1_init 27 = .ok (.putfield 25, 3) := by decide +kernel
theorem dX1_init_30 : decode cX1_init 30 = .ok (.aload_n 0, 1) := by decide +kernel
theorem dX1_init_31 : decode cX1_init 31 = .ok (.bipush 10, 2) := by decide +kernel
theorem dX1_init_33 : decode cX1_init 33 = .ok (.newarray .int, 2) := by decide +kernel
theorem dX1_init_35 : decode cX1_init 35 = .ok (.putfield 28, 3) := by decide +kernel
theorem dX1_init_38 : decode cX1_init 38 = .ok (.aload_n 0, 1) := by decide +kernel
theorem dX1_init_39 : decode cX1_init 39 = .ok (.bipush 10, 2) := by decide +kernel
theorem dX1_init_41 : decode cX1_init 41 = .ok (.newarray .int, 2) := by decide +kernel
theorem dX1_init_43 : decode cX1_init 43 = .ok (.putfield 32, 3) := by decide +kernel
theorem dX1_init_46 : decode cX1_init 46 = .ok (.aload_n 0, 1) := by decide +kernel
theorem dX1_init_47 : decode cX1_init 47 = .ok (.bipush 10, 2) := by decide +kernel
theorem dX1_init_49 : decode cX1_init 49 = .ok (.newarray .int, 2) := by decide +kernel
theorem dX1_init_51 : decode cX1_init 51 = .ok (.putfield 35, 3) := by decide +kernel
theorem dX1_init_54 : decode cX1_init 54 = .ok (.aload_n 0, 1) := by decide +kernel
theorem dX1_init_55 : decode cX1_init 55 = .ok (.bipush 10, 2) := by decide +kernel
theorem dX1_init_57 : decode cX1_init 57 = .ok (.newarray .int, 2) := by decide +kernel
theorem dX1_init_59 : decode cX1_init 59 = .ok (.putfield 38, 3) := by decide +kernel
theorem dX1_init_62 : decode cX1_init 62 = .ok (.aload_n 0, 1) := by decide +kernel
theorem dX1_init_63 : decode cX1_init 63 = .ok (.iconst 0, 1) := by decide +kernel
theorem dX1_init_64 : decode cX1_init 64 = .ok (.putfield 41, 3) := by decide +kernel
theorem dX1_init_67 : decode cX1_init 67 = .ok (.aload_n 0, 1) := by decide +kernel
theorem dX1_init_68 : decode cX1_init 68 = .ok (.bipush 20, 2) := by decide +kernel
theorem dX1_init_70 : decode cX1_init 70 = .ok (.newarray .int, 2) := by decide +kernel
theorem dX1_init_72 : decode cX1_init 72 = .ok (.putfield 44, 3) := by decide +kernel
theorem dX1_init_75 : decode cX1_init 75 = .ok (.aload_n 0, 1) := by decide +kernel
theorem dX1_init_76 : decode cX1_init 76 = .ok (.bipush 20, 2) := by decide +kernel
theorem dX1_init_78 : decode cX1_init 78 = .ok (.newarray .int, 2) := by decide +kernel
theorem dX1_init_80 : decode cX1_init 80 = .ok (.putfield 47, 3) := by decide +kernel
theorem dX1_init_83 : decode cX1_init 83 = .ok (.aload_n 0, 1) := by decide +kernel
theorem dX1_init_84 : decode cX1_init 84 = .ok (.bipush 20, 2) := by decide +kernel
theorem dX1_init_86 : decode cX1_init 86 = .ok (.newarray .int, 2) := by decide +kernel
theorem dX1_init_88 : decode cX1_init 88 = .ok (.putfield 50, 3) := by decide +kernel
theorem dX1_init_91 : decode cX1_init 91 = .ok (.aload_n 0, 1) := by decide +kernel
theorem dX1_init_92 : decode cX1_init 92 = .ok (.bipush 20, 2) := by decide +kernel
theorem dX1_init_94 : decode cX1_init 94 = .ok (.newarray .int, 2) := by decide +kernel
theorem dX1_init_96 : decode cX1_init 96 = .ok (.putfield 53, 3) := by decide +kernel
theorem dX1_init_99 : decode cX1_init 99 = .ok (.aload_n 0, 1) := by decide +kernel
theorem dX1_init_100 : decode cX1_init 100 = .ok (.getfield 38, 3) := by decide +kernel
theorem dX1_init_103 : decode cX1_init 103 = .ok (.iconst (-1), 1) := by decide +kernel
theorem dX1_init_104 : decode cX1_init 104 = .ok (.invokestatic 56, 3) := by decide +kernel
theorem dX1_init_107 : decode cX1_init 107 = .ok (.return_, 1) := by decide +kernel
set_option maxRecDepth 20000 in
theorem ggX1_copyFrom_X8_copyFrom : GoodIn wsX1_copyFrom wsX8_copyFrom := goodIn_r _ [22, 23, 24, 25, 26, 27, 28, 29, 30, 31, 32, 7, 8, 9, 33, 34, 48, 49, 50, 51, 52, 53, 54, 55, 56, 57, 58] (by decide +kernel) (by decide +kernel)
set_option maxRecDepth 20000 in
theorem gX1_copyFrom_X8_copyFrom : GoodIn wsX1_copyFrom (wsV RX1 62 RX8 yX8_copyFrom wsX8_copyFrom) := goodIn_app (goodIn_of _ (by decide +kernel)) ggX1_copyFrom_X8_copyFrom
theorem dX1_copyFrom_0 : decode cX1_copyFrom 0 = .ok (.aload_n 0, 1) := by decide +kernel
theorem dX1_copyFrom_1 : decode cX1_copyFrom 1 = .ok (.getfield 12, 3) := by decide +kernel
theorem dX1_copyFrom_4 : decode cX1_copyFrom 4 = .ok (.aload_n 1, 1) := by decide +kernel
theorem dX1_copyFrom_5 : decode cX1_copyFrom 5 = .ok (.getfield 12, 3) := by decide +kernel
theorem dX1_copyFrom_8 : decode cX1_copyFrom 8 = .ok (.invokevirtual 62, 3) := by decide +kernel
theorem dX1_copyFrom_11 : decode cX1_copyFrom 11 = .ok (.aload_n 0, 1) := by decide +kernel
theorem dX1_copyFrom_12 : decode cX1_copyFrom 12 = .ok (.aload_n 1, 1) := by decide +kernel
theorem dX1_copyFrom_13 : decode cX1_copyFrom 13 = .ok (.getfield 18, 3) := by decide +kernel
theorem dX1_copyFrom_16 : decode cX1_copyFrom 16 = .ok (.putfield 18, 3) := by decide +kernel
theorem dX1_copyFrom_19 : decode cX1_copyFrom 19 = .ok (.aload_n 0, 1) := by decide +kernel
theorem dX1_copyFrom_20 : decode cX1_copyFrom 20 = .ok (.aload_n 1, 1) := by decide +kernel
theorem dX1_copyFrom_21 : decode cX1_copyFrom 21 = .ok (.getfield 22, 3) := by decide +kernel
theorem dX1_copyFrom_24 : decode cX1_copyFrom 24 = .ok (.putfield 22, 3) := by decide +kernel
theorem dX1_copyFrom_27 : decode cX1_copyFrom 27 = .ok (.aload_n 0, 1) := by decide +kernel
theorem dX1_copyFrom_28 : decode cX1_copyFrom 28 = .ok (.aload_n 1, 1) := by decide +kernel
theorem dX1_copyFrom_29 : decode cX1_copyFrom 29 = .ok (.getfield 25, 3) := by decide +kernel
theorem dX1_copyFrom_32 : decode cX1_copyFrom 32 = .ok (.putfield 25, 3) := by decide +kernel
theorem dX1_copyFrom_35 : decode cX1_copyFrom 35 = .ok (.aload_n 1, 1) := by decide +kernel
theorem dX1_copyFrom_36 : decode cX1_copyFrom 36 = .ok (.getfield 28, 3) := by decide +kernel
theorem dX1_copyFrom_39 : decode cX1_copyFrom 39 = .ok (.iconst 0, 1) := by decide +kernel
theorem dX1_copyFrom_40 : decode cX1_copyFrom 40 = .ok (.aload_n 0, 1) := by decide +kernel
theorem dX1_copyFrom_41 : decode cX1_copyFrom 41 = .ok (.getfield 28, 3) := by decide +kernel
theorem dX1_copyFrom_44 : decode cX1_copyFrom 44 = .ok (.iconst 0, 1) := by decide +kernel
theorem dX1_copyFrom_45 : decode cX1_copyFrom 45 = .ok (.bipush 10, 2) := by decide +kernel
theorem dX1_copyFrom_47 : decode cX1_copyFrom 47 = .ok (.invokestatic 66, 3) := by decide +kernel
theorem dX1_copyFrom_50 : decode cX1_copyFrom 50 = .ok (.aload_n 1, 1) := by decide +kernel
theorem dX1_copyFrom_51 : decode cX1_copyFrom 51 = .ok (.getfield 32, 3) := by decide +kernel
theorem dX1_copyFrom_54 : decode cX1_copyFrom 54 = .ok (.iconst 0, 1) := by decide +kernel
theorem dX1_copyFrom_55 : decode cX1_copyFrom 55 = .ok (.aload_n 0, 1) := by decide +kernel
theorem dX1_copyFrom_56 : decode cX1_copyFrom 56 = .ok (.getfield 32, 3) := by decide +kernel
theorem dX1_copyFrom_59 : decode cX1_copyFrom 59 = .ok (.iconst 0, 1) := by decide +kernel
theorem dX1_copyFrom_60 : decode cX1_copyFrom 60 = .ok (.bipush 10, 2) := by decide +kernel
theorem dX1_copyFrom_62 : decode cX1_copyFrom 62 = .ok (.invokestatic 66, 3) := by decide +kernel
theorem dX1_copyFrom_65 : decode cX1_copyFrom 65 = .ok (.aload_n 1, 1) := by decide +kernel
theorem dX1_copyFrom_66 : decode cX1_copyFrom 66 = .ok (.getfield 35, 3) := by decide +kernel
theorem dX1_copyFrom_69 : decode cX1_copyFrom 69 = .ok (.iconst 0, 1) := by decide +kernel
theorem dX1_copyFrom_70 : decode cX1_copyFrom 70 = .ok (.aload_n 0, 1) := by decide +kernel
theorem dX1_copyFrom_71 : decode cX1_copyFrom 71 = .ok (.getfield 35, 3) := by decide +kernel
theorem dX1_copyFrom_74 : decode cX1_copyFrom 74 = .ok (.iconst 0, 1) := by decide +kernel
theorem dX1_copyFrom_75 : decode cX1_copyFrom 75 = .ok (.bipush 10, 2) := by decide +kernel
theorem dX1_copyFrom_77 : decode cX1_copyFrom 77 = .ok (.invokestatic 66, 3) := by decide +kernel
theorem dX1_copyFrom_80 : decode cX1_copyFrom 80 = .ok (.aload_n 1, 1) := by decide +kernel
theorem dX1_copyFrom_81 : decode cX1_copyFrom 81 = .ok (.getfield 38, 3) := by decide +kernel
theorem dX1_copyFrom_84 : decode cX1_copyFrom 84 = .ok (.iconst 0, 1) := by decide +kernel
theorem dX1_copyFrom_85 : decode cX1_copyFrom 85 = .ok (.aload_n 0, 1) := by decide +kernel
theorem dX1_copyFrom_86 : decode cX1_copyFrom 86 = .ok (.getfield 38, 3) := by decide +kernel
theorem dX1_copyFrom_89 : decode cX1_copyFrom 89 = .ok (.iconst 0, 1) := by decide +kernel
theorem dX1_copyFrom_90 : decode cX1_copyFrom 90 = .ok (.bipush 10, 2) := by decide +kernel
theorem dX1_copyFrom_92 : decode cX1_copyFrom 92 = .ok (.invokestatic 66, 3) := by decide +kernel
theorem dX1_copyFrom_95 : decode cX1_copyFrom 95 = .ok (.aload_n 0, 1) := by decide +kernel
theorem dX1_copyFrom_96 : decode cX1_copyFrom 96 = .ok (.aload_n 1, 1) := by decide +kernel
theorem dX1_copyFrom_97 : decode cX1_copyFrom 97 = .ok (.getfield 41, 3) := by decide +kernel
theorem dX1_copyFrom_100 : decode cX1_copyFrom 100 = .ok (.putfield 41, 3) := by decide +kernel
theorem dX1_copyFrom_103 : decode cX1_copyFrom 103 = .ok (.aload_n 1, 1) := by decide +kernel
theorem dX1_copyFrom_104 : decode cX1_copyFrom 104 = .ok (.getfield 44, 3) := by decide +kernel
theorem dX1_copyFrom_107 : decode cX1_copyFrom 107 = .ok (.iconst 0, 1) := by decide +kernel
theorem dX1_copyFrom_108 : decode cX1_copyFrom 108 = .ok (.aload_n 0, 1) := by decide +kernel
theorem dX1_copyFrom_109 : decode cX1_copyFrom 109 = .ok (.getfield 44, 3) := by decide +kernel
theorem dX1_copyFrom_112 : decode cX1_copyFrom 112 = .ok (.iconst 0, 1) := by decide +kernel
theorem dX1_copyFrom_113 : decode cX1_copyFrom 113 = .ok (.bipush 20, 2) := by decide +kernel
theorem dX1_copyFrom_115 : decode cX1_copyFrom 115 = .ok (.invokestatic 66, 3) := by decide +kernel
theorem dX1_copyFrom_118 : decode cX1_copyFrom 118 = .ok (.aload_n 1, 1) := by decide +kernel
theorem dX1_copyFrom_119 : decode cX1_copyFrom 119 = .ok (.getfield 47, 3) := by decide +kernel
theorem dX1_copyFrom_122 : decode cX1_copyFrom 122 = .ok (.iconst 0, 1) := by decide +kernel
theorem dX1_copyFrom_123 : decode cX1_copyFrom 123 = .ok (.aload_n 0, 1) := by decide +kernel
theorem dX1_copyFrom_124 : decode cX1_copyFrom 124 = .ok (.getfield 47, 3) := by decide +kernel
theorem dX1_copyFrom_127 : decode cX1_copyFrom 127 = .ok (.iconst 0, 1) := by decide +kernel
theorem dX1_copyFrom_128 : decode cX1_copyFrom 128 = .ok (.bipush 20, 2) := by decide +kernel
theorem dX1_copyFrom_130 : decode cX1_copyFrom 130 = .ok (.invokestatic 66, 3) := by decide +kernel
theorem dX1_copyFrom_133 : decode cX1_copyFrom 133 = .ok (.aload_n 1, 1) := by decide +kernel
theorem dX1_copyFrom_134 : decode cX1_copyFrom 134 = .ok (.getfield 50, 3) := by decide +kernel
theorem dX1_copyFrom_137 : decode cX1_copyFrom 137 = .ok (.iconst 0, 1) := by decide +kernel
theorem dX1_copyFrom_138 : decode cX1_copyFrom 138 = .ok (.aload_n 0, 1) := by decide +kernel
theorem dX1_copyFrom_139 : decode cX1_copyFrom 139 = .ok (.getfield 50, 3) := by decide +kernel
theorem dX1_copyFrom_142 : decode cX1_copyFrom 142 = .ok (.iconst 0, 1) := by decide +kernel
theorem dX1_copyFrom_143 : decode cX1_copyFrom 143 = .ok (.bipush 20, 2) := by decide +kernel
theorem dX1_copyFrom_145 : decode cX1_copyFrom 145 = .ok (.invokestatic 66, 3) := by decide +kernel
theorem dX1_copyFrom_148 : decode cX1_copyFrom 148 = .ok (.aload_n 1, 1) := by decide +kernel
theorem dX1_copyFrom_149 : decode cX1_copyFrom 149 = .ok (.getfield 53, 3) := by decide +kernel
theorem dX1_copyFrom_152 : decode cX1_copyFrom 152 = .ok (.iconst 0, 1) := by decide +kernel
theorem dX1_copyFrom_153 : decode cX1_copyFrom 153 = .ok (.aload_n 0, 1) := by decide +kernel
theorem dX1_copyFrom_154 : decode cX1_copyFrom 154 = .ok (.getfield 53, 3) := by decide +kernel
theorem dX1_copyFrom_157 : decode cX1_copyFrom 157 = .ok (.iconst 0, 1) := by decide +kernel
theorem dX1_copyFrom_158 : decode cX1_copyFrom 158 = .ok (.bipush 20, 2) := by decide +kernel
theorem dX1_copyFrom_160 : decode cX1_copyFrom 160 = .ok (.invokestatic 66, 3) := by decide +kernel
theorem dX1_copyFrom_163 : decode cX1_copyFrom 163 = .ok (.return_, 1) := by decide +kernel
set_option maxRecDepth 20000 in
theorem ggX1_settle_X8_copyFrom : GoodIn wsX1_settle wsX8_copyFrom := goodIn_r _ [9, 10, 11, 12, 13, 14, 15, 16, 17, 18, 19, 20, 21, 22, 23, 24, 42, 43, 44, 45, 46, 47, 48, 49, 50, 51, 52] (by decide +kernel) (by decide +kernel)
set_option maxRecDepth 20000 in
theorem gX1_settle_X8_copyFrom : GoodIn wsX1_settle (wsV RX1 62 RX8 yX8_copyFrom wsX8_copyFrom) := goodIn_app (goodIn_of _ (by decide +kernel)) ggX1_settle_X8_copyFrom
set_option maxRecDepth 20000 in
theorem ggX1_settle_J7_fill_53178 : GoodIn wsX1_settle wsJ7_fill_53178 := goodIn_r _ [28] (by decide +kernel) (by decide +kernel)
set_option maxRecDepth 20000 in
theorem gX1_settle_J7_fill_53178 : GoodIn wsX1_settle (va_wsS RX1 56 yJ7_fill_53178 wsJ7_fill_53178) := goodIn_app (goodIn_of _ (by decide +kernel)) ggX1_settle_J7_fill_53178
theorem dX1_settle_0 : decode cX1_settle 0 = .ok (.aload_n 0, 1) := by decide +kernel
theorem dX1_settle_1 : decode cX1_settle 1 = .ok (.getfield 12, 3) := by decide +kernel
theorem dX1_settle_4 : decode cX1_settle 4 = .ok (.aload_n 1, 1) := by decide +kernel
theorem dX1_settle_5 : decode cX1_settle 5 = .ok (.invokevirtual 62, 3) := by decide +kernel
theorem dX1_settle_8 : decode cX1_settle 8 = .ok (.aload_n 0, 1) := by decide +kernel
theorem dX1_settle_9 : decode cX1_settle 9 = .ok (.iconst 0, 1) := by decide +kernel
theorem dX1_settle_10 : decode cX1_settle 10 = .ok (.putfield 25, 3) := by decide +kernel
theorem dX1_settle_13 : decode cX1_settle 13 = .ok (.aload_n 0, 1) := by decide +kernel
theorem dX1_settle_14 : decode cX1_settle 14 = .ok (.getfield 38, 3) := by decide +kernel
theorem dX1_settle_17 : decode cX1_settle 17 = .ok (.iconst (-1), 1) := by decide +kernel
theorem dX1_settle_18 : decode cX1_settle 18 = .ok (.invokestatic 56, 3) := by decide +kernel
theorem dX1_settle_21 : decode cX1_settle 21 = .ok (.aload_n 0, 1) := by decide +kernel
theorem dX1_settle_22 : decode cX1_settle 22 = .ok (.iconst 0, 1) := by decide +kernel
theorem dX1_settle_23 : decode cX1_settle 23 = .ok (.putfield 41, 3) := by decide +kernel
theorem dX1_settle_26 : decode cX1_settle 26 = .ok (.return_, 1) := by decide +kernel
theorem dX1_palmsTold_0 : decode cX1_palmsTold 0 = .ok (.iconst 0, 1) := by decide +kernel
theorem dX1_palmsTold_1 : decode cX1_palmsTold 1 = .ok (.istore_n 1, 1) := by decide +kernel
theorem dX1_palmsTold_2 : decode cX1_palmsTold 2 = .ok (.iconst 0, 1) := by decide +kernel
theorem dX1_palmsTold_3 : decode cX1_palmsTold 3 = .ok (.istore_n 2, 1) := by decide +kernel
theorem dX1_palmsTold_4 : decode cX1_palmsTold 4 = .ok (.iload_n 2, 1) := by decide +kernel
theorem dX1_palmsTold_5 : decode cX1_palmsTold 5 = .ok (.bipush 10, 2) := by decide +kernel
theorem dX1_palmsTold_7 : decode cX1_palmsTold 7 = .ok (.if_icmp .ge 22, 3) := by decide +kernel
theorem dX1_palmsTold_10 : decode cX1_palmsTold 10 = .ok (.aload_n 0, 1) := by decide +kernel
theorem dX1_palmsTold_11 : decode cX1_palmsTold 11 = .ok (.getfield 38, 3) := by decide +kernel
theorem dX1_palmsTold_14 : decode cX1_palmsTold 14 = .ok (.iload_n 2, 1) := by decide +kernel
theorem dX1_palmsTold_15 : decode cX1_palmsTold 15 = .ok (.iaload, 1) := by decide +kernel
theorem dX1_palmsTold_16 : decode cX1_palmsTold 16 = .ok (.iconst (-1), 1) := by decide +kernel
theorem dX1_palmsTold_17 : decode cX1_palmsTold 17 = .ok (.if_icmp .eq 6, 3) := by decide +kernel
theorem dX1_palmsTold_20 : decode cX1_palmsTold 20 = .ok (.iinc 1 1, 3) := by decide +kernel
theorem dX1_palmsTold_23 : decode cX1_palmsTold 23 = .ok (.iinc 2 1, 3) := by decide +kernel
theorem dX1_palmsTold_26 : decode cX1_palmsTold 26 = .ok (.goto (-22), 3) := by decide +kernel
theorem dX1_palmsTold_29 : decode cX1_palmsTold 29 = .ok (.iload_n 1, 1) := by decide +kernel
theorem dX1_palmsTold_30 : decode cX1_palmsTold 30 = .ok (.ireturn, 1) := by decide +kernel
set_option maxRecDepth 20000 in
theorem ggX1_remember_X1_forgetFirst : GoodIn wsX1_remember wsX1_forgetFirst := goodIn_r _ [9, 10, 11, 12, 13] (by decide +kernel) (by decide +kernel)
set_option maxRecDepth 20000 in
theorem gX1_remember_X1_forgetFirst : GoodIn wsX1_remember (va_wsS RX1 72 yX1_forgetFirst wsX1_forgetFirst) := goodIn_app (goodIn_of _ (by decide +kernel)) ggX1_remember_X1_forgetFirst
theorem dX1_remember_0 : decode cX1_remember 0 = .ok (.aload_n 0, 1) := by decide +kernel
theorem dX1_remember_1 : decode cX1_remember 1 = .ok (.getfield 41, 3) := by decide +kernel
theorem dX1_remember_4 : decode cX1_remember 4 = .ok (.bipush 20, 2) := by decide +kernel
theorem dX1_remember_6 : decode cX1_remember 6 = .ok (.if_icmp .lt 37, 3) := by decide +kernel
theorem dX1_remember_9 : decode cX1_remember 9 = .ok (.aload_n 0, 1) := by decide +kernel
theorem dX1_remember_10 : decode cX1_remember 10 = .ok (.getfield 44, 3) := by decide +kernel
theorem dX1_remember_13 : decode cX1_remember 13 = .ok (.invokestatic 72, 3) := by decide +kernel
theorem dX1_remember_16 : decode cX1_remember 16 = .ok (.aload_n 0, 1) := by decide +kernel
theorem dX1_remember_17 : decode cX1_remember 17 = .ok (.getfield 47, 3) := by decide +kernel
theorem dX1_remember_20 : decode cX1_remember 20 = .ok (.invokestatic 72, 3) := by decide +kernel
theorem dX1_remember_23 : decode cX1_remember 23 = .ok (.aload_n 0, 1) := by decide +kernel
theorem dX1_remember_24 : decode cX1_remember 24 = .ok (.getfield 50, 3) := by decide +kernel
theorem dX1_remember_27 : decode cX1_remember 27 = .ok (.invokestatic 72, 3) := by decide +kernel
theorem dX1_remember_30 : decode cX1_remember 30 = .ok (.aload_n 0, 1) := by decide +kernel
theorem dX1_remember_31 : decode cX1_remember 31 = .ok (.getfield 53, 3) := by decide +kernel
theorem dX1_remember_34 : decode cX1_remember 34 = .ok (.invokestatic 72, 3) := by decide +kernel
theorem dX1_remember_37 : decode cX1_remember 37 = .ok (.aload_n 0, 1) := by decide +kernel
theorem dX1_remember_38 : decode cX1_remember 38 = .ok (.bipush 19, 2) := by decide +kernel
theorem dX1_remember_40 : decode cX1_remember 40 = .ok (.putfield 41, 3) := by decide +kernel
theorem dX1_remember_43 : decode cX1_remember 43 = .ok (.aload_n 0, 1) := by decide +kernel
theorem dX1_remember_44 : decode cX1_remember 44 = .ok (.getfield 44, 3) := by decide +kernel
theorem dX1_remember_47 : decode cX1_remember 47 = .ok (.aload_n 0, 1) := by decide +kernel
theorem dX1_remember_48 : decode cX1_remember 48 = .ok (.getfield 41, 3) := by decide +kernel
theorem dX1_remember_51 : decode cX1_remember 51 = .ok (.iload_n 1, 1) := by decide +kernel
theorem dX1_remember_52 : decode cX1_remember 52 = .ok (.iastore, 1) := by decide +kernel
theorem dX1_remember_53 : decode cX1_remember 53 = .ok (.aload_n 0, 1) := by decide +kernel
theorem dX1_remember_54 : decode cX1_remember 54 = .ok (.getfield 47, 3) := by decide +kernel
theorem dX1_remember_57 : decode cX1_remember 57 = .ok (.aload_n 0, 1) := by decide +kernel
theorem dX1_remember_58 : decode cX1_remember 58 = .ok (.getfield 41, 3) := by decide +kernel
theorem dX1_remember_61 : decode cX1_remember 61 = .ok (.iload_n 2, 1) := by decide +kernel
theorem dX1_remember_62 : decode cX1_remember 62 = .ok (.iastore, 1) := by decide +kernel
theorem dX1_remember_63 : decode cX1_remember 63 = .ok (.aload_n 0, 1) := by decide +kernel
theorem dX1_remember_64 : decode cX1_remember 64 = .ok (.getfield 50, 3) := by decide +kernel
theorem dX1_remember_67 : decode cX1_remember 67 = .ok (.aload_n 0, 1) := by decide +kernel
theorem dX1_remember_68 : decode cX1_remember 68 = .ok (.getfield 41, 3) := by decide +kernel
theorem dX1_remember_71 : decode cX1_remember 71 = .ok (.iload_n 3, 1) := by decide +kernel
theorem dX1_remember_72 : decode cX1_remember 72 = .ok (.iastore, 1) := by decide +kernel
theorem dX1_remember_73 : decode cX1_remember 73 = .ok (.aload_n 0, 1) := by decide +kernel
theorem dX1_remember_74 : decode cX1_remember 74 = .ok (.getfield 53, 3) := by decide +kernel
theorem dX1_remember_77 : decode cX1_remember 77 = .ok (.aload_n 0, 1) := by decide +kernel
theorem dX1_remember_78 : decode cX1_remember 78 = .ok (.getfield 41, 3) := by decide +kernel
theorem dX1_remember_81 : decode cX1_remember 81 = .ok (.iload 4, 2) := by decide +kernel
theorem dX1_remember_83 : decode cX1_remember 83 = .ok (.iastore, 1) := by decide +kernel
theorem dX1_remember_84 : decode cX1_remember 84 = .ok (.aload_n 0, 1) := by decide +kernel
theorem dX1_remember_85 : decode cX1_remember 85 = .ok (.dup, 1) := by decide +kernel
theorem dX1_remember_86 : decode cX1_remember 86 = .ok (.getfield 41, 3) := by decide +kernel
theorem dX1_remember_89 : decode cX1_remember 89 = .ok (.iconst 1, 1) := by decide +kernel
theorem dX1_remember_90 : decode cX1_remember 90 = .ok (.iadd, 1) := by decide +kernel
theorem dX1_remember_91 : decode cX1_remember 91 = .ok (.putfield 41, 3) := by decide +kernel
theorem dX1_remember_94 : decode cX1_remember 94 = .ok (.return_, 1) := by decide +kernel
theorem dX1_forgetFirst_0 : decode cX1_forgetFirst 0 = .ok (.aload_n 0, 1) := by decide +kernel
theorem dX1_forgetFirst_1 : decode cX1_forgetFirst 1 = .ok (.iconst 1, 1) := by decide +kernel
theorem dX1_forgetFirst_2 : decode cX1_forgetFirst 2 = .ok (.aload_n 0, 1) := by decide +kernel
theorem dX1_forgetFirst_3 : decode cX1_forgetFirst 3 = .ok (.iconst 0, 1) := by decide +kernel
theorem dX1_forgetFirst_4 : decode cX1_forgetFirst 4 = .ok (.bipush 19, 2) := by decide +kernel
theorem dX1_forgetFirst_6 : decode cX1_forgetFirst 6 = .ok (.invokestatic 66, 3) := by decide +kernel
theorem dX1_forgetFirst_9 : decode cX1_forgetFirst 9 = .ok (.return_, 1) := by decide +kernel
set_option maxRecDepth 20000 in
theorem ggX1_takeBack_X8_moveTo : GoodIn wsX1_takeBack wsX8_moveTo := goodIn_r _ [14, 15, 16, 17, 18, 19, 13, 20, 21, 22, 23, 24, 25, 26, 27, 28, 29, 30, 31, 32, 33, 34, 35, 49, 50, 51, 52, 53, 54, 55, 56, 57, 58, 59] (by decide +kernel) (by decide +kernel)
set_option maxRecDepth 20000 in
theorem gX1_takeBack_X8_moveTo : GoodIn wsX1_takeBack (wsV RX1 76 RX8 yX8_moveTo wsX8_moveTo) := goodIn_app (goodIn_of _ (by decide +kernel)) ggX1_takeBack_X8_moveTo
theorem dX1_takeBack_0 : decode cX1_takeBack 0 = .ok (.aload_n 0, 1) := by decide +kernel
theorem dX1_takeBack_1 : decode cX1_takeBack 1 = .ok (.getfield 41, 3) := by decide +kernel
theorem dX1_takeBack_4 : decode cX1_takeBack 4 = .ok (.iconst 1, 1) := by decide +kernel
theorem dX1_takeBack_5 : decode cX1_takeBack 5 = .ok (.if_icmp .ge 5, 3) := by decide +kernel
theorem dX1_takeBack_8 : decode cX1_takeBack 8 = .ok (.iconst 0, 1) := by decide +kernel
theorem dX1_takeBack_9 : decode cX1_takeBack 9 = .ok (.ireturn, 1) := by decide +kernel
theorem dX1_takeBack_10 : decode cX1_takeBack 10 = .ok (.aload_n 0, 1) := by decide +kernel
theorem dX1_takeBack_11 : decode cX1_takeBack 11 = .ok (.dup, 1) := by decide +kernel
theorem dX1_takeBack_12 : decode cX1_takeBack 12 = .ok (.getfield 41, 3) := by decide +kernel
theorem dX1_takeBack_15 : decode cX1_takeBack 15 = .ok (.iconst 1, 1) := by decide +kernel
theorem dX1_takeBack_16 : decode cX1_takeBack 16 = .ok (.isub, 1) := by decide +kernel
theorem dX1_takeBack_17 : decode cX1_takeBack 17 = .ok (.putfield 41, 3) := by decide +kernel
theorem dX1_takeBack_20 : decode cX1_takeBack 20 = .ok (.aload_n 0, 1) := by decide +kernel
theorem dX1_takeBack_21 : decode cX1_takeBack 21 = .ok (.getfield 44, 3) := by decide +kernel
theorem dX1_takeBack_24 : decode cX1_takeBack 24 = .ok (.aload_n 0, 1) := by decide +kernel
theorem dX1_takeBack_25 : decode cX1_takeBack 25 = .ok (.getfield 41, 3) := by decide +kernel
theorem dX1_takeBack_28 : decode cX1_takeBack 28 = .ok (.iaload, 1) := by decide +kernel
theorem dX1_takeBack_29 : decode cX1_takeBack 29 = .ok (.tableswitch 113 0 2 #[27, 63, 88], 27) := by decide +kernel
theorem dX1_takeBack_56 : decode cX1_takeBack 56 = .ok (.aload_n 0, 1) := by decide +kernel
theorem dX1_takeBack_57 : decode cX1_takeBack 57 = .ok (.getfield 12, 3) := by decide +kernel
theorem dX1_takeBack_60 : decode cX1_takeBack 60 = .ok (.aload_n 0, 1) := by decide +kernel
theorem dX1_takeBack_61 : decode cX1_takeBack 61 = .ok (.getfield 47, 3) := by decide +kernel
theorem dX1_takeBack_64 : decode cX1_takeBack 64 = .ok (.aload_n 0, 1) := by decide +kernel
theorem dX1_takeBack_65 : decode cX1_takeBack 65 = .ok (.getfield 41, 3) := by decide +kernel
theorem dX1_takeBack_68 : decode cX1_takeBack 68 = .ok (.iaload, 1) := by decide +kernel
theorem dX1_takeBack_69 : decode cX1_takeBack 69 = .ok (.aload_n 0, 1) := by decide +kernel
theorem dX1_takeBack_70 : decode cX1_takeBack 70 = .ok (.getfield 50, 3) := by decide +kernel
theorem dX1_takeBack_73 : decode cX1_takeBack 73 = .ok (.aload_n 0, 1) := by decide +kernel
theorem dX1_takeBack_74 : decode cX1_takeBack 74 = .ok (.getfield 41, 3) := by decide +kernel
theorem dX1_takeBack_77 : decode cX1_takeBack 77 = .ok (.iaload, 1) := by decide +kernel
theorem dX1_takeBack_78 : decode cX1_takeBack 78 = .ok (.aload_n 0, 1) := by decide +kernel
theorem dX1_takeBack_79 : decode cX1_takeBack 79 = .ok (.getfield 53, 3) := by decide +kernel
theorem dX1_takeBack_82 : decode cX1_takeBack 82 = .ok (.aload_n 0, 1) := by decide +kernel
theorem dX1_takeBack_83 : decode cX1_takeBack 83 = .ok (.getfield 41, 3) := by decide +kernel
theorem dX1_takeBack_86 : decode cX1_takeBack 86 = .ok (.iaload, 1) := by decide +kernel
theorem dX1_takeBack_87 : decode cX1_takeBack 87 = .ok (.invokevirtual 76, 3) := by decide +kernel
theorem dX1_takeBack_90 : decode cX1_takeBack 90 = .ok (.iconst 1, 1) := by decide +kernel
theorem dX1_takeBack_91 : decode cX1_takeBack 91 = .ok (.ireturn, 1) := by decide +kernel
theorem dX1_takeBack_92 : decode cX1_takeBack 92 = .ok (.aload_n 0, 1) := by decide +kernel
theorem dX1_takeBack_93 : decode cX1_takeBack 93 = .ok (.getfield 12, 3) := by decide +kernel
theorem dX1_takeBack_96 : decode cX1_takeBack 96 = .ok (.dup, 1) := by decide +kernel
theorem dX1_takeBack_97 : decode cX1_takeBack 97 = .ok (.getfield 80, 3) := by decide +kernel
theorem dX1_takeBack_100 : decode cX1_takeBack 100 = .ok (.iconst 1, 1) := by decide +kernel
theorem dX1_takeBack_101 : decode cX1_takeBack 101 = .ok (.aload_n 0, 1) := by decide +kernel
theorem dX1_takeBack_102 : decode cX1_takeBack 102 = .ok (.getfield 47, 3) := by decide +kernel
theorem dX1_takeBack_105 : decode cX1_takeBack 105 = .ok (.aload_n 0, 1) := by decide +kernel
theorem dX1_takeBack_106 : decode cX1_takeBack 106 = .ok (.getfield 41, 3) := by decide +kernel
theorem dX1_takeBack_109 : decode cX1_takeBack 109 = .ok (.iaload, 1) := by decide +kernel
theorem dX1_takeBack_110 : decode cX1_takeBack 110 = .ok (.ishl, 1) := by decide +kernel
theorem dX1_takeBack_111 : decode cX1_takeBack 111 = .ok (.ixor, 1) := by decide +kernel
theorem dX1_takeBack_112 : decode cX1_takeBack 112 = .ok (.putfield 80, 3) := by decide +kernel
theorem dX1_takeBack_115 : decode cX1_takeBack 115 = .ok (.iconst 1, 1) := by decide +kernel
theorem dX1_takeBack_116 : decode cX1_takeBack 116 = .ok (.ireturn, 1) := by decide +kernel
theorem dX1_takeBack_117 : decode cX1_takeBack 117 = .ok (.aload_n 0, 1) := by decide +kernel
theorem dX1_takeBack_118 : decode cX1_takeBack 118 = .ok (.getfield 12, 3) := by decide +kernel
theorem dX1_takeBack_121 : decode cX1_takeBack 121 = .ok (.dup, 1) := by decide +kernel
theorem dX1_takeBack_122 : decode cX1_takeBack 122 = .ok (.getfield 83, 3) := by decide +kernel
theorem dX1_takeBack_125 : decode cX1_takeBack 125 = .ok (.iconst 1, 1) := by decide +kernel
theorem dX1_takeBack_126 : decode cX1_takeBack 126 = .ok (.aload_n 0, 1) := by decide +kernel
theorem dX1_takeBack_127 : decode cX1_takeBack 127 = .ok (.getfield 47, 3) := by decide +kernel
theorem dX1_takeBack_130 : decode cX1_takeBack 130 = .ok (.aload_n 0, 1) := by decide +kernel
theorem dX1_takeBack_131 : decode cX1_takeBack 131 = .ok (.getfield 41, 3) := by decide +kernel
theorem dX1_takeBack_134 : decode cX1_takeBack 134 = .ok (.iaload, 1) := by decide +kernel
theorem dX1_takeBack_135 : decode cX1_takeBack 135 = .ok (.ishl, 1) := by decide +kernel
theorem dX1_takeBack_136 : decode cX1_takeBack 136 = .ok (.ixor, 1) := by decide +kernel
theorem dX1_takeBack_137 : decode cX1_takeBack 137 = .ok (.putfield 83, 3) := by decide +kernel
theorem dX1_takeBack_140 : decode cX1_takeBack 140 = .ok (.iconst 1, 1) := by decide +kernel
theorem dX1_takeBack_141 : decode cX1_takeBack 141 = .ok (.ireturn, 1) := by decide +kernel
theorem dX1_takeBack_142 : decode cX1_takeBack 142 = .ok (.aload_n 0, 1) := by decide +kernel
theorem dX1_takeBack_143 : decode cX1_takeBack 143 = .ok (.getfield 12, 3) := by decide +kernel
theorem dX1_takeBack_146 : decode cX1_takeBack 146 = .ok (.dup, 1) := by decide +kernel
theorem dX1_takeBack_147 : decode cX1_takeBack 147 = .ok (.getfield 86, 3) := by decide +kernel
theorem dX1_takeBack_150 : decode cX1_takeBack 150 = .ok (.iconst 1, 1) := by decide +kernel
theorem dX1_takeBack_151 : decode cX1_takeBack 151 = .ok (.isub, 1) := by decide +kernel
theorem dX1_takeBack_152 : decode cX1_takeBack 152 = .ok (.putfield 86, 3) := by decide +kernel
theorem dX1_takeBack_155 : decode cX1_takeBack 155 = .ok (.iconst 1, 1) := by decide +kernel
theorem dX1_takeBack_156 : decode cX1_takeBack 156 = .ok (.ireturn, 1) := by decide +kernel
theorem dX2_init_0 : decode cX2_init 0 = .ok (.aload_n 0, 1) := by decide +kernel
theorem dX2_init_1 : decode cX2_init 1 = .ok (.invokespecial 3, 3) := by decide +kernel
theorem dX2_init_4 : decode cX2_init 4 = .ok (.aload_n 0, 1) := by decide +kernel
theorem dX2_init_5 : decode cX2_init 5 = .ok (.iconst 0, 1) := by decide +kernel
theorem dX2_init_6 : decode cX2_init 6 = .ok (.putfield 9, 3) := by decide +kernel
theorem dX2_init_9 : decode cX2_init 9 = .ok (.aload_n 0, 1) := by decide +kernel
theorem dX2_init_10 : decode cX2_init 10 = .ok (.iconst 0, 1) := by decide +kernel
theorem dX2_init_11 : decode cX2_init 11 = .ok (.putfield 15, 3) := by decide +kernel
theorem dX2_init_14 : decode cX2_init 14 = .ok (.aload_n 0, 1) := by decide +kernel
theorem dX2_init_15 : decode cX2_init 15 = .ok (.bipush 10, 2) := by decide +kernel
theorem dX2_init_17 : decode cX2_init 17 = .ok (.newarray .int, 2) := by decide +kernel
theorem dX2_init_19 : decode cX2_init 19 = .ok (.putfield 18, 3) := by decide +kernel
theorem dX2_init_22 : decode cX2_init 22 = .ok (.return_, 1) := by decide +kernel
set_option maxRecDepth 20000 in
theorem ggX2_learn_J7_fill_53178 : GoodIn wsX2_learn wsJ7_fill_53178 := goodIn_r _ [8] (by decide +kernel) (by decide +kernel)
set_option maxRecDepth 20000 in
theorem gX2_learn_J7_fill_53178 : GoodIn wsX2_learn (va_wsS RX2 22 yJ7_fill_53178 wsJ7_fill_53178) := goodIn_app (goodIn_of _ (by decide +kernel)) ggX2_learn_J7_fill_53178
set_option maxRecDepth 20000 in
theorem ggX2_learn_X2_learnTwo : GoodIn wsX2_learn wsX2_learnTwo := goodIn_r _ [13, 1, 2, 3, 14, 15, 12, 16, 17, 18, 19, 20, 21, 22, 23, 24, 25, 26, 27, 28, 29, 30, 31, 32, 33, 34, 35, 36, 37, 38, 39, 40, 41, 42, 43, 44, 45, 46, 47, 48, 49, 50, 51, 52, 53, 54, 55, 56, 57, 58, 59, 60, 61, 62, 63, 64, 65, 66, 67, 68, 69, 70, 71, 72, 73, 74, 75, 76, 77, 78, 79, 80, 81, 82, 83, 84, 85, 86, 87, 88, 89, 90, 91, 92, 93, 94, 95, 96, 97, 98, 99, 100, 101, 102, 103, 104, 105, 106, 107, 108, 109, 110, 111, 112, 113, 114, 115, 116, 117, 118, 119, 120, 121, 122, 123, 124, 125, 126, 127, 128, 129] (by decide +kernel) (by decide +kernel)
set_option maxRecDepth 20000 in
theorem gX2_learn_X2_learnTwo : GoodIn wsX2_learn (wsV RX2 33 RX2 yX2_learnTwo wsX2_learnTwo) := goodIn_app (goodIn_of _ (by decide +kernel)) ggX2_learn_X2_learnTwo
theorem dX2_learn_0 : decode cX2_learn 0 = .ok (.aload_n 0, 1) := by decide +kernel
theorem dX2_learn_1 : decode cX2_learn 1 = .ok (.iconst 0, 1) := by decide +kernel
theorem dX2_learn_2 : decode cX2_learn 2 = .ok (.putfield 9, 3) := by decide +kernel
theorem dX2_learn_5 : decode cX2_learn 5 = .ok (.aload_n 0, 1) := by decide +kernel
theorem dX2_learn_6 : decode cX2_learn 6 = .ok (.iconst 0, 1) := by decide +kernel
theorem dX2_learn_7 : decode cX2_learn 7 = .ok (.putfield 15, 3) := by decide +kernel
theorem dX2_learn_10 : decode cX2_learn 10 = .ok (.aload_n 0, 1) := by decide +kernel
theorem dX2_learn_11 : decode cX2_learn 11 = .ok (.getfield 18, 3) := by decide +kernel
theorem dX2_learn_14 : decode cX2_learn 14 = .ok (.iconst 0, 1) := by decide +kernel
theorem dX2_learn_15 : decode cX2_learn 15 = .ok (.invokestatic 22, 3) := by decide +kernel
theorem dX2_learn_18 : decode cX2_learn 18 = .ok (.iconst 0, 1) := by decide +kernel
theorem dX2_learn_19 : decode cX2_learn 19 = .ok (.istore_n 3, 1) := by decide +kernel
theorem dX2_learn_20 : decode cX2_learn 20 = .ok (.iload_n 3, 1) := by decide +kernel
theorem dX2_learn_21 : decode cX2_learn 21 = .ok (.aload_n 2, 1) := by decide +kernel
theorem dX2_learn_22 : decode cX2_learn 22 = .ok (.getfield 28, 3) := by decide +kernel
theorem dX2_learn_25 : decode cX2_learn 25 = .ok (.if_icmp .ge 38, 3) := by decide +kernel
theorem dX2_learn_28 : decode cX2_learn 28 = .ok (.iload_n 3, 1) := by decide +kernel
theorem dX2_learn_29 : decode cX2_learn 29 = .ok (.iconst 1, 1) := by decide +kernel
theorem dX2_learn_30 : decode cX2_learn 30 = .ok (.iadd, 1) := by decide +kernel
theorem dX2_learn_31 : decode cX2_learn 31 = .ok (.istore 4, 2) := by decide +kernel
theorem dX2_learn_33 : decode cX2_learn 33 = .ok (.iload 4, 2) := by decide +kernel
theorem dX2_learn_35 : decode cX2_learn 35 = .ok (.aload_n 2, 1) := by decide +kernel
theorem dX2_learn_36 : decode cX2_learn 36 = .ok (.getfield 28, 3) := by decide +kernel
theorem dX2_learn_39 : decode cX2_learn 39 = .ok (.if_icmp .ge 18, 3) := by decide +kernel
theorem dX2_learn_42 : decode cX2_learn 42 = .ok (.aload_n 0, 1) := by decide +kernel
theorem dX2_learn_43 : decode cX2_learn 43 = .ok (.aload_n 1, 1) := by decide +kernel
theorem dX2_learn_44 : decode cX2_learn 44 = .ok (.aload_n 2, 1) := by decide +kernel
theorem dX2_learn_45 : decode cX2_learn 45 = .ok (.iload_n 3, 1) := by decide +kernel
theorem dX2_learn_46 : decode cX2_learn 46 = .ok (.iload 4, 2) := by decide +kernel
theorem dX2_learn_48 : decode cX2_learn 48 = .ok (.invokevirtual 33, 3) := by decide +kernel
theorem dX2_learn_51 : decode cX2_learn 51 = .ok (.iinc 4 1, 3) := by decide +kernel
theorem dX2_learn_54 : decode cX2_learn 54 = .ok (.goto (-21), 3) := by decide +kernel
theorem dX2_learn_57 : decode cX2_learn 57 = .ok (.iinc 3 1, 3) := by decide +kernel
theorem dX2_learn_60 : decode cX2_learn 60 = .ok (.goto (-40), 3) := by decide +kernel
theorem dX2_learn_63 : decode cX2_learn 63 = .ok (.return_, 1) := by decide +kernel
set_option maxRecDepth 20000 in
theorem ggX2_learnTwo_X2_oddWith : GoodIn wsX2_learnTwo wsX2_oddWith := goodIn_r _ [7, 8, 9, 10, 11, 12, 13, 14, 15, 16, 17, 18, 19, 20, 21, 22, 23, 24, 25, 26, 27, 28, 29, 30, 31, 32, 33, 34, 35, 36, 37, 38, 39, 40, 41, 42, 43, 44, 45, 46, 47, 48, 49, 50, 51, 52, 53, 54, 55, 56, 57, 58, 59, 60, 61, 62, 63, 64, 65, 66, 67, 68, 69, 70, 71, 72, 73, 74, 75, 76, 77, 78, 79, 80, 81, 82, 83, 84, 85, 86, 87, 88, 89, 90, 91, 92, 93, 94, 95, 96, 97, 98, 99, 100, 104, 105, 106, 107, 108, 109, 110, 111, 112, 113, 114, 115, 116, 117, 118, 119, 120] (by decide +kernel) (by decide +kernel)
set_option maxRecDepth 20000 in
theorem gX2_learnTwo_X2_oddWith : GoodIn wsX2_learnTwo (va_wsS RX2 37 yX2_oddWith wsX2_oddWith) := goodIn_app (goodIn_of _ (by decide +kernel)) ggX2_learnTwo_X2_oddWith
theorem dX2_learnTwo_0 : decode cX2_learnTwo 0 = .ok (.aload_n 1, 1) := by decide +kernel
theorem dX2_learnTwo_1 : decode cX2_learnTwo 1 = .ok (.aload_n 2, 1) := by decide +kernel
theorem dX2_learnTwo_2 : decode cX2_learnTwo 2 = .ok (.iload_n 3, 1) := by decide +kernel
theorem dX2_learnTwo_3 : decode cX2_learnTwo 3 = .ok (.iload 4, 2) := by decide +kernel
theorem dX2_learnTwo_5 : decode cX2_learnTwo 5 = .ok (.iconst 0, 1) := by decide +kernel
theorem dX2_learnTwo_6 : decode cX2_learnTwo 6 = .ok (.invokestatic 37, 3) := by decide +kernel
theorem dX2_learnTwo_9 : decode cX2_learnTwo 9 = .ok (.istore 5, 2) := by decide +kernel
theorem dX2_learnTwo_11 : decode cX2_learnTwo 11 = .ok (.iload 5, 2) := by decide +kernel
theorem dX2_learnTwo_13 : decode cX2_learnTwo 13 = .ok (.aload_n 1, 1) := by decide +kernel
theorem dX2_learnTwo_14 : decode cX2_learnTwo 14 = .ok (.aload_n 2, 1) := by decide +kernel
theorem dX2_learnTwo_15 : decode cX2_learnTwo 15 = .ok (.iload_n 3, 1) := by decide +kernel
theorem dX2_learnTwo_16 : decode cX2_learnTwo 16 = .ok (.iload 4, 2) := by decide +kernel
theorem dX2_learnTwo_18 : decode cX2_learnTwo 18 = .ok (.iconst 1, 1) := by decide +kernel
theorem dX2_learnTwo_19 : decode cX2_learnTwo 19 = .ok (.iload_n 3, 1) := by decide +kernel
theorem dX2_learnTwo_20 : decode cX2_learnTwo 20 = .ok (.ishl, 1) := by decide +kernel
theorem dX2_learnTwo_21 : decode cX2_learnTwo 21 = .ok (.invokestatic 37, 3) := by decide +kernel
theorem dX2_learnTwo_24 : decode cX2_learnTwo 24 = .ok (.ixor, 1) := by decide +kernel
theorem dX2_learnTwo_25 : decode cX2_learnTwo 25 = .ok (.istore 6, 2) := by decide +kernel
theorem dX2_learnTwo_27 : decode cX2_learnTwo 27 = .ok (.iload 5, 2) := by decide +kernel
theorem dX2_learnTwo_29 : decode cX2_learnTwo 29 = .ok (.aload_n 1, 1) := by decide +kernel
theorem dX2_learnTwo_30 : decode cX2_learnTwo 30 = .ok (.aload_n 2, 1) := by decide +kernel
theorem dX2_learnTwo_31 : decode cX2_learnTwo 31 = .ok (.iload_n 3, 1) := by decide +kernel
theorem dX2_learnTwo_32 : decode cX2_learnTwo 32 = .ok (.iload 4, 2) := by decide +kernel
theorem dX2_learnTwo_34 : decode cX2_learnTwo 34 = .ok (.iconst 1, 1) := by decide +kernel
theorem dX2_learnTwo_35 : decode cX2_learnTwo 35 = .ok (.iload 4, 2) := by decide +kernel
theorem dX2_learnTwo_37 : decode cX2_learnTwo 37 = .ok (.ishl, 1) := by decide +kernel
theorem dX2_learnTwo_38 : decode cX2_learnTwo 38 = .ok (.invokestatic 37, 3) := by decide +kernel
theorem dX2_learnTwo_41 : decode cX2_learnTwo 41 = .ok (.ixor, 1) := by decide +kernel
theorem dX2_learnTwo_42 : decode cX2_learnTwo 42 = .ok (.istore 7, 2) := by decide +kernel
theorem dX2_learnTwo_44 : decode cX2_learnTwo 44 = .ok (.aload_n 1, 1) := by decide +kernel
theorem dX2_learnTwo_45 : decode cX2_learnTwo 45 = .ok (.aload_n 2, 1) := by decide +kernel
theorem dX2_learnTwo_46 : decode cX2_learnTwo 46 = .ok (.iload_n 3, 1) := by decide +kernel
theorem dX2_learnTwo_47 : decode cX2_learnTwo 47 = .ok (.iload 4, 2) := by decide +kernel
theorem dX2_learnTwo_49 : decode cX2_learnTwo 49 = .ok (.iconst 1, 1) := by decide +kernel
theorem dX2_learnTwo_50 : decode cX2_learnTwo 50 = .ok (.iload_n 3, 1) := by decide +kernel
theorem dX2_learnTwo_51 : decode cX2_learnTwo 51 = .ok (.ishl, 1) := by decide +kernel
theorem dX2_learnTwo_52 : decode cX2_learnTwo 52 = .ok (.iconst 1, 1) := by decide +kernel
theorem dX2_learnTwo_53 : decode cX2_learnTwo 53 = .ok (.iload 4, 2) := by decide +kernel
theorem dX2_learnTwo_55 : decode cX2_learnTwo 55 = .ok (.ishl, 1) := by decide +kernel
theorem dX2_learnTwo_56 : decode cX2_learnTwo 56 = .ok (.ior, 1) := by decide +kernel
theorem dX2_learnTwo_57 : decode cX2_learnTwo 57 = .ok (.invokestatic 37, 3) := by decide +kernel
theorem dX2_learnTwo_60 : decode cX2_learnTwo 60 = .ok (.istore 8, 2) := by decide +kernel
theorem dX2_learnTwo_62 : decode cX2_learnTwo 62 = .ok (.aload_n 0, 1) := by decide +kernel
theorem dX2_learnTwo_63 : decode cX2_learnTwo 63 = .ok (.dup, 1) := by decide +kernel
theorem dX2_learnTwo_64 : decode cX2_learnTwo 64 = .ok (.getfield 9, 3) := by decide +kernel
theorem dX2_learnTwo_67 : decode cX2_learnTwo 67 = .ok (.iload 5, 2) := by decide +kernel
theorem dX2_learnTwo_69 : decode cX2_learnTwo 69 = .ok (.ixor, 1) := by decide +kernel
theorem dX2_learnTwo_70 : decode cX2_learnTwo 70 = .ok (.putfield 9, 3) := by decide +kernel
theorem dX2_learnTwo_73 : decode cX2_learnTwo 73 = .ok (.aload_n 0, 1) := by decide +kernel
theorem dX2_learnTwo_74 : decode cX2_learnTwo 74 = .ok (.dup, 1) := by decide +kernel
theorem dX2_learnTwo_75 : decode cX2_learnTwo 75 = .ok (.getfield 15, 3) := by decide +kernel
theorem dX2_learnTwo_78 : decode cX2_learnTwo 78 = .ok (.iload 6, 2) := by decide +kernel
theorem dX2_learnTwo_80 : decode cX2_learnTwo 80 = .ok (.iload_n 3, 1) := by decide +kernel
theorem dX2_learnTwo_81 : decode cX2_learnTwo 81 = .ok (.ishl, 1) := by decide +kernel
theorem dX2_learnTwo_82 : decode cX2_learnTwo 82 = .ok (.iload 7, 2) := by decide +kernel
theorem dX2_learnTwo_84 : decode cX2_learnTwo 84 = .ok (.iload 4, 2) := by decide +kernel
theorem dX2_learnTwo_86 : decode cX2_learnTwo 86 = .ok (.ishl, 1) := by decide +kernel
theorem dX2_learnTwo_87 : decode cX2_learnTwo 87 = .ok (.ixor, 1) := by decide +kernel
theorem dX2_learnTwo_88 : decode cX2_learnTwo 88 = .ok (.ixor, 1) := by decide +kernel
theorem dX2_learnTwo_89 : decode cX2_learnTwo 89 = .ok (.putfield 15, 3) := by decide +kernel
theorem dX2_learnTwo_92 : decode cX2_learnTwo 92 = .ok (.aload_n 0, 1) := by decide +kernel
theorem dX2_learnTwo_93 : decode cX2_learnTwo 93 = .ok (.getfield 18, 3) := by decide +kernel
theorem dX2_learnTwo_96 : decode cX2_learnTwo 96 = .ok (.iload_n 3, 1) := by decide +kernel
theorem dX2_learnTwo_97 : decode cX2_learnTwo 97 = .ok (.dup2, 1) := by decide +kernel
theorem dX2_learnTwo_98 : decode cX2_learnTwo 98 = .ok (.iaload, 1) := by decide +kernel
theorem dX2_learnTwo_99 : decode cX2_learnTwo 99 = .ok (.iload 8, 2) := by decide +kernel
theorem dX2_learnTwo_101 : decode cX2_learnTwo 101 = .ok (.iload 5, 2) := by decide +kernel
theorem dX2_learnTwo_103 : decode cX2_learnTwo 103 = .ok (.ixor, 1) := by decide +kernel
theorem dX2_learnTwo_104 : decode cX2_learnTwo 104 = .ok (.iload 6, 2) := by decide +kernel
theorem dX2_learnTwo_106 : decode cX2_learnTwo 106 = .ok (.ixor, 1) := by decide +kernel
theorem dX2_learnTwo_107 : decode cX2_learnTwo 107 = .ok (.iload 7, 2) := by decide +kernel
theorem dX2_learnTwo_109 : decode cX2_learnTwo 109 = .ok (.ixor, 1) := by decide +kernel
theorem dX2_learnTwo_110 : decode cX2_learnTwo 110 = .ok (.iload 4, 2) := by decide +kernel
theorem dX2_learnTwo_112 : decode cX2_learnTwo 112 = .ok (.ishl, 1) := by decide +kernel
theorem dX2_learnTwo_113 : decode cX2_learnTwo 113 = .ok (.ior, 1) := by decide +kernel
theorem dX2_learnTwo_114 : decode cX2_learnTwo 114 = .ok (.iastore, 1) := by decide +kernel
theorem dX2_learnTwo_115 : decode cX2_learnTwo 115 = .ok (.return_, 1) := by decide +kernel
set_option maxRecDepth 20000 in
theorem ggX2_oddWith_X5_dayOf : GoodIn wsX2_oddWith wsX5_dayOf := goodIn_r _ [6, 7, 8, 9, 10, 11, 12, 13, 14, 15, 16, 17, 18, 19, 20, 21, 22, 23, 24, 25, 26, 27, 28, 29, 30, 31, 32, 33, 34, 35, 36, 37, 38, 39, 40, 41, 42, 43, 44, 45, 46, 47, 48, 5, 49, 50, 51, 52, 53, 54, 55, 56, 57, 58, 59, 60, 61, 62, 63, 64, 65, 66, 67, 68, 69, 70, 71, 72, 73, 74, 75, 76, 77, 78, 79, 80, 81, 82, 83, 84, 85, 86, 87, 88, 89, 90, 91, 92, 93, 94, 95, 96, 97, 98, 99, 100, 101, 102, 103, 104, 105, 106, 107, 108, 109, 110] (by decide +kernel) (by decide +kernel)
set_option maxRecDepth 20000 in
theorem gX2_oddWith_X5_dayOf : GoodIn wsX2_oddWith (wsV RX2 44 RX5 yX5_dayOf wsX5_dayOf) := goodIn_app (goodIn_of _ (by decide +kernel)) ggX2_oddWith_X5_dayOf
theorem dX2_oddWith_0 : decode cX2_oddWith 0 = .ok (.aload_n 1, 1) := by decide +kernel
theorem dX2_oddWith_1 : decode cX2_oddWith 1 = .ok (.iload 4, 2) := by decide +kernel
theorem dX2_oddWith_3 : decode cX2_oddWith 3 = .ok (.putfield 41, 3) := by decide +kernel
theorem dX2_oddWith_6 : decode cX2_oddWith 6 = .ok (.aload_n 0, 1) := by decide +kernel
theorem dX2_oddWith_7 : decode cX2_oddWith 7 = .ok (.aload_n 1, 1) := by decide +kernel
theorem dX2_oddWith_8 : decode cX2_oddWith 8 = .ok (.iload_n 2, 1) := by decide +kernel
theorem dX2_oddWith_9 : decode cX2_oddWith 9 = .ok (.iload_n 3, 1) := by decide +kernel
theorem dX2_oddWith_10 : decode cX2_oddWith 10 = .ok (.invokevirtual 44, 3) := by decide +kernel
theorem dX2_oddWith_13 : decode cX2_oddWith 13 = .ok (.iconst 1, 1) := by decide +kernel
theorem dX2_oddWith_14 : decode cX2_oddWith 14 = .ok (.iand, 1) := by decide +kernel
theorem dX2_oddWith_15 : decode cX2_oddWith 15 = .ok (.ireturn, 1) := by decide +kernel
set_option maxRecDepth 20000 in
theorem ggX2_isOdd_J6_bitCount_0f7a4 : GoodIn wsX2_isOdd wsJ6_bitCount_0f7a4 := goodIn_r _ [7, 8, 9, 10] (by decide +kernel) (by decide +kernel)
set_option maxRecDepth 20000 in
theorem gX2_isOdd_J6_bitCount_0f7a4 : GoodIn wsX2_isOdd (va_wsS RX2 50 yJ6_bitCount_0f7a4 wsJ6_bitCount_0f7a4) := goodIn_app (goodIn_of _ (by decide +kernel)) ggX2_isOdd_J6_bitCount_0f7a4
theorem dX2_isOdd_0 : decode cX2_isOdd 0 = .ok (.aload_n 0, 1) := by decide +kernel
theorem dX2_isOdd_1 : decode cX2_isOdd 1 = .ok (.getfield 9, 3) := by decide +kernel
theorem dX2_isOdd_4 : decode cX2_isOdd 4 = .ok (.aload_n 0, 1) := by decide +kernel
theorem dX2_isOdd_5 : decode cX2_isOdd 5 = .ok (.getfield 15, 3) := by decide +kernel
theorem dX2_isOdd_8 : decode cX2_isOdd 8 = .ok (.iload_n 1, 1) := by decide +kernel
theorem dX2_isOdd_9 : decode cX2_isOdd 9 = .ok (.iand, 1) := by decide +kernel
theorem dX2_isOdd_10 : decode cX2_isOdd 10 = .ok (.invokestatic 50, 3) := by decide +kernel
theorem dX2_isOdd_13 : decode cX2_isOdd 13 = .ok (.iadd, 1) := by decide +kernel
theorem dX2_isOdd_14 : decode cX2_isOdd 14 = .ok (.istore_n 2, 1) := by decide +kernel
theorem dX2_isOdd_15 : decode cX2_isOdd 15 = .ok (.iconst 0, 1) := by decide +kernel
theorem dX2_isOdd_16 : decode cX2_isOdd 16 = .ok (.istore_n 3, 1) := by decide +kernel
theorem dX2_isOdd_17 : decode cX2_isOdd 17 = .ok (.iload_n 3, 1) := by decide +kernel
theorem dX2_isOdd_18 : decode cX2_isOdd 18 = .ok (.bipush 10, 2) := by decide +kernel
theorem dX2_isOdd_20 : decode cX2_isOdd 20 = .ok (.if_icmp .ge 31, 3) := by decide +kernel
theorem dX2_isOdd_23 : decode cX2_isOdd 23 = .ok (.iload_n 1, 1) := by decide +kernel
theorem dX2_isOdd_24 : decode cX2_isOdd 24 = .ok (.iload_n 3, 1) := by decide +kernel
theorem dX2_isOdd_25 : decode cX2_isOdd 25 = .ok (.ishr, 1) := by decide +kernel
theorem dX2_isOdd_26 : decode cX2_isOdd 26 = .ok (.iconst 1, 1) := by decide +kernel
theorem dX2_isOdd_27 : decode cX2_isOdd 27 = .ok (.iand, 1) := by decide +kernel
theorem dX2_isOdd_28 : decode cX2_isOdd 28 = .ok (.ifCond .eq 17, 3) := by decide +kernel
theorem dX2_isOdd_31 : decode cX2_isOdd 31 = .ok (.iload_n 2, 1) := by decide +kernel
theorem dX2_isOdd_32 : decode cX2_isOdd 32 = .ok (.aload_n 0, 1) := by decide +kernel
theorem dX2_isOdd_33 : decode cX2_isOdd 33 = .ok (.getfield 18, 3) := by decide +kernel
theorem dX2_isOdd_36 : decode cX2_isOdd 36 = .ok (.iload_n 3, 1) := by decide +kernel
theorem dX2_isOdd_37 : decode cX2_isOdd 37 = .ok (.iaload, 1) := by decide +kernel
theorem dX2_isOdd_38 : decode cX2_isOdd 38 = .ok (.iload_n 1, 1) := by decide +kernel
theorem dX2_isOdd_39 : decode cX2_isOdd 39 = .ok (.iand, 1) := by decide +kernel
theorem dX2_isOdd_40 : decode cX2_isOdd 40 = .ok (.invokestatic 50, 3) := by decide +kernel
theorem dX2_isOdd_43 : decode cX2_isOdd 43 = .ok (.iadd, 1) := by decide +kernel
theorem dX2_isOdd_44 : decode cX2_isOdd 44 = .ok (.istore_n 2, 1) := by decide +kernel
theorem dX2_isOdd_45 : decode cX2_isOdd 45 = .ok (.iinc 3 1, 3) := by decide +kernel
theorem dX2_isOdd_48 : decode cX2_isOdd 48 = .ok (.goto (-31), 3) := by decide +kernel
theorem dX2_isOdd_51 : decode cX2_isOdd 51 = .ok (.iload_n 2, 1) := by decide +kernel
theorem dX2_isOdd_52 : decode cX2_isOdd 52 = .ok (.iconst 1, 1) := by decide +kernel
theorem dX2_isOdd_53 : decode cX2_isOdd 53 = .ok (.iand, 1) := by decide +kernel
theorem dX2_isOdd_54 : decode cX2_isOdd 54 = .ok (.ifCond .eq 7, 3) := by decide +kernel
theorem dX2_isOdd_57 : decode cX2_isOdd 57 = .ok (.iconst 1, 1) := by decide +kernel
theorem dX2_isOdd_58 : decode cX2_isOdd 58 = .ok (.goto 4, 3) := by decide +kernel
theorem dX2_isOdd_61 : decode cX2_isOdd 61 = .ok (.iconst 0, 1) := by decide +kernel
theorem dX2_isOdd_62 : decode cX2_isOdd 62 = .ok (.ireturn, 1) := by decide +kernel
set_option maxRecDepth 20000 in
theorem ggX2_fewestTurned_J6_bitCount_0f7a4 : GoodIn wsX2_fewestTurned wsJ6_bitCount_0f7a4 := goodIn_r _ [4, 5, 6, 7] (by decide +kernel) (by decide +kernel)
set_option maxRecDepth 20000 in
theorem gX2_fewestTurned_J6_bitCount_0f7a4 : GoodIn wsX2_fewestTurned (va_wsS RX2 50 yJ6_bitCount_0f7a4 wsJ6_bitCount_0f7a4) := goodIn_app (goodIn_of _ (by decide +kernel)) ggX2_fewestTurned_J6_bitCount_0f7a4
set_option maxRecDepth 20000 in
theorem ggX2_fewestTurned_X2_isOdd : GoodIn wsX2_fewestTurned wsX2_isOdd := goodIn_r _ [12, 13, 14, 15, 1, 2, 3, 4, 5, 6, 7, 16, 17, 18] (by decide +kernel) (by decide +kernel)
set_option maxRecDepth 20000 in
theorem gX2_fewestTurned_X2_isOdd : GoodIn wsX2_fewestTurned (wsV RX2 56 RX2 yX2_isOdd wsX2_isOdd) := goodIn_app (goodIn_of _ (by decide +kernel)) ggX2_fewestTurned_X2_isOdd
theorem dX2_fewestTurned_0 : decode cX2_fewestTurned 0 = .ok (.iconst (-1), 1) := by decide +kernel
theorem dX2_fewestTurned_1 : decode cX2_fewestTurned 1 = .ok (.istore_n 3, 1) := by decide +kernel
theorem dX2_fewestTurned_2 : decode cX2_fewestTurned 2 = .ok (.iconst 0, 1) := by decide +kernel
theorem dX2_fewestTurned_3 : decode cX2_fewestTurned 3 = .ok (.istore 4, 2) := by decide +kernel
theorem dX2_fewestTurned_5 : decode cX2_fewestTurned 5 = .ok (.iload 4, 2) := by decide +kernel
theorem dX2_fewestTurned_7 : decode cX2_fewestTurned 7 = .ok (.iconst 1, 1) := by decide +kernel
theorem dX2_fewestTurned_8 : decode cX2_fewestTurned 8 = .ok (.iload_n 1, 1) := by decide +kernel
theorem dX2_fewestTurned_9 : decode cX2_fewestTurned 9 = .ok (.ishl, 1) := by decide +kernel
theorem dX2_fewestTurned_10 : decode cX2_fewestTurned 10 = .ok (.if_icmp .ge 52, 3) := by decide +kernel
theorem dX2_fewestTurned_13 : decode cX2_fewestTurned 13 = .ok (.iload_n 3, 1) := by decide +kernel
theorem dX2_fewestTurned_14 : decode cX2_fewestTurned 14 = .ok (.iconst (-1), 1) := by decide +kernel
theorem dX2_fewestTurned_15 : decode cX2_fewestTurned 15 = .ok (.if_icmp .eq 15, 3) := by decide +kernel
theorem dX2_fewestTurned_18 : decode cX2_fewestTurned 18 = .ok (.iload 4, 2) := by decide +kernel
theorem dX2_fewestTurned_20 : decode cX2_fewestTurned 20 = .ok (.invokestatic 50, 3) := by decide +kernel
theorem dX2_fewestTurned_23 : decode cX2_fewestTurned 23 = .ok (.iload_n 3, 1) := by decide +kernel
theorem dX2_fewestTurned_24 : decode cX2_fewestTurned 24 = .ok (.invokestatic 50, 3) := by decide +kernel
theorem dX2_fewestTurned_27 : decode cX2_fewestTurned 27 = .ok (.if_icmp .ge 7, 3) := by decide +kernel
theorem dX2_fewestTurned_30 : decode cX2_fewestTurned 30 = .ok (.iconst 1, 1) := by decide +kernel
theorem dX2_fewestTurned_31 : decode cX2_fewestTurned 31 = .ok (.goto 4, 3) := by decide +kernel
theorem dX2_fewestTurned_34 : decode cX2_fewestTurned 34 = .ok (.iconst 0, 1) := by decide +kernel
theorem dX2_fewestTurned_35 : decode cX2_fewestTurned 35 = .ok (.istore 5, 2) := by decide +kernel
theorem dX2_fewestTurned_37 : decode cX2_fewestTurned 37 = .ok (.iload 5, 2) := by decide +kernel
theorem dX2_fewestTurned_39 : decode cX2_fewestTurned 39 = .ok (.ifCond .eq 17, 3) := by decide +kernel
theorem dX2_fewestTurned_42 : decode cX2_fewestTurned 42 = .ok (.aload_n 0, 1) := by decide +kernel
theorem dX2_fewestTurned_43 : decode cX2_fewestTurned 43 = .ok (.iload_n 2, 1) := by decide +kernel
theorem dX2_fewestTurned_44 : decode cX2_fewestTurned 44 = .ok (.iload 4, 2) := by decide +kernel
theorem dX2_fewestTurned_46 : decode cX2_fewestTurned 46 = .ok (.ixor, 1) := by decide +kernel
theorem dX2_fewestTurned_47 : decode cX2_fewestTurned 47 = .ok (.invokevirtual 56, 3) := by decide +kernel
theorem dX2_fewestTurned_50 : decode cX2_fewestTurned 50 = .ok (.ifCond .eq 6, 3) := by decide +kernel
theorem dX2_fewestTurned_53 : decode cX2_fewestTurned 53 = .ok (.iload 4, 2) := by decide +kernel
theorem dX2_fewestTurned_55 : decode cX2_fewestTurned 55 = .ok (.istore_n 3, 1) := by decide +kernel
theorem dX2_fewestTurned_56 : decode cX2_fewestTurned 56 = .ok (.iinc 4 1, 3) := by decide +kernel
theorem dX2_fewestTurned_59 : decode cX2_fewestTurned 59 = .ok (.goto (-54), 3) := by decide +kernel
theorem dX2_fewestTurned_62 : decode cX2_fewestTurned 62 = .ok (.iload_n 3, 1) := by decide +kernel
theorem dX2_fewestTurned_63 : decode cX2_fewestTurned 63 = .ok (.ireturn, 1) := by decide +kernel
theorem dX3_init_0 : decode cX3_init 0 = .ok (.aload_n 0, 1) := by decide +kernel
theorem dX3_init_1 : decode cX3_init 1 = .ok (.invokespecial 1, 3) := by decide +kernel
theorem dX3_init_4 : decode cX3_init 4 = .ok (.aload_n 0, 1) := by decide +kernel
theorem dX3_init_5 : decode cX3_init 5 = .ok (.aload_n 1, 1) := by decide +kernel
theorem dX3_init_6 : decode cX3_init 6 = .ok (.putfield 7, 3) := by decide +kernel
theorem dX3_init_9 : decode cX3_init 9 = .ok (.aload_n 0, 1) := by decide +kernel
theorem dX3_init_10 : decode cX3_init 10 = .ok (.iload_n 2, 1) := by decide +kernel
theorem dX3_init_11 : decode cX3_init 11 = .ok (.putfield 13, 3) := by decide +kernel
theorem dX3_init_14 : decode cX3_init 14 = .ok (.return_, 1) := by decide +kernel
set_option maxRecDepth 20000 in
theorem ggX3_worthBy_X3_held : GoodIn wsX3_worthBy wsX3_held := goodIn_r _ [5, 6, 7, 8, 9, 10, 11, 12, 13, 14] (by decide +kernel) (by decide +kernel)
set_option maxRecDepth 20000 in
theorem gX3_worthBy_X3_held : GoodIn wsX3_worthBy (va_wsS RX3 17 yX3_held wsX3_held) := goodIn_app (goodIn_of _ (by decide +kernel)) ggX3_worthBy_X3_held
set_option maxRecDepth 20000 in
theorem ggX3_worthBy_X3_joined : GoodIn wsX3_worthBy wsX3_joined := goodIn_r _ [17] (by decide +kernel) (by decide +kernel)
set_option maxRecDepth 20000 in
theorem gX3_worthBy_X3_joined : GoodIn wsX3_worthBy (va_wsS RX3 21 yX3_joined wsX3_joined) := goodIn_app (goodIn_of _ (by decide +kernel)) ggX3_worthBy_X3_joined
theorem dX3_worthBy_0 : decode cX3_worthBy 0 = .ok (.iconst 0, 1) := by decide +kernel
theorem dX3_worthBy_1 : decode cX3_worthBy 1 = .ok (.istore_n 3, 1) := by decide +kernel
theorem dX3_worthBy_2 : decode cX3_worthBy 2 = .ok (.iconst 0, 1) := by decide +kernel
theorem dX3_worthBy_3 : decode cX3_worthBy 3 = .ok (.istore 4, 2) := by decide +kernel
theorem dX3_worthBy_5 : decode cX3_worthBy 5 = .ok (.iload 4, 2) := by decide +kernel
theorem dX3_worthBy_7 : decode cX3_worthBy 7 = .ok (.aload_n 0, 1) := by decide +kernel
theorem dX3_worthBy_8 : decode cX3_worthBy 8 = .ok (.getfield 7, 3) := by decide +kernel
theorem dX3_worthBy_11 : decode cX3_worthBy 11 = .ok (.arraylength, 1) := by decide +kernel
theorem dX3_worthBy_12 : decode cX3_worthBy 12 = .ok (.if_icmp .ge 182, 3) := by decide +kernel
theorem dX3_worthBy_15 : decode cX3_worthBy 15 = .ok (.aload_n 0, 1) := by decide +kernel
theorem dX3_worthBy_16 : decode cX3_worthBy 16 = .ok (.getfield 7, 3) := by decide +kernel
theorem dX3_worthBy_19 : decode cX3_worthBy 19 = .ok (.iload 4, 2) := by decide +kernel
theorem dX3_worthBy_21 : decode cX3_worthBy 21 = .ok (.iaload, 1) := by decide +kernel
theorem dX3_worthBy_22 : decode cX3_worthBy 22 = .ok (.istore 5, 2) := by decide +kernel
theorem dX3_worthBy_24 : decode cX3_worthBy 24 = .ok (.iload 5, 2) := by decide +kernel
theorem dX3_worthBy_26 : decode cX3_worthBy 26 = .ok (.bipush (-21), 2) := by decide +kernel
theorem dX3_worthBy_28 : decode cX3_worthBy 28 = .ok (.if_icmp .le 48, 3) := by decide +kernel
theorem dX3_worthBy_31 : decode cX3_worthBy 31 = .ok (.iconst (-1), 1) := by decide +kernel
theorem dX3_worthBy_32 : decode cX3_worthBy 32 = .ok (.iload 5, 2) := by decide +kernel
theorem dX3_worthBy_34 : decode cX3_worthBy 34 = .ok (.isub, 1) := by decide +kernel
theorem dX3_worthBy_35 : decode cX3_worthBy 35 = .ok (.istore 6, 2) := by decide +kernel
theorem dX3_worthBy_37 : decode cX3_worthBy 37 = .ok (.iload_n 3, 1) := by decide +kernel
theorem dX3_worthBy_38 : decode cX3_worthBy 38 = .ok (.aload_n 2, 1) := by decide +kernel
theorem dX3_worthBy_39 : decode cX3_worthBy 39 = .ok (.arraylength, 1) := by decide +kernel
theorem dX3_worthBy_40 : decode cX3_worthBy 40 = .ok (.if_icmp .ge 10, 3) := by decide +kernel
theorem dX3_worthBy_43 : decode cX3_worthBy 43 = .ok (.iload 6, 2) := by decide +kernel
theorem dX3_worthBy_45 : decode cX3_worthBy 45 = .ok (.aload_n 1, 1) := by decide +kernel
theorem dX3_worthBy_46 : decode cX3_worthBy 46 = .ok (.arraylength, 1) := by decide +kernel
theorem dX3_worthBy_47 : decode cX3_worthBy 47 = .ok (.if_icmp .lt 5, 3) := by decide +kernel
theorem dX3_worthBy_50 : decode cX3_worthBy 50 = .ok (.iconst 0, 1) := by decide +kernel
theorem dX3_worthBy_51 : decode cX3_worthBy 51 = .ok (.ireturn, 1) := by decide +kernel
theorem dX3_worthBy_52 : decode cX3_worthBy 52 = .ok (.aload_n 2, 1) := by decide +kernel
theorem dX3_worthBy_53 : decode cX3_worthBy 53 = .ok (.iload_n 3, 1) := by decide +kernel
theorem dX3_worthBy_54 : decode cX3_worthBy 54 = .ok (.iload 6, 2) := by decide +kernel
theorem dX3_worthBy_56 : decode cX3_worthBy 56 = .ok (.ifCond .ge 9, 3) := by decide +kernel
theorem dX3_worthBy_59 : decode cX3_worthBy 59 = .ok (.iload 5, 2) := by decide +kernel
theorem dX3_worthBy_61 : decode cX3_worthBy 61 = .ok (.i2l, 1) := by decide +kernel
theorem dX3_worthBy_62 : decode cX3_worthBy 62 = .ok (.goto 7, 3) := by decide +kernel
theorem dX3_worthBy_65 : decode cX3_worthBy 65 = .ok (.aload_n 1, 1) := by decide +kernel
theorem dX3_worthBy_66 : decode cX3_worthBy 66 = .ok (.iload 6, 2) := by decide +kernel
theorem dX3_worthBy_68 : decode cX3_worthBy 68 = .ok (.laload, 1) := by decide +kernel
theorem dX3_worthBy_69 : decode cX3_worthBy 69 = .ok (.lastore, 1) := by decide +kernel
theorem dX3_worthBy_70 : decode cX3_worthBy 70 = .ok (.iinc 3 1, 3) := by decide +kernel
theorem dX3_worthBy_73 : decode cX3_worthBy 73 = .ok (.goto 115, 3) := by decide +kernel
theorem dX3_worthBy_76 : decode cX3_worthBy 76 = .ok (.iload_n 3, 1) := by decide +kernel
theorem dX3_worthBy_77 : decode cX3_worthBy 77 = .ok (.iconst 1, 1) := by decide +kernel
theorem dX3_worthBy_78 : decode cX3_worthBy 78 = .ok (.if_icmp .lt 22, 3) := by decide +kernel
theorem dX3_worthBy_81 : decode cX3_worthBy 81 = .ok (.iload 5, 2) := by decide +kernel
theorem dX3_worthBy_83 : decode cX3_worthBy 83 = .ok (.bipush (-52), 2) := by decide +kernel
theorem dX3_worthBy_85 : decode cX3_worthBy 85 = .ok (.if_icmp .eq 17, 3) := by decide +kernel
theorem dX3_worthBy_88 : decode cX3_worthBy 88 = .ok (.iload 5, 2) := by decide +kernel
theorem dX3_worthBy_90 : decode cX3_worthBy 90 = .ok (.bipush (-43), 2) := by decide +kernel
theorem dX3_worthBy_92 : decode cX3_worthBy 92 = .ok (.if_icmp .eq 10, 3) := by decide +kernel
theorem dX3_worthBy_95 : decode cX3_worthBy 95 = .ok (.iload_n 3, 1) := by decide +kernel
theorem dX3_worthBy_96 : decode cX3_worthBy 96 = .ok (.iconst 2, 1) := by decide +kernel
theorem dX3_worthBy_97 : decode cX3_worthBy 97 = .ok (.if_icmp .ge 5, 3) := by decide +kernel
theorem dX3_worthBy_100 : decode cX3_worthBy 100 = .ok (.iconst 0, 1) := by decide +kernel
theorem dX3_worthBy_101 : decode cX3_worthBy 101 = .ok (.ireturn, 1) := by decide +kernel
theorem dX3_worthBy_102 : decode cX3_worthBy 102 = .ok (.iload 5, 2) := by decide +kernel
theorem dX3_worthBy_104 : decode cX3_worthBy 104 = .ok (.bipush (-52), 2) := by decide +kernel
theorem dX3_worthBy_106 : decode cX3_worthBy 106 = .ok (.if_icmp .ne 12, 3) := by decide +kernel
theorem dX3_worthBy_109 : decode cX3_worthBy 109 = .ok (.aload_n 2, 1) := by decide +kernel
theorem dX3_worthBy_110 : decode cX3_worthBy 110 = .ok (.iload_n 3, 1) := by decide +kernel
theorem dX3_worthBy_111 : decode cX3_worthBy 111 = .ok (.iconst 1, 1) := by decide +kernel
theorem dX3_worthBy_112 : decode cX3_worthBy 112 = .ok (.isub, 1) := by decide +kernel
theorem dX3_worthBy_113 : decode cX3_worthBy 113 = .ok (.laload, 1) := by decide +kernel
theorem dX3_worthBy_114 : decode cX3_worthBy 114 = .ok (.invokestatic 17, 3) := by decide +kernel
theorem dX3_worthBy_117 : decode cX3_worthBy 117 = .ok (.ireturn, 1) := by decide +kernel
theorem dX3_worthBy_118 : decode cX3_worthBy 118 = .ok (.iload 5, 2) := by decide +kernel
theorem dX3_worthBy_120 : decode cX3_worthBy 120 = .ok (.bipush (-43), 2) := by decide +kernel
theorem dX3_worthBy_122 : decode cX3_worthBy 122 = .ok (.if_icmp .ne 18, 3) := by decide +kernel
theorem dX3_worthBy_125 : decode cX3_worthBy 125 = .ok (.aload_n 2, 1) := by decide +kernel
theorem dX3_worthBy_126 : decode cX3_worthBy 126 = .ok (.iload_n 3, 1) := by decide +kernel
theorem dX3_worthBy_127 : decode cX3_worthBy 127 = .ok (.iconst 1, 1) := by decide +kernel
theorem dX3_worthBy_128 : decode cX3_worthBy 128 = .ok (.isub, 1) := by decide +kernel
theorem dX3_worthBy_129 : decode cX3_worthBy 129 = .ok (.lconst 1, 1) := by decide +kernel
theorem dX3_worthBy_130 : decode cX3_worthBy 130 = .ok (.aload_n 2, 1) := by decide +kernel
theorem dX3_worthBy_131 : decode cX3_worthBy 131 = .ok (.iload_n 3, 1) := by decide +kernel
theorem dX3_worthBy_132 : decode cX3_worthBy 132 = .ok (.iconst 1, 1) := by decide +kernel
theorem dX3_worthBy_133 : decode cX3_worthBy 133 = .ok (.isub, 1) := by decide +kernel
theorem dX3_worthBy_134 : decode cX3_worthBy 134 = .ok (.laload, 1) := by decide +kernel
theorem dX3_worthBy_135 : decode cX3_worthBy 135 = .ok (.lsub, 1) := by decide +kernel
theorem dX3_worthBy_136 : decode cX3_worthBy 136 = .ok (.lastore, 1) := by decide +kernel
theorem dX3_worthBy_137 : decode cX3_worthBy 137 = .ok (.goto 51, 3) := by decide +kernel
theorem dX3_worthBy_140 : decode cX3_worthBy 140 = .ok (.iload 5, 2) := by decide +kernel
theorem dX3_worthBy_142 : decode cX3_worthBy 142 = .ok (.bipush (-51), 2) := by decide +kernel
theorem dX3_worthBy_144 : decode cX3_worthBy 144 = .ok (.if_icmp .ne 23, 3) := by decide +kernel
theorem dX3_worthBy_147 : decode cX3_worthBy 147 = .ok (.iinc 3 (-2), 3) := by decide +kernel
theorem dX3_worthBy_150 : decode cX3_worthBy 150 = .ok (.aload_n 2, 1) := by decide +kernel
theorem dX3_worthBy_151 : decode cX3_worthBy 151 = .ok (.iload_n 3, 1) := by decide +kernel
theorem dX3_worthBy_152 : decode cX3_worthBy 152 = .ok (.iconst 1, 1) := by decide +kernel
theorem dX3_worthBy_153 : decode cX3_worthBy 153 = .ok (.iadd, 1) := by decide +kernel
theorem dX3_worthBy_154 : decode cX3_worthBy 154 = .ok (.laload, 1) := by decide +kernel
theorem dX3_worthBy_155 : decode cX3_worthBy 155 = .ok (.lconst 0, 1) := by decide +kernel
theorem dX3_worthBy_156 : decode cX3_worthBy 156 = .ok (.lcmp, 1) := by decide +kernel
theorem dX3_worthBy_157 : decode cX3_worthBy 157 = .ok (.ifCond .eq 31, 3) := by decide +kernel
theorem dX3_worthBy_160 : decode cX3_worthBy 160 = .ok (.aload_n 2, 1) := by decide +kernel
theorem dX3_worthBy_161 : decode cX3_worthBy 161 = .ok (.iload_n 3, 1) := by decide +kernel
theorem dX3_worthBy_162 : decode cX3_worthBy 162 = .ok (.laload, 1) := by decide +kernel
theorem dX3_worthBy_163 : decode cX3_worthBy 163 = .ok (.invokestatic 17, 3) := by decide +kernel
theorem dX3_worthBy_166 : decode cX3_worthBy 166 = .ok (.ireturn, 1) := by decide +kernel
theorem dX3_worthBy_167 : decode cX3_worthBy 167 = .ok (.iinc 3 (-1), 3) := by decide +kernel
theorem dX3_worthBy_170 : decode cX3_worthBy 170 = .ok (.aload_n 2, 1) := by decide +kernel
theorem dX3_worthBy_171 : decode cX3_worthBy 171 = .ok (.iload_n 3, 1) := by decide +kernel
theorem dX3_worthBy_172 : decode cX3_worthBy 172 = .ok (.iconst 1, 1) := by decide +kernel
theorem dX3_worthBy_173 : decode cX3_worthBy 173 = .ok (.isub, 1) := by decide +kernel
theorem dX3_worthBy_174 : decode cX3_worthBy 174 = .ok (.iload 5, 2) := by decide +kernel
theorem dX3_worthBy_176 : decode cX3_worthBy 176 = .ok (.aload_n 2, 1) := by decide +kernel
theorem dX3_worthBy_177 : decode cX3_worthBy 177 = .ok (.iload_n 3, 1) := by decide +kernel
theorem dX3_worthBy_178 : decode cX3_worthBy 178 = .ok (.iconst 1, 1) := by decide +kernel
theorem dX3_worthBy_179 : decode cX3_worthBy 179 = .ok (.isub, 1) := by decide +kernel
theorem dX3_worthBy_180 : decode cX3_worthBy 180 = .ok (.laload, 1) := by decide +kernel
theorem dX3_worthBy_181 : decode cX3_worthBy 181 = .ok (.aload_n 2, 1) := by decide +kernel
theorem dX3_worthBy_182 : decode cX3_worthBy 182 = .ok (.iload_n 3, 1) := by decide +kernel
theorem dX3_worthBy_183 : decode cX3_worthBy 183 = .ok (.laload, 1) := by decide +kernel
theorem dX3_worthBy_184 : decode cX3_worthBy 184 = .ok (.invokestatic 21, 3) := by decide +kernel
theorem dX3_worthBy_187 : decode cX3_worthBy 187 = .ok (.lastore, 1) := by decide +kernel
theorem dX3_worthBy_188 : decode cX3_worthBy 188 = .ok (.iinc 4 1, 3) := by decide +kernel
theorem dX3_worthBy_191 : decode cX3_worthBy 191 = .ok (.goto (-186), 3) := by decide +kernel
theorem dX3_worthBy_194 : decode cX3_worthBy 194 = .ok (.iconst 0, 1) := by decide +kernel
theorem dX3_worthBy_195 : decode cX3_worthBy 195 = .ok (.ireturn, 1) := by decide +kernel
theorem dX3_held_0 : decode cX3_held 0 = .ok (.ldc2_w 25, 3) := by decide +kernel
theorem dX3_held_3 : decode cX3_held 3 = .ok (.ldc2_w 27, 3) := by decide +kernel
theorem dX3_held_6 : decode cX3_held 6 = .ok (.lload_n 0, 1) := by decide +kernel
theorem dX3_held_7 : decode cX3_held 7 = .ok (.invokestatic 29, 3) := by decide +kernel
theorem dX3_held_10 : decode cX3_held 10 = .ok (.invokestatic 35, 3) := by decide +kernel
theorem dX3_held_13 : decode cX3_held 13 = .ok (.l2i, 1) := by decide +kernel
theorem dX3_held_14 : decode cX3_held 14 = .ok (.ireturn, 1) := by decide +kernel
theorem dX3_joined_0 : decode cX3_joined 0 = .ok (.iload_n 0, 1) := by decide +kernel
theorem dX3_joined_1 : decode cX3_joined 1 = .ok (.tableswitch 211 (-42) (-21) #[207, 203, 211, 211, 211, 211, 211, 191, 179, 167, 155, 143, 211, 211, 211, 211, 211, 129, 115, 111, 107, 103], 103) := by decide +kernel
theorem dX3_joined_104 : decode cX3_joined 104 = .ok (.lload_n 1, 1) := by decide +kernel
theorem dX3_joined_105 : decode cX3_joined 105 = .ok (.lload_n 3, 1) := by decide +kernel
theorem dX3_joined_106 : decode cX3_joined 106 = .ok (.ladd, 1) := by decide +kernel
theorem dX3_joined_107 : decode cX3_joined 107 = .ok (.lreturn, 1) := by decide +kernel
theorem dX3_joined_108 : decode cX3_joined 108 = .ok (.lload_n 1, 1) := by decide +kernel
theorem dX3_joined_109 : decode cX3_joined 109 = .ok (.lload_n 3, 1) := by decide +kernel
theorem dX3_joined_110 : decode cX3_joined 110 = .ok (.lsub, 1) := by decide +kernel
theorem dX3_joined_111 : decode cX3_joined 111 = .ok (.lreturn, 1) := by decide +kernel
theorem dX3_joined_112 : decode cX3_joined 112 = .ok (.lload_n 1, 1) := by decide +kernel
theorem dX3_joined_113 : decode cX3_joined 113 = .ok (.lload_n 3, 1) := by decide +kernel
theorem dX3_joined_114 : decode cX3_joined 114 = .ok (.lmul, 1) := by decide +kernel
theorem dX3_joined_115 : decode cX3_joined 115 = .ok (.lreturn, 1) := by decide +kernel
theorem dX3_joined_116 : decode cX3_joined 116 = .ok (.lload_n 3, 1) := by decide +kernel
theorem dX3_joined_117 : decode cX3_joined 117 = .ok (.lconst 0, 1) := by decide +kernel
theorem dX3_joined_118 : decode cX3_joined 118 = .ok (.lcmp, 1) := by decide +kernel
theorem dX3_joined_119 : decode cX3_joined 119 = .ok (.ifCond .ne 7, 3) := by decide +kernel
theorem dX3_joined_122 : decode cX3_joined 122 = .ok (.lconst 0, 1) := by decide +kernel
theorem dX3_joined_123 : decode cX3_joined 123 = .ok (.goto 6, 3) := by decide +kernel
theorem dX3_joined_126 : decode cX3_joined 126 = .ok (.lload_n 1, 1) := by decide +kernel
theorem dX3_joined_127 : decode cX3_joined 127 = .ok (.lload_n 3, 1) := by decide +kernel
theorem dX3_joined_128 : decode cX3_joined 128 = .ok (.ldiv, 1) := by decide +kernel
theorem dX3_joined_129 : decode cX3_joined 129 = .ok (.lreturn, 1) := by decide +kernel
theorem dX3_joined_130 : decode cX3_joined 130 = .ok (.lload_n 3, 1) := by decide +kernel
theorem dX3_joined_131 : decode cX3_joined 131 = .ok (.lconst 0, 1) := by decide +kernel
theorem dX3_joined_132 : decode cX3_joined 132 = .ok (.lcmp, 1) := by decide +kernel
theorem dX3_joined_133 : decode cX3_joined 133 = .ok (.ifCond .ne 7, 3) := by decide +kernel
theorem dX3_joined_136 : decode cX3_joined 136 = .ok (.lconst 0, 1) := by decide +kernel
theorem dX3_joined_137 : decode cX3_joined 137 = .ok (.goto 6, 3) := by decide +kernel
theorem dX3_joined_140 : decode cX3_joined 140 = .ok (.lload_n 1, 1) := by decide +kernel
theorem dX3_joined_141 : decode cX3_joined 141 = .ok (.lload_n 3, 1) := by decide +kernel
theorem dX3_joined_142 : decode cX3_joined 142 = .ok (.lrem, 1) := by decide +kernel
theorem dX3_joined_143 : decode cX3_joined 143 = .ok (.lreturn, 1) := by decide +kernel
theorem dX3_joined_144 : decode cX3_joined 144 = .ok (.lload_n 1, 1) := by decide +kernel
theorem dX3_joined_145 : decode cX3_joined 145 = .ok (.lload_n 3, 1) := by decide +kernel
theorem dX3_joined_146 : decode cX3_joined 146 = .ok (.lcmp, 1) := by decide +kernel
theorem dX3_joined_147 : decode cX3_joined 147 = .ok (.ifCond .ge 7, 3) := by decide +kernel
theorem dX3_joined_150 : decode cX3_joined 150 = .ok (.lconst 1, 1) := by decide +kernel
theorem dX3_joined_151 : decode cX3_joined 151 = .ok (.goto 4, 3) := by decide +kernel
theorem dX3_joined_154 : decode cX3_joined 154 = .ok (.lconst 0, 1) := by decide +kernel
theorem dX3_joined_155 : decode cX3_joined 155 = .ok (.lreturn, 1) := by decide +kernel
theorem dX3_joined_156 : decode cX3_joined 156 = .ok (.lload_n 1, 1) := by decide +kernel
theorem dX3_joined_157 : decode cX3_joined 157 = .ok (.lload_n 3, 1) := by decide +kernel
theorem dX3_joined_158 : decode cX3_joined 158 = .ok (.lcmp, 1) := by decide +kernel
theorem dX3_joined_159 : decode cX3_joined 159 = .ok (.ifCond .gt 7, 3) := by decide +kernel
theorem dX3_joined_162 : decode cX3_joined 162 = .ok (.lconst 1, 1) := by decide +kernel
theorem dX3_joined_163 : decode cX3_joined 163 = .ok (.goto 4, 3) := by decide +kernel
theorem dX3_joined_166 : decode cX3_joined 166 = .ok (.lconst 0, 1) := by decide +kernel
theorem dX3_joined_167 : decode cX3_joined 167 = .ok (.lreturn, 1) := by decide +kernel
theorem dX3_joined_168 : decode cX3_joined 168 = .ok (.lload_n 1, 1) := by decide +kernel
theorem dX3_joined_169 : decode cX3_joined 169 = .ok (.lload_n 3, 1) := by decide +kernel
theorem dX3_joined_170 : decode cX3_joined 170 = .ok (.lcmp, 1) := by decide +kernel
theorem dX3_joined_171 : decode cX3_joined 171 = .ok (.ifCond .ne 7, 3) := by decide +kernel
theorem dX3_joined_174 : decode cX3_joined 174 = .ok (.lconst 1, 1) := by decide +kernel
theorem dX3_joined_175 : decode cX3_joined 175 = .ok (.goto 4, 3) := by decide +kernel
theorem dX3_joined_178 : decode cX3_joined 178 = .ok (.lconst 0, 1) := by decide +kernel
theorem dX3_joined_179 : decode cX3_joined 179 = .ok (.lreturn, 1) := by decide +kernel
theorem dX3_joined_180 : decode cX3_joined 180 = .ok (.lload_n 1, 1) := by decide +kernel
theorem dX3_joined_181 : decode cX3_joined 181 = .ok (.lload_n 3, 1) := by decide +kernel
theorem dX3_joined_182 : decode cX3_joined 182 = .ok (.lcmp, 1) := by decide +kernel
theorem dX3_joined_183 : decode cX3_joined 183 = .ok (.ifCond .lt 7, 3) := by decide +kernel
theorem dX3_joined_186 : decode cX3_joined 186 = .ok (.lconst 1, 1) := by decide +kernel
theorem dX3_joined_187 : decode cX3_joined 187 = .ok (.goto 4, 3) := by decide +kernel
theorem dX3_joined_190 : decode cX3_joined 190 = .ok (.lconst 0, 1) := by decide +kernel
theorem dX3_joined_191 : decode cX3_joined 191 = .ok (.lreturn, 1) := by decide +kernel
theorem dX3_joined_192 : decode cX3_joined 192 = .ok (.lload_n 1, 1) := by decide +kernel
theorem dX3_joined_193 : decode cX3_joined 193 = .ok (.lload_n 3, 1) := by decide +kernel
theorem dX3_joined_194 : decode cX3_joined 194 = .ok (.lcmp, 1) := by decide +kernel
theorem dX3_joined_195 : decode cX3_joined 195 = .ok (.ifCond .le 7, 3) := by decide +kernel
theorem dX3_joined_198 : decode cX3_joined 198 = .ok (.lconst 1, 1) := by decide +kernel
theorem dX3_joined_199 : decode cX3_joined 199 = .ok (.goto 4, 3) := by decide +kernel
theorem dX3_joined_202 : decode cX3_joined 202 = .ok (.lconst 0, 1) := by decide +kernel
theorem dX3_joined_203 : decode cX3_joined 203 = .ok (.lreturn, 1) := by decide +kernel
theorem dX3_joined_204 : decode cX3_joined 204 = .ok (.lload_n 1, 1) := by decide +kernel
theorem dX3_joined_205 : decode cX3_joined 205 = .ok (.lload_n 3, 1) := by decide +kernel
theorem dX3_joined_206 : decode cX3_joined 206 = .ok (.land, 1) := by decide +kernel
theorem dX3_joined_207 : decode cX3_joined 207 = .ok (.lreturn, 1) := by decide +kernel
theorem dX3_joined_208 : decode cX3_joined 208 = .ok (.lload_n 1, 1) := by decide +kernel
theorem dX3_joined_209 : decode cX3_joined 209 = .ok (.lload_n 3, 1) := by decide +kernel
theorem dX3_joined_210 : decode cX3_joined 210 = .ok (.lor, 1) := by decide +kernel
theorem dX3_joined_211 : decode cX3_joined 211 = .ok (.lreturn, 1) := by decide +kernel
theorem dX3_joined_212 : decode cX3_joined 212 = .ok (.lconst 0, 1) := by decide +kernel
theorem dX3_joined_213 : decode cX3_joined 213 = .ok (.lreturn, 1) := by decide +kernel
theorem dX4_init_0 : decode cX4_init 0 = .ok (.aload_n 0, 1) := by decide +kernel
theorem dX4_init_1 : decode cX4_init 1 = .ok (.invokespecial 3, 3) := by decide +kernel
theorem dX4_init_4 : decode cX4_init 4 = .ok (.aload_n 0, 1) := by decide +kernel
theorem dX4_init_5 : decode cX4_init 5 = .ok (.sipush 400, 3) := by decide +kernel
theorem dX4_init_8 : decode cX4_init 8 = .ok (.newarray .int, 2) := by decide +kernel
theorem dX4_init_10 : decode cX4_init 10 = .ok (.putfield 9, 3) := by decide +kernel
theorem dX4_init_13 : decode cX4_init 13 = .ok (.aload_n 0, 1) := by decide +kernel
theorem dX4_init_14 : decode cX4_init 14 = .ok (.iconst 0, 1) := by decide +kernel
theorem dX4_init_15 : decode cX4_init 15 = .ok (.putfield 15, 3) := by decide +kernel
theorem dX4_init_18 : decode cX4_init 18 = .ok (.aload_n 0, 1) := by decide +kernel
theorem dX4_init_19 : decode cX4_init 19 = .ok (.iconst 0, 1) := by decide +kernel
theorem dX4_init_20 : decode cX4_init 20 = .ok (.putfield 19, 3) := by decide +kernel
theorem dX4_init_23 : decode cX4_init 23 = .ok (.aload_n 0, 1) := by decide +kernel
theorem dX4_init_24 : decode cX4_init 24 = .ok (.iconst 0, 1) := by decide +kernel
theorem dX4_init_25 : decode cX4_init 25 = .ok (.putfield 22, 3) := by decide +kernel
theorem dX4_init_28 : decode cX4_init 28 = .ok (.aload_n 0, 1) := by decide +kernel
theorem dX4_init_29 : decode cX4_init 29 = .ok (.aload_n 1, 1) := by decide +kernel
theorem dX4_init_30 : decode cX4_init 30 = .ok (.putfield 26, 3) := by decide +kernel
theorem dX4_init_33 : decode cX4_init 33 = .ok (.return_, 1) := by decide +kernel
set_option maxRecDepth 20000 in
theorem ggX4_made_J7_copyOf_59c91 : GoodIn wsX4_made wsJ7_copyOf_59c91 := goodIn_r _ [10, 11, 12, 13, 14, 15, 16, 17, 18, 19, 20, 21, 22, 23, 24, 25] (by decide +kernel) (by decide +kernel)
set_option maxRecDepth 20000 in
theorem gX4_made_J7_copyOf_59c91 : GoodIn wsX4_made (va_wsS RX4 32 yJ7_copyOf_59c91 wsJ7_copyOf_59c91) := goodIn_app (goodIn_of _ (by decide +kernel)) ggX4_made_J7_copyOf_59c91
set_option maxRecDepth 20000 in
theorem ggX4_made_X3_init : GoodIn wsX4_made wsX3_init := goodIn_r _ [28, 29, 30, 31, 32, 33, 34, 35] (by decide +kernel) (by decide +kernel)
set_option maxRecDepth 20000 in
theorem gX4_made_X3_init : GoodIn wsX4_made (wsX3_init) := ggX4_made_X3_init
theorem dX4_made_0 : decode cX4_made 0 = .ok (.new 30, 3) := by decide +kernel
theorem dX4_made_3 : decode cX4_made 3 = .ok (.dup, 1) := by decide +kernel
theorem dX4_made_4 : decode cX4_made 4 = .ok (.aload_n 0, 1) := by decide +kernel
theorem dX4_made_5 : decode cX4_made 5 = .ok (.getfield 9, 3) := by decide +kernel
theorem dX4_made_8 : decode cX4_made 8 = .ok (.aload_n 0, 1) := by decide +kernel
theorem dX4_made_9 : decode cX4_made 9 = .ok (.getfield 15, 3) := by decide +kernel
theorem dX4_made_12 : decode cX4_made 12 = .ok (.invokestatic 32, 3) := by decide +kernel
theorem dX4_made_15 : decode cX4_made 15 = .ok (.aload_n 0, 1) := by decide +kernel
theorem dX4_made_16 : decode cX4_made 16 = .ok (.getfield 22, 3) := by decide +kernel
theorem dX4_made_19 : decode cX4_made 19 = .ok (.invokespecial 38, 3) := by decide +kernel
theorem dX4_made_22 : decode cX4_made 22 = .ok (.areturn, 1) := by decide +kernel
set_option maxRecDepth 20000 in
theorem ggX4_readRule_X7_startReading : GoodIn wsX4_readRule wsX7_startReading := goodIn_r _ [9, 10, 11, 12, 143, 144, 145, 146, 147] (by decide +kernel) (by decide +kernel)
set_option maxRecDepth 20000 in
theorem gX4_readRule_X7_startReading : GoodIn wsX4_readRule (wsV RX4 41 RX7 yX7_startReading wsX7_startReading) := goodIn_app (goodIn_of _ (by decide +kernel)) ggX4_readRule_X7_startReading
set_option maxRecDepth 20000 in
theorem ggX4_readRule_X4_readHead : GoodIn wsX4_readRule wsX4_readHead := goodIn_r _ [17, 4, 18, 19, 20, 21, 22, 8, 23, 10, 24, 25, 11, 26, 27, 28, 29, 30, 31, 32, 33, 34, 35, 36, 37, 38, 39, 40, 41, 42, 43, 44, 45, 46, 47, 48, 49, 50, 51, 52, 53, 54, 55, 56, 57, 58, 59, 60, 61, 62, 63, 64, 65, 66, 67, 68, 69, 70, 71, 72, 73, 74, 75, 76, 77, 78, 79, 80, 81, 82, 12, 138, 139, 140, 141, 142, 143, 144, 145, 146, 147] (by decide +kernel) (by decide +kernel)
set_option maxRecDepth 20000 in
theorem gX4_readRule_X4_readHead : GoodIn wsX4_readRule (wsV RX4 46 RX4 yX4_readHead wsX4_readHead) := goodIn_app (goodIn_of _ (by decide +kernel)) ggX4_readRule_X4_readHead
set_option maxRecDepth 20000 in
theorem ggX4_readRule_X4_readSum : GoodIn wsX4_readRule wsX4_readSum := goodIn_r _ [86, 4, 87, 88, 89, 16, 90, 18, 91, 3, 2, 19, 92, 27, 28, 8, 29, 10, 24, 25, 93, 94, 95, 96, 97, 98, 99, 100, 11, 26, 101, 102, 103, 104, 105, 106, 80, 81, 82, 12, 20, 21, 22, 23, 30, 31, 32, 33, 34, 35, 36, 37, 38, 39, 40, 41, 42, 43, 44, 45, 46, 47, 48, 49, 50, 51, 52, 53, 54, 55, 56, 57, 58, 59, 60, 61, 62, 63, 64, 65, 66, 67, 68, 69, 70, 71, 72, 73, 74, 75, 76, 77, 78, 79, 107, 108, 109, 110, 1, 111, 112, 113, 114, 115, 138, 139, 140, 141, 142, 143, 144, 145, 146, 147] (by decide +kernel) (by decide +kernel)
set_option maxRecDepth 20000 in
theorem gX4_readRule_X4_readSum : GoodIn wsX4_readRule (wsV RX4 50 RX4 yX4_readSum wsX4_readSum) := goodIn_app (goodIn_of _ (by decide +kernel)) ggX4_readRule_X4_readSum
set_option maxRecDepth 20000 in
theorem ggX4_readRule_X7_takeWord : GoodIn wsX4_readRule wsX7_takeWord := goodIn_r _ [23, 10, 24, 25, 11, 26, 27, 28, 8, 29, 30, 31, 32, 33, 34, 35, 36, 37, 38, 39, 40, 41, 42, 43, 44, 45, 46, 47, 48, 49, 50, 51, 52, 53, 54, 55, 56, 57, 58, 59, 60, 61, 62, 63, 64, 65, 66, 67, 68, 69, 70, 71, 72, 73, 74, 75, 76, 77, 78, 143, 144, 145, 146, 147] (by decide +kernel) (by decide +kernel)
set_option maxRecDepth 20000 in
theorem gX4_readRule_X7_takeWord : GoodIn wsX4_readRule (wsV RX4 56 RX7 yX7_takeWord wsX7_takeWord) := goodIn_app (goodIn_of _ (by decide +kernel)) ggX4_readRule_X7_takeWord
set_option maxRecDepth 20000 in
theorem ggX4_readRule_X4_readTest : GoodIn wsX4_readRule wsX4_readTest := goodIn_r _ [119, 4, 120, 121, 122, 16, 20, 21, 22, 8, 23, 10, 24, 25, 11, 26, 27, 28, 29, 30, 31, 32, 33, 34, 35, 36, 37, 38, 39, 40, 41, 42, 43, 44, 45, 46, 47, 48, 49, 50, 51, 52, 53, 54, 55, 56, 57, 58, 59, 60, 61, 62, 63, 64, 65, 66, 67, 68, 69, 70, 71, 72, 73, 74, 75, 76, 77, 78, 107, 108, 109, 110, 1, 111, 123, 19, 112, 113, 114, 115, 102, 103, 104, 105, 83, 84, 85, 86, 87, 88, 89, 90, 18, 91, 3, 2, 92, 93, 94, 95, 96, 97, 98, 99, 100, 101, 106, 80, 81, 82, 12, 79, 124, 125, 126, 127, 128, 116, 117, 118, 129, 130, 131, 132, 133, 138, 139, 140, 141, 142, 143, 144, 145, 146, 147] (by decide +kernel) (by decide +kernel)
set_option maxRecDepth 20000 in
theorem gX4_readRule_X4_readTest : GoodIn wsX4_readRule (wsV RX4 60 RX4 yX4_readTest wsX4_readTest) := goodIn_app (goodIn_of _ (by decide +kernel)) ggX4_readRule_X4_readTest
set_option maxRecDepth 20000 in
theorem ggX4_readRule_X4_write : GoodIn wsX4_readRule wsX4_write := goodIn_r _ [110, 1, 111, 138, 139, 140, 141, 142] (by decide +kernel) (by decide +kernel)
set_option maxRecDepth 20000 in
theorem gX4_readRule_X4_write : GoodIn wsX4_readRule (wsV RX4 63 RX4 yX4_write wsX4_write) := goodIn_app (goodIn_of _ (by decide +kernel)) ggX4_readRule_X4_write
set_option maxRecDepth 20000 in
theorem ggX4_readRule_X7_isAtEnd : GoodIn wsX4_readRule wsX7_isAtEnd := goodIn_r _ [137, 10, 24, 26, 27, 28, 8, 29, 25, 143, 144, 145, 146, 147] (by decide +kernel) (by decide +kernel)
set_option maxRecDepth 20000 in
theorem gX4_readRule_X7_isAtEnd : GoodIn wsX4_readRule (wsV RX4 66 RX7 yX7_isAtEnd wsX7_isAtEnd) := goodIn_app (goodIn_of _ (by decide +kernel)) ggX4_readRule_X7_isAtEnd
set_option maxRecDepth 20000 in
theorem ggX4_readRule_X7_needSign : GoodIn wsX4_readRule wsX7_needSign := goodIn_r _ [132, 10, 133, 113, 114, 8, 115, 11, 26, 27, 28, 29, 24, 25, 30, 31, 32, 33, 34, 35, 36, 37, 38, 39, 40, 41, 102, 103, 104, 105, 42, 43, 44, 45, 46, 47, 48, 49, 50, 51, 52, 53, 54, 55, 56, 57, 58, 59, 60, 61, 62, 63, 64, 65, 66, 67, 68, 69, 70, 71, 72, 73, 74, 75, 76, 77, 78, 106, 80, 81, 82, 12, 143, 144, 145, 146, 147] (by decide +kernel) (by decide +kernel)
set_option maxRecDepth 20000 in
theorem gX4_readRule_X7_needSign : GoodIn wsX4_readRule (wsV RX4 71 RX7 yX7_needSign wsX7_needSign) := goodIn_app (goodIn_of _ (by decide +kernel)) ggX4_readRule_X7_needSign
theorem dX4_readRule_0 : decode cX4_readRule 0 = .ok (.aload_n 0, 1) := by decide +kernel
theorem dX4_readRule_1 : decode cX4_readRule 1 = .ok (.iconst 0, 1) := by decide +kernel
theorem dX4_readRule_2 : decode cX4_readRule 2 = .ok (.putfield 15, 3) := by decide +kernel
theorem dX4_readRule_5 : decode cX4_readRule 5 = .ok (.aload_n 0, 1) := by decide +kernel
theorem dX4_readRule_6 : decode cX4_readRule 6 = .ok (.iconst 0, 1) := by decide +kernel
theorem dX4_readRule_7 : decode cX4_readRule 7 = .ok (.putfield 19, 3) := by decide +kernel
theorem dX4_readRule_10 : decode cX4_readRule 10 = .ok (.aload_n 0, 1) := by decide +kernel
theorem dX4_readRule_11 : decode cX4_readRule 11 = .ok (.iconst 0, 1) := by decide +kernel
theorem dX4_readRule_12 : decode cX4_readRule 12 = .ok (.putfield 22, 3) := by decide +kernel
theorem dX4_readRule_15 : decode cX4_readRule 15 = .ok (.aload_n 0, 1) := by decide +kernel
theorem dX4_readRule_16 : decode cX4_readRule 16 = .ok (.getfield 26, 3) := by decide +kernel
theorem dX4_readRule_19 : decode cX4_readRule 19 = .ok (.invokevirtual 41, 3) := by decide +kernel
theorem dX4_readRule_22 : decode cX4_readRule 22 = .ok (.iconst 0, 1) := by decide +kernel
theorem dX4_readRule_23 : decode cX4_readRule 23 = .ok (.istore_n 1, 1) := by decide +kernel
theorem dX4_readRule_24 : decode cX4_readRule 24 = .ok (.iload_n 1, 1) := by decide +kernel
theorem dX4_readRule_25 : decode cX4_readRule 25 = .ok (.bipush 12, 2) := by decide +kernel
theorem dX4_readRule_27 : decode cX4_readRule 27 = .ok (.if_icmp .gt 101, 3) := by decide +kernel
theorem dX4_readRule_30 : decode cX4_readRule 30 = .ok (.aload_n 0, 1) := by decide +kernel
theorem dX4_readRule_31 : decode cX4_readRule 31 = .ok (.iload_n 1, 1) := by decide +kernel
theorem dX4_readRule_32 : decode cX4_readRule 32 = .ok (.invokevirtual 46, 3) := by decide +kernel
theorem dX4_readRule_35 : decode cX4_readRule 35 = .ok (.ifCond .eq 10, 3) := by decide +kernel
theorem dX4_readRule_38 : decode cX4_readRule 38 = .ok (.aload_n 0, 1) := by decide +kernel
theorem dX4_readRule_39 : decode cX4_readRule 39 = .ok (.invokevirtual 50, 3) := by decide +kernel
theorem dX4_readRule_42 : decode cX4_readRule 42 = .ok (.ifCond .ne 5, 3) := by decide +kernel
theorem dX4_readRule_45 : decode cX4_readRule 45 = .ok (.iconst 0, 1) := by decide +kernel
theorem dX4_readRule_46 : decode cX4_readRule 46 = .ok (.ireturn, 1) := by decide +kernel
theorem dX4_readRule_47 : decode cX4_readRule 47 = .ok (.aload_n 0, 1) := by decide +kernel
theorem dX4_readRule_48 : decode cX4_readRule 48 = .ok (.getfield 26, 3) := by decide +kernel
theorem dX4_readRule_51 : decode cX4_readRule 51 = .ok (.ldc 54, 2) := by decide +kernel
theorem dX4_readRule_53 : decode cX4_readRule 53 = .ok (.invokevirtual 56, 3) := by decide +kernel
theorem dX4_readRule_56 : decode cX4_readRule 56 = .ok (.iconst (-1), 1) := by decide +kernel
theorem dX4_readRule_57 : decode cX4_readRule 57 = .ok (.if_icmp .eq 7, 3) := by decide +kernel
theorem dX4_readRule_60 : decode cX4_readRule 60 = .ok (.iconst 1, 1) := by decide +kernel
theorem dX4_readRule_61 : decode cX4_readRule 61 = .ok (.goto 4, 3) := by decide +kernel
theorem dX4_readRule_64 : decode cX4_readRule 64 = .ok (.iconst 0, 1) := by decide +kernel
theorem dX4_readRule_65 : decode cX4_readRule 65 = .ok (.istore_n 2, 1) := by decide +kernel
theorem dX4_readRule_66 : decode cX4_readRule 66 = .ok (.iload_n 2, 1) := by decide +kernel
theorem dX4_readRule_67 : decode cX4_readRule 67 = .ok (.ifCond .eq 13, 3) := by decide +kernel
theorem dX4_readRule_70 : decode cX4_readRule 70 = .ok (.aload_n 0, 1) := by decide +kernel
theorem dX4_readRule_71 : decode cX4_readRule 71 = .ok (.iconst 0, 1) := by decide +kernel
theorem dX4_readRule_72 : decode cX4_readRule 72 = .ok (.invokevirtual 60, 3) := by decide +kernel
theorem dX4_readRule_75 : decode cX4_readRule 75 = .ok (.ifCond .ne 5, 3) := by decide +kernel
theorem dX4_readRule_78 : decode cX4_readRule 78 = .ok (.iconst 0, 1) := by decide +kernel
theorem dX4_readRule_79 : decode cX4_readRule 79 = .ok (.ireturn, 1) := by decide +kernel
theorem dX4_readRule_80 : decode cX4_readRule 80 = .ok (.aload_n 0, 1) := by decide +kernel
theorem dX4_readRule_81 : decode cX4_readRule 81 = .ok (.iload_n 2, 1) := by decide +kernel
theorem dX4_readRule_82 : decode cX4_readRule 82 = .ok (.ifCond .eq 8, 3) := by decide +kernel
theorem dX4_readRule_85 : decode cX4_readRule 85 = .ok (.bipush (-51), 2) := by decide +kernel
theorem dX4_readRule_87 : decode cX4_readRule 87 = .ok (.goto 5, 3) := by decide +kernel
theorem dX4_readRule_90 : decode cX4_readRule 90 = .ok (.bipush (-52), 2) := by decide +kernel
theorem dX4_readRule_92 : decode cX4_readRule 92 = .ok (.invokevirtual 63, 3) := by decide +kernel
theorem dX4_readRule_95 : decode cX4_readRule 95 = .ok (.pop, 1) := by decide +kernel
theorem dX4_readRule_96 : decode cX4_readRule 96 = .ok (.aload_n 0, 1) := by decide +kernel
theorem dX4_readRule_97 : decode cX4_readRule 97 = .ok (.getfield 26, 3) := by decide +kernel
theorem dX4_readRule_100 : decode cX4_readRule 100 = .ok (.invokevirtual 66, 3) := by decide +kernel
theorem dX4_readRule_103 : decode cX4_readRule 103 = .ok (.ifCond .eq 5, 3) := by decide +kernel
theorem dX4_readRule_106 : decode cX4_readRule 106 = .ok (.iconst 1, 1) := by decide +kernel
theorem dX4_readRule_107 : decode cX4_readRule 107 = .ok (.ireturn, 1) := by decide +kernel
theorem dX4_readRule_108 : decode cX4_readRule 108 = .ok (.aload_n 0, 1) := by decide +kernel
theorem dX4_readRule_109 : decode cX4_readRule 109 = .ok (.getfield 26, 3) := by decide +kernel
theorem dX4_readRule_112 : decode cX4_readRule 112 = .ok (.ldc 69, 2) := by decide +kernel
theorem dX4_readRule_114 : decode cX4_readRule 114 = .ok (.invokevirtual 71, 3) := by decide +kernel
theorem dX4_readRule_117 : decode cX4_readRule 117 = .ok (.ifCond .ne 5, 3) := by decide +kernel
theorem dX4_readRule_120 : decode cX4_readRule 120 = .ok (.iconst 0, 1) := by decide +kernel
theorem dX4_readRule_121 : decode cX4_readRule 121 = .ok (.ireturn, 1) := by decide +kernel
theorem dX4_readRule_122 : decode cX4_readRule 122 = .ok (.iinc 1 1, 3) := by decide +kernel
theorem dX4_readRule_125 : decode cX4_readRule 125 = .ok (.goto (-101), 3) := by decide +kernel
theorem dX4_readRule_128 : decode cX4_readRule 128 = .ok (.iconst 0, 1) := by decide +kernel
theorem dX4_readRule_129 : decode cX4_readRule 129 = .ok (.ireturn, 1) := by decide +kernel
set_option maxRecDepth 20000 in
theorem ggX4_readHead_X7_takeWord : GoodIn wsX4_readHead wsX7_takeWord := goodIn_r _ [8, 9, 10, 11, 12, 13, 14, 15, 7, 16, 17, 18, 19, 20, 21, 22, 23, 24, 25, 26, 27, 28, 29, 30, 31, 32, 33, 34, 35, 36, 37, 38, 39, 40, 41, 42, 43, 44, 45, 46, 47, 48, 49, 50, 51, 52, 53, 54, 55, 56, 57, 58, 59, 60, 61, 62, 63, 64, 65, 76, 77, 78, 79, 80] (by decide +kernel) (by decide +kernel)
set_option maxRecDepth 20000 in
theorem gX4_readHead_X7_takeWord : GoodIn wsX4_readHead (wsV RX4 56 RX7 yX7_takeWord wsX7_takeWord) := goodIn_app (goodIn_of _ (by decide +kernel)) ggX4_readHead_X7_takeWord
set_option maxRecDepth 20000 in
theorem ggX4_readHead_X7_blame : GoodIn wsX4_readHead wsX7_blame := goodIn_r _ [69, 70, 76, 77, 78, 79, 80] (by decide +kernel) (by decide +kernel)
set_option maxRecDepth 20000 in
theorem gX4_readHead_X7_blame : GoodIn wsX4_readHead (wsV RX4 80 RX7 yX7_blame wsX7_blame) := goodIn_app (goodIn_of _ (by decide +kernel)) ggX4_readHead_X7_blame
theorem dX4_readHead_0 : decode cX4_readHead 0 = .ok (.aload_n 0, 1) := by decide +kernel
theorem dX4_readHead_1 : decode cX4_readHead 1 = .ok (.getfield 26, 3) := by decide +kernel
theorem dX4_readHead_4 : decode cX4_readHead 4 = .ok (.ldc 75, 2) := by decide +kernel
theorem dX4_readHead_6 : decode cX4_readHead 6 = .ok (.invokevirtual 56, 3) := by decide +kernel
theorem dX4_readHead_9 : decode cX4_readHead 9 = .ok (.iconst (-1), 1) := by decide +kernel
theorem dX4_readHead_10 : decode cX4_readHead 10 = .ok (.if_icmp .ne 19, 3) := by decide +kernel
theorem dX4_readHead_13 : decode cX4_readHead 13 = .ok (.aload_n 0, 1) := by decide +kernel
theorem dX4_readHead_14 : decode cX4_readHead 14 = .ok (.getfield 26, 3) := by decide +kernel
theorem dX4_readHead_17 : decode cX4_readHead 17 = .ok (.aload_n 0, 1) := by decide +kernel
theorem dX4_readHead_18 : decode cX4_readHead 18 = .ok (.getfield 26, 3) := by decide +kernel
theorem dX4_readHead_21 : decode cX4_readHead 21 = .ok (.getfield 77, 3) := by decide +kernel
theorem dX4_readHead_24 : decode cX4_readHead 24 = .ok (.iconst 0, 1) := by decide +kernel
theorem dX4_readHead_25 : decode cX4_readHead 25 = .ok (.invokevirtual 80, 3) := by decide +kernel
theorem dX4_readHead_28 : decode cX4_readHead 28 = .ok (.ireturn, 1) := by decide +kernel
theorem dX4_readHead_29 : decode cX4_readHead 29 = .ok (.iload_n 1, 1) := by decide +kernel
theorem dX4_readHead_30 : decode cX4_readHead 30 = .ok (.bipush 12, 2) := by decide +kernel
theorem dX4_readHead_32 : decode cX4_readHead 32 = .ok (.if_icmp .lt 21, 3) := by decide +kernel
theorem dX4_readHead_35 : decode cX4_readHead 35 = .ok (.aload_n 0, 1) := by decide +kernel
theorem dX4_readHead_36 : decode cX4_readHead 36 = .ok (.getfield 26, 3) := by decide +kernel
theorem dX4_readHead_39 : decode cX4_readHead 39 = .ok (.aload_n 0, 1) := by decide +kernel
theorem dX4_readHead_40 : decode cX4_readHead 40 = .ok (.getfield 26, 3) := by decide +kernel
theorem dX4_readHead_43 : decode cX4_readHead 43 = .ok (.getfield 84, 3) := by decide +kernel
theorem dX4_readHead_46 : decode cX4_readHead 46 = .ok (.iconst 4, 1) := by decide +kernel
theorem dX4_readHead_47 : decode cX4_readHead 47 = .ok (.invokevirtual 80, 3) := by decide +kernel
theorem dX4_readHead_50 : decode cX4_readHead 50 = .ok (.ifCond .eq 7, 3) := by decide +kernel
theorem dX4_readHead_53 : decode cX4_readHead 53 = .ok (.iconst 1, 1) := by decide +kernel
theorem dX4_readHead_54 : decode cX4_readHead 54 = .ok (.goto 4, 3) := by decide +kernel
theorem dX4_readHead_57 : decode cX4_readHead 57 = .ok (.iconst 0, 1) := by decide +kernel
theorem dX4_readHead_58 : decode cX4_readHead 58 = .ok (.ireturn, 1) := by decide +kernel
set_option maxRecDepth 20000 in
theorem ggX4_readTest_X4_readFact : GoodIn wsX4_readTest wsX4_readFact := goodIn_r _ [74, 1, 75, 76, 77, 78, 9, 79, 11, 14, 15, 16, 17, 18, 12, 13, 19, 20, 21, 22, 23, 24, 25, 26, 27, 28, 29, 30, 80, 81, 82, 83, 31, 32, 33, 34, 35, 36, 37, 38, 39, 40, 41, 42, 43, 44, 45, 46, 47, 48, 49, 50, 51, 52, 53, 54, 55, 56, 57, 58, 59, 60, 61, 62, 63, 64, 65, 66, 67, 6, 7, 8, 10, 84, 85, 86, 5, 87, 88, 89, 90, 91, 92, 93, 94, 95, 96, 97, 98, 99, 100, 101, 102, 103, 104, 105, 106, 107, 108, 109, 110, 111, 68, 69, 70, 71, 72, 73, 112, 113, 114, 115, 116, 2, 3, 4, 117, 118, 119, 120, 121, 122, 123, 124, 0, 125, 126, 127, 128, 129, 130, 131, 132, 133, 134] (by decide +kernel) (by decide +kernel)
set_option maxRecDepth 20000 in
theorem gX4_readTest_X4_readFact : GoodIn wsX4_readTest (wsV RX4 87 RX4 yX4_readFact wsX4_readFact) := goodIn_app (goodIn_of _ (by decide +kernel)) ggX4_readTest_X4_readFact
set_option maxRecDepth 20000 in
theorem ggX4_readTest_X7_takeWord : GoodIn wsX4_readTest wsX7_takeWord := goodIn_r _ [10, 11, 12, 13, 14, 15, 16, 17, 9, 18, 19, 20, 21, 22, 23, 24, 25, 26, 27, 28, 29, 30, 31, 32, 33, 34, 35, 36, 37, 38, 39, 40, 41, 42, 43, 44, 45, 46, 47, 48, 49, 50, 51, 52, 53, 54, 55, 56, 57, 58, 59, 60, 61, 62, 63, 64, 65, 66, 67, 130, 131, 132, 133, 134] (by decide +kernel) (by decide +kernel)
set_option maxRecDepth 20000 in
theorem gX4_readTest_X7_takeWord : GoodIn wsX4_readTest (wsV RX4 56 RX7 yX7_takeWord wsX7_takeWord) := goodIn_app (goodIn_of _ (by decide +kernel)) ggX4_readTest_X7_takeWord
set_option maxRecDepth 20000 in
theorem ggX4_readTest_X4_write : GoodIn wsX4_readTest wsX4_write := goodIn_r _ [71, 72, 73, 125, 126, 127, 128, 129] (by decide +kernel) (by decide +kernel)
set_option maxRecDepth 20000 in
theorem gX4_readTest_X4_write : GoodIn wsX4_readTest (wsV RX4 63 RX4 yX4_write wsX4_write) := goodIn_app (goodIn_of _ (by decide +kernel)) ggX4_readTest_X4_write
theorem dX4_readTest_0 : decode cX4_readTest 0 = .ok (.aload_n 0, 1) := by decide +kernel
theorem dX4_readTest_1 : decode cX4_readTest 1 = .ok (.iload_n 1, 1) := by decide +kernel
theorem dX4_readTest_2 : decode cX4_readTest 2 = .ok (.invokevirtual 87, 3) := by decide +kernel
theorem dX4_readTest_5 : decode cX4_readTest 5 = .ok (.ifCond .ne 5, 3) := by decide +kernel
theorem dX4_readTest_8 : decode cX4_readTest 8 = .ok (.iconst 0, 1) := by decide +kernel
theorem dX4_readTest_9 : decode cX4_readTest 9 = .ok (.ireturn, 1) := by decide +kernel
theorem dX4_readTest_10 : decode cX4_readTest 10 = .ok (.iconst 0, 1) := by decide +kernel
theorem dX4_readTest_11 : decode cX4_readTest 11 = .ok (.istore_n 2, 1) := by decide +kernel
theorem dX4_readTest_12 : decode cX4_readTest 12 = .ok (.iconst 0, 1) := by decide +kernel
theorem dX4_readTest_13 : decode cX4_readTest 13 = .ok (.istore_n 3, 1) := by decide +kernel
theorem dX4_readTest_14 : decode cX4_readTest 14 = .ok (.iload_n 3, 1) := by decide +kernel
theorem dX4_readTest_15 : decode cX4_readTest 15 = .ok (.sipush 400, 3) := by decide +kernel
theorem dX4_readTest_18 : decode cX4_readTest 18 = .ok (.if_icmp .ge 85, 3) := by decide +kernel
theorem dX4_readTest_21 : decode cX4_readTest 21 = .ok (.aload_n 0, 1) := by decide +kernel
theorem dX4_readTest_22 : decode cX4_readTest 22 = .ok (.getfield 26, 3) := by decide +kernel
theorem dX4_readTest_25 : decode cX4_readTest 25 = .ok (.ldc 90, 2) := by decide +kernel
theorem dX4_readTest_27 : decode cX4_readTest 27 = .ok (.invokevirtual 56, 3) := by decide +kernel
theorem dX4_readTest_30 : decode cX4_readTest 30 = .ok (.istore 4, 2) := by decide +kernel
theorem dX4_readTest_32 : decode cX4_readTest 32 = .ok (.iload 4, 2) := by decide +kernel
theorem dX4_readTest_34 : decode cX4_readTest 34 = .ok (.iconst (-1), 1) := by decide +kernel
theorem dX4_readTest_35 : decode cX4_readTest 35 = .ok (.if_icmp .ne 6, 3) := by decide +kernel
theorem dX4_readTest_38 : decode cX4_readTest 38 = .ok (.goto 65, 3) := by decide +kernel
theorem dX4_readTest_41 : decode cX4_readTest 41 = .ok (.iload 4, 2) := by decide +kernel
theorem dX4_readTest_43 : decode cX4_readTest 43 = .ok (.iconst 1, 1) := by decide +kernel
theorem dX4_readTest_44 : decode cX4_readTest 44 = .ok (.if_icmp .ne 7, 3) := by decide +kernel
theorem dX4_readTest_47 : decode cX4_readTest 47 = .ok (.iconst 1, 1) := by decide +kernel
theorem dX4_readTest_48 : decode cX4_readTest 48 = .ok (.goto 4, 3) := by decide +kernel
theorem dX4_readTest_51 : decode cX4_readTest 51 = .ok (.iconst 0, 1) := by decide +kernel
theorem dX4_readTest_52 : decode cX4_readTest 52 = .ok (.istore 5, 2) := by decide +kernel
theorem dX4_readTest_54 : decode cX4_readTest 54 = .ok (.iload 5, 2) := by decide +kernel
theorem dX4_readTest_56 : decode cX4_readTest 56 = .ok (.ifCond .eq 14, 3) := by decide +kernel
theorem dX4_readTest_59 : decode cX4_readTest 59 = .ok (.iload_n 2, 1) := by decide +kernel
theorem dX4_readTest_60 : decode cX4_readTest 60 = .ok (.ifCond .eq 10, 3) := by decide +kernel
theorem dX4_readTest_63 : decode cX4_readTest 63 = .ok (.aload_n 0, 1) := by decide +kernel
theorem dX4_readTest_64 : decode cX4_readTest 64 = .ok (.bipush (-42), 2) := by decide +kernel
theorem dX4_readTest_66 : decode cX4_readTest 66 = .ok (.invokevirtual 63, 3) := by decide +kernel
theorem dX4_readTest_69 : decode cX4_readTest 69 = .ok (.pop, 1) := by decide +kernel
theorem dX4_readTest_70 : decode cX4_readTest 70 = .ok (.iload_n 2, 1) := by decide +kernel
theorem dX4_readTest_71 : decode cX4_readTest 71 = .ok (.iload 5, 2) := by decide +kernel
theorem dX4_readTest_73 : decode cX4_readTest 73 = .ok (.ior, 1) := by decide +kernel
theorem dX4_readTest_74 : decode cX4_readTest 74 = .ok (.istore_n 2, 1) := by decide +kernel
theorem dX4_readTest_75 : decode cX4_readTest 75 = .ok (.aload_n 0, 1) := by decide +kernel
theorem dX4_readTest_76 : decode cX4_readTest 76 = .ok (.iload_n 1, 1) := by decide +kernel
theorem dX4_readTest_77 : decode cX4_readTest 77 = .ok (.invokevirtual 87, 3) := by decide +kernel
theorem dX4_readTest_80 : decode cX4_readTest 80 = .ok (.ifCond .ne 5, 3) := by decide +kernel
theorem dX4_readTest_83 : decode cX4_readTest 83 = .ok (.iconst 0, 1) := by decide +kernel
theorem dX4_readTest_84 : decode cX4_readTest 84 = .ok (.ireturn, 1) := by decide +kernel
theorem dX4_readTest_85 : decode cX4_readTest 85 = .ok (.iload 5, 2) := by decide +kernel
theorem dX4_readTest_87 : decode cX4_readTest 87 = .ok (.ifCond .ne 10, 3) := by decide +kernel
theorem dX4_readTest_90 : decode cX4_readTest 90 = .ok (.aload_n 0, 1) := by decide +kernel
theorem dX4_readTest_91 : decode cX4_readTest 91 = .ok (.bipush (-41), 2) := by decide +kernel
theorem dX4_readTest_93 : decode cX4_readTest 93 = .ok (.invokevirtual 63, 3) := by decide +kernel
theorem dX4_readTest_96 : decode cX4_readTest 96 = .ok (.pop, 1) := by decide +kernel
theorem dX4_readTest_97 : decode cX4_readTest 97 = .ok (.iinc 3 1, 3) := by decide +kernel
theorem dX4_readTest_100 : decode cX4_readTest 100 = .ok (.goto (-86), 3) := by decide +kernel
theorem dX4_readTest_103 : decode cX4_readTest 103 = .ok (.iload_n 2, 1) := by decide +kernel
theorem dX4_readTest_104 : decode cX4_readTest 104 = .ok (.ifCond .eq 12, 3) := by decide +kernel
theorem dX4_readTest_107 : decode cX4_readTest 107 = .ok (.aload_n 0, 1) := by decide +kernel
theorem dX4_readTest_108 : decode cX4_readTest 108 = .ok (.bipush (-42), 2) := by decide +kernel
theorem dX4_readTest_110 : decode cX4_readTest 110 = .ok (.invokevirtual 63, 3) := by decide +kernel
theorem dX4_readTest_113 : decode cX4_readTest 113 = .ok (.ifCond .eq 7, 3) := by decide +kernel
theorem dX4_readTest_116 : decode cX4_readTest 116 = .ok (.iconst 1, 1) := by decide +kernel
theorem dX4_readTest_117 : decode cX4_readTest 117 = .ok (.goto 4, 3) := by decide +kernel
theorem dX4_readTest_120 : decode cX4_readTest 120 = .ok (.iconst 0, 1) := by decide +kernel
theorem dX4_readTest_121 : decode cX4_readTest 121 = .ok (.ireturn, 1) := by decide +kernel
set_option maxRecDepth 20000 in
theorem ggX4_readFact_X7_takeSignOf : GoodIn wsX4_readFact wsX7_takeSignOf := goodIn_r _ [7, 8, 9, 10, 11, 12, 6, 13, 14, 15, 16, 17, 18, 19, 20, 21, 22, 23, 24, 25, 26, 27, 28, 29, 30, 31, 32, 33, 34, 35, 36, 37, 38, 39, 40, 41, 42, 43, 44, 45, 46, 47, 48, 49, 50, 51, 52, 53, 54, 55, 56, 57, 58, 59, 60, 61, 62, 63, 64, 65, 66, 67, 68, 130, 131, 132, 133, 134] (by decide +kernel) (by decide +kernel)
set_option maxRecDepth 20000 in
theorem gX4_readFact_X7_takeSignOf : GoodIn wsX4_readFact (wsV RX4 94 RX7 yX7_takeSignOf wsX7_takeSignOf) := goodIn_app (goodIn_of _ (by decide +kernel)) ggX4_readFact_X7_takeSignOf
set_option maxRecDepth 20000 in
theorem ggX4_readFact_X7_takeWord : GoodIn wsX4_readFact wsX7_takeWord := goodIn_r _ [72, 8, 14, 15, 9, 10, 11, 12, 6, 13, 16, 17, 18, 19, 20, 21, 22, 23, 24, 25, 26, 27, 32, 33, 34, 35, 36, 37, 38, 39, 40, 41, 42, 43, 44, 45, 46, 47, 48, 49, 50, 51, 52, 53, 54, 55, 56, 57, 58, 59, 60, 61, 62, 63, 64, 65, 66, 67, 68, 130, 131, 132, 133, 134] (by decide +kernel) (by decide +kernel)
set_option maxRecDepth 20000 in
theorem gX4_readFact_X7_takeWord : GoodIn wsX4_readFact (wsV RX4 56 RX7 yX7_takeWord wsX7_takeWord) := goodIn_app (goodIn_of _ (by decide +kernel)) ggX4_readFact_X7_takeWord
set_option maxRecDepth 20000 in
theorem ggX4_readFact_X4_readSum : GoodIn wsX4_readFact wsX4_readSum := goodIn_r _ [77, 1, 78, 79, 80, 76, 81, 82, 83, 84, 85, 2, 86, 11, 12, 6, 13, 8, 14, 15, 87, 88, 89, 90, 91, 92, 93, 94, 9, 10, 95, 28, 29, 30, 31, 96, 97, 98, 99, 100, 69, 70, 71, 72, 16, 17, 18, 19, 20, 21, 22, 23, 24, 25, 26, 27, 32, 33, 34, 35, 36, 37, 38, 39, 40, 41, 42, 43, 44, 45, 46, 47, 48, 49, 50, 51, 52, 53, 54, 55, 56, 57, 58, 59, 60, 61, 62, 63, 64, 65, 66, 67, 68, 101, 102, 103, 104, 105, 106, 107, 3, 4, 5, 7, 125, 126, 127, 128, 129, 130, 131, 132, 133, 134] (by decide +kernel) (by decide +kernel)
set_option maxRecDepth 20000 in
theorem gX4_readFact_X4_readSum : GoodIn wsX4_readFact (wsV RX4 50 RX4 yX4_readSum wsX4_readSum) := goodIn_app (goodIn_of _ (by decide +kernel)) ggX4_readFact_X4_readSum
set_option maxRecDepth 20000 in
theorem ggX4_readFact_X4_readSign : GoodIn wsX4_readFact wsX4_readSign := goodIn_r _ [111, 1, 82, 85, 2, 3, 4, 5, 6, 7, 8, 9, 10, 11, 12, 13, 14, 15, 16, 17, 18, 19, 20, 21, 22, 23, 24, 25, 26, 27, 28, 29, 30, 31, 32, 33, 34, 35, 36, 37, 38, 39, 40, 41, 42, 43, 44, 45, 46, 47, 48, 49, 50, 51, 52, 53, 54, 55, 56, 57, 58, 59, 60, 61, 62, 63, 64, 65, 66, 67, 68, 101, 97, 98, 99, 100, 112, 125, 126, 127, 128, 129, 130, 131, 132, 133, 134] (by decide +kernel) (by decide +kernel)
set_option maxRecDepth 20000 in
theorem gX4_readFact_X4_readSign : GoodIn wsX4_readFact (wsV RX4 99 RX4 yX4_readSign wsX4_readSign) := goodIn_app (goodIn_of _ (by decide +kernel)) ggX4_readFact_X4_readSign
set_option maxRecDepth 20000 in
theorem ggX4_readFact_X4_write : GoodIn wsX4_readFact wsX4_write := goodIn_r _ [105, 106, 107, 125, 126, 127, 128, 129] (by decide +kernel) (by decide +kernel)
set_option maxRecDepth 20000 in
theorem gX4_readFact_X4_write : GoodIn wsX4_readFact (wsV RX4 63 RX4 yX4_write wsX4_write) := goodIn_app (goodIn_of _ (by decide +kernel)) ggX4_readFact_X4_write
set_option maxRecDepth 20000 in
theorem ggX4_readFact_X7_blame : GoodIn wsX4_readFact wsX7_blame := goodIn_r _ [99, 100, 130, 131, 132, 133, 134] (by decide +kernel) (by decide +kernel)
set_option maxRecDepth 20000 in
theorem gX4_readFact_X7_blame : GoodIn wsX4_readFact (wsV RX4 80 RX7 yX7_blame wsX7_blame) := goodIn_app (goodIn_of _ (by decide +kernel)) ggX4_readFact_X7_blame
set_option maxRecDepth 20000 in
theorem ggX4_readFact_X4_readFact : GoodIn wsX4_readFact wsX4_readFact := goodIn_r _ [0, 1, 2, 3, 4, 5, 6, 7, 8, 9, 10, 11, 12, 13, 14, 15, 16, 17, 18, 19, 20, 21, 22, 23, 24, 25, 26, 27, 28, 29, 30, 31, 32, 33, 34, 35, 36, 37, 38, 39, 40, 41, 42, 43, 44, 45, 46, 47, 48, 49, 50, 51, 52, 53, 54, 55, 56, 57, 58, 59, 60, 61, 62, 63, 64, 65, 66, 67, 68, 69, 70, 71, 72, 73, 74, 75, 76, 77, 78, 79, 80, 81, 82, 83, 84, 85, 86, 87, 88, 89, 90, 91, 92, 93, 94, 95, 96, 97, 98, 99, 100, 101, 102, 103, 104, 105, 106, 107, 108, 109, 110, 111, 112, 113, 114, 115, 116, 117, 118, 119, 120, 121, 122, 123, 124, 125, 126, 127, 128, 129, 130, 131, 132, 133, 134] (by decide +kernel) (by decide +kernel)
set_option maxRecDepth 20000 in
theorem gX4_readFact_X4_readFact : GoodIn wsX4_readFact (wsV RX4 87 RX4 yX4_readFact wsX4_readFact) := goodIn_app (goodIn_of _ (by decide +kernel)) ggX4_readFact_X4_readFact
set_option maxRecDepth 20000 in
theorem ggX4_readFact_X4_readTest : GoodIn wsX4_readFact wsX4_readTest := goodIn_r _ [124, 1, 113, 114, 115, 76, 69, 70, 71, 6, 72, 8, 14, 15, 9, 10, 11, 12, 13, 16, 17, 18, 19, 20, 21, 22, 23, 24, 25, 26, 27, 32, 33, 34, 35, 36, 37, 38, 39, 40, 41, 42, 43, 44, 45, 46, 47, 48, 49, 50, 51, 52, 53, 54, 55, 56, 57, 58, 59, 60, 61, 62, 63, 64, 65, 66, 67, 68, 102, 103, 104, 105, 106, 107, 0, 2, 3, 4, 5, 7, 28, 29, 30, 31, 73, 74, 75, 77, 78, 79, 80, 81, 82, 83, 84, 85, 86, 87, 88, 89, 90, 91, 92, 93, 94, 95, 96, 97, 98, 99, 100, 101, 108, 109, 110, 111, 112, 116, 117, 118, 119, 120, 121, 122, 123, 125, 126, 127, 128, 129, 130, 131, 132, 133, 134] (by decide +kernel) (by decide +kernel)
set_option maxRecDepth 20000 in
theorem gX4_readFact_X4_readTest : GoodIn wsX4_readFact (wsV RX4 60 RX4 yX4_readTest wsX4_readTest) := goodIn_app (goodIn_of _ (by decide +kernel)) ggX4_readFact_X4_readTest
set_option maxRecDepth 20000 in
theorem ggX4_readFact_X7_needSign : GoodIn wsX4_readFact wsX7_needSign := goodIn_r _ [122, 8, 123, 4, 5, 6, 7, 9, 10, 11, 12, 13, 14, 15, 16, 17, 18, 19, 20, 21, 22, 23, 24, 25, 26, 27, 28, 29, 30, 31, 32, 33, 34, 35, 36, 37, 38, 39, 40, 41, 42, 43, 44, 45, 46, 47, 48, 49, 50, 51, 52, 53, 54, 55, 56, 57, 58, 59, 60, 61, 62, 63, 64, 65, 66, 67, 68, 96, 97, 98, 99, 100, 130, 131, 132, 133, 134] (by decide +kernel) (by decide +kernel)
set_option maxRecDepth 20000 in
theorem gX4_readFact_X7_needSign : GoodIn wsX4_readFact (wsV RX4 71 RX7 yX7_needSign wsX7_needSign) := goodIn_app (goodIn_of _ (by decide +kernel)) ggX4_readFact_X7_needSign
theorem dX4_readFact_0 : decode cX4_readFact 0 = .ok (.aload_n 0, 1) := by decide +kernel
theorem dX4_readFact_1 : decode cX4_readFact 1 = .ok (.getfield 26, 3) := by decide +kernel
theorem dX4_readFact_4 : decode cX4_readFact 4 = .ok (.ldc 92, 2) := by decide +kernel
theorem dX4_readFact_6 : decode cX4_readFact 6 = .ok (.invokevirtual 94, 3) := by decide +kernel
theorem dX4_readFact_9 : decode cX4_readFact 9 = .ok (.iconst (-1), 1) := by decide +kernel
theorem dX4_readFact_10 : decode cX4_readFact 10 = .ok (.if_icmp .eq 7, 3) := by decide +kernel
theorem dX4_readFact_13 : decode cX4_readFact 13 = .ok (.iconst 1, 1) := by decide +kernel
theorem dX4_readFact_14 : decode cX4_readFact 14 = .ok (.goto 4, 3) := by decide +kernel
theorem dX4_readFact_17 : decode cX4_readFact 17 = .ok (.iconst 0, 1) := by decide +kernel
theorem dX4_readFact_18 : decode cX4_readFact 18 = .ok (.istore_n 2, 1) := by decide +kernel
theorem dX4_readFact_19 : decode cX4_readFact 19 = .ok (.iload_n 2, 1) := by decide +kernel
theorem dX4_readFact_20 : decode cX4_readFact 20 = .ok (.ifCond .ne 20, 3) := by decide +kernel
theorem dX4_readFact_23 : decode cX4_readFact 23 = .ok (.aload_n 0, 1) := by decide +kernel
theorem dX4_readFact_24 : decode cX4_readFact 24 = .ok (.getfield 26, 3) := by decide +kernel
theorem dX4_readFact_27 : decode cX4_readFact 27 = .ok (.ldc 97, 2) := by decide +kernel
theorem dX4_readFact_29 : decode cX4_readFact 29 = .ok (.invokevirtual 56, 3) := by decide +kernel
theorem dX4_readFact_32 : decode cX4_readFact 32 = .ok (.iconst (-1), 1) := by decide +kernel
theorem dX4_readFact_33 : decode cX4_readFact 33 = .ok (.if_icmp .eq 7, 3) := by decide +kernel
theorem dX4_readFact_36 : decode cX4_readFact 36 = .ok (.iconst 1, 1) := by decide +kernel
theorem dX4_readFact_37 : decode cX4_readFact 37 = .ok (.goto 4, 3) := by decide +kernel
theorem dX4_readFact_40 : decode cX4_readFact 40 = .ok (.iconst 0, 1) := by decide +kernel
theorem dX4_readFact_41 : decode cX4_readFact 41 = .ok (.istore_n 3, 1) := by decide +kernel
theorem dX4_readFact_42 : decode cX4_readFact 42 = .ok (.iload_n 2, 1) := by decide +kernel
theorem dX4_readFact_43 : decode cX4_readFact 43 = .ok (.ifCond .ne 49, 3) := by decide +kernel
theorem dX4_readFact_46 : decode cX4_readFact 46 = .ok (.iload_n 3, 1) := by decide +kernel
theorem dX4_readFact_47 : decode cX4_readFact 47 = .ok (.ifCond .ne 45, 3) := by decide +kernel
theorem dX4_readFact_50 : decode cX4_readFact 50 = .ok (.aload_n 0, 1) := by decide +kernel
theorem dX4_readFact_51 : decode cX4_readFact 51 = .ok (.invokevirtual 50, 3) := by decide +kernel
theorem dX4_readFact_54 : decode cX4_readFact 54 = .ok (.ifCond .ne 5, 3) := by decide +kernel
theorem dX4_readFact_57 : decode cX4_readFact 57 = .ok (.iconst 0, 1) := by decide +kernel
theorem dX4_readFact_58 : decode cX4_readFact 58 = .ok (.ireturn, 1) := by decide +kernel
theorem dX4_readFact_59 : decode cX4_readFact 59 = .ok (.aload_n 0, 1) := by decide +kernel
theorem dX4_readFact_60 : decode cX4_readFact 60 = .ok (.invokevirtual 99, 3) := by decide +kernel
theorem dX4_readFact_63 : decode cX4_readFact 63 = .ok (.istore 4, 2) := by decide +kernel
theorem dX4_readFact_65 : decode cX4_readFact 65 = .ok (.iload 4, 2) := by decide +kernel
theorem dX4_readFact_67 : decode cX4_readFact 67 = .ok (.ifCond .eq 23, 3) := by decide +kernel
theorem dX4_readFact_70 : decode cX4_readFact 70 = .ok (.aload_n 0, 1) := by decide +kernel
theorem dX4_readFact_71 : decode cX4_readFact 71 = .ok (.invokevirtual 50, 3) := by decide +kernel
theorem dX4_readFact_74 : decode cX4_readFact 74 = .ok (.ifCond .eq 16, 3) := by decide +kernel
theorem dX4_readFact_77 : decode cX4_readFact 77 = .ok (.aload_n 0, 1) := by decide +kernel
theorem dX4_readFact_78 : decode cX4_readFact 78 = .ok (.iload 4, 2) := by decide +kernel
theorem dX4_readFact_80 : decode cX4_readFact 80 = .ok (.invokevirtual 63, 3) := by decide +kernel
theorem dX4_readFact_83 : decode cX4_readFact 83 = .ok (.ifCond .eq 7, 3) := by decide +kernel
theorem dX4_readFact_86 : decode cX4_readFact 86 = .ok (.iconst 1, 1) := by decide +kernel
theorem dX4_readFact_87 : decode cX4_readFact 87 = .ok (.goto 4, 3) := by decide +kernel
theorem dX4_readFact_90 : decode cX4_readFact 90 = .ok (.iconst 0, 1) := by decide +kernel
theorem dX4_readFact_91 : decode cX4_readFact 91 = .ok (.ireturn, 1) := by decide +kernel
theorem dX4_readFact_92 : decode cX4_readFact 92 = .ok (.iload_n 1, 1) := by decide +kernel
theorem dX4_readFact_93 : decode cX4_readFact 93 = .ok (.bipush 10, 2) := by decide +kernel
theorem dX4_readFact_95 : decode cX4_readFact 95 = .ok (.if_icmp .lt 19, 3) := by decide +kernel
theorem dX4_readFact_98 : decode cX4_readFact 98 = .ok (.aload_n 0, 1) := by decide +kernel
theorem dX4_readFact_99 : decode cX4_readFact 99 = .ok (.getfield 26, 3) := by decide +kernel
theorem dX4_readFact_102 : decode cX4_readFact 102 = .ok (.aload_n 0, 1) := by decide +kernel
theorem dX4_readFact_103 : decode cX4_readFact 103 = .ok (.getfield 26, 3) := by decide +kernel
theorem dX4_readFact_106 : decode cX4_readFact 106 = .ok (.getfield 84, 3) := by decide +kernel
theorem dX4_readFact_109 : decode cX4_readFact 109 = .ok (.iconst 2, 1) := by decide +kernel
theorem dX4_readFact_110 : decode cX4_readFact 110 = .ok (.invokevirtual 80, 3) := by decide +kernel
theorem dX4_readFact_113 : decode cX4_readFact 113 = .ok (.ireturn, 1) := by decide +kernel
theorem dX4_readFact_114 : decode cX4_readFact 114 = .ok (.iload_n 3, 1) := by decide +kernel
theorem dX4_readFact_115 : decode cX4_readFact 115 = .ok (.ifCond .eq 28, 3) := by decide +kernel
theorem dX4_readFact_118 : decode cX4_readFact 118 = .ok (.aload_n 0, 1) := by decide +kernel
theorem dX4_readFact_119 : decode cX4_readFact 119 = .ok (.iload_n 1, 1) := by decide +kernel
theorem dX4_readFact_120 : decode cX4_readFact 120 = .ok (.iconst 1, 1) := by decide +kernel
theorem dX4_readFact_121 : decode cX4_readFact 121 = .ok (.iadd, 1) := by decide +kernel
theorem dX4_readFact_122 : decode cX4_readFact 122 = .ok (.invokevirtual 87, 3) := by decide +kernel
theorem dX4_readFact_125 : decode cX4_readFact 125 = .ok (.ifCond .eq 16, 3) := by decide +kernel
theorem dX4_readFact_128 : decode cX4_readFact 128 = .ok (.aload_n 0, 1) := by decide +kernel
theorem dX4_readFact_129 : decode cX4_readFact 129 = .ok (.bipush (-43), 2) := by decide +kernel
theorem dX4_readFact_131 : decode cX4_readFact 131 = .ok (.invokevirtual 63, 3) := by decide +kernel
theorem dX4_readFact_134 : decode cX4_readFact 134 = .ok (.ifCond .eq 7, 3) := by decide +kernel
theorem dX4_readFact_137 : decode cX4_readFact 137 = .ok (.iconst 1, 1) := by decide +kernel
theorem dX4_readFact_138 : decode cX4_readFact 138 = .ok (.goto 4, 3) := by decide +kernel
theorem dX4_readFact_141 : decode cX4_readFact 141 = .ok (.iconst 0, 1) := by decide +kernel
theorem dX4_readFact_142 : decode cX4_readFact 142 = .ok (.ireturn, 1) := by decide +kernel
theorem dX4_readFact_143 : decode cX4_readFact 143 = .ok (.aload_n 0, 1) := by decide +kernel
theorem dX4_readFact_144 : decode cX4_readFact 144 = .ok (.iload_n 1, 1) := by decide +kernel
theorem dX4_readFact_145 : decode cX4_readFact 145 = .ok (.iconst 1, 1) := by decide +kernel
theorem dX4_readFact_146 : decode cX4_readFact 146 = .ok (.iadd, 1) := by decide +kernel
theorem dX4_readFact_147 : decode cX4_readFact 147 = .ok (.invokevirtual 60, 3) := by decide +kernel
theorem dX4_readFact_150 : decode cX4_readFact 150 = .ok (.ifCond .eq 19, 3) := by decide +kernel
theorem dX4_readFact_153 : decode cX4_readFact 153 = .ok (.aload_n 0, 1) := by decide +kernel
theorem dX4_readFact_154 : decode cX4_readFact 154 = .ok (.getfield 26, 3) := by decide +kernel
theorem dX4_readFact_157 : decode cX4_readFact 157 = .ok (.ldc 103, 2) := by decide +kernel
theorem dX4_readFact_159 : decode cX4_readFact 159 = .ok (.invokevirtual 71, 3) := by decide +kernel
theorem dX4_readFact_162 : decode cX4_readFact 162 = .ok (.ifCond .eq 7, 3) := by decide +kernel
theorem dX4_readFact_165 : decode cX4_readFact 165 = .ok (.iconst 1, 1) := by decide +kernel
theorem dX4_readFact_166 : decode cX4_readFact 166 = .ok (.goto 4, 3) := by decide +kernel
theorem dX4_readFact_169 : decode cX4_readFact 169 = .ok (.iconst 0, 1) := by decide +kernel
theorem dX4_readFact_170 : decode cX4_readFact 170 = .ok (.ireturn, 1) := by decide +kernel
set_option maxRecDepth 20000 in
theorem ggX4_readSign_X7_takeSignOf : GoodIn wsX4_readSign wsX7_takeSignOf := goodIn_r _ [9, 10, 11, 12, 13, 14, 8, 15, 16, 17, 18, 19, 20, 21, 22, 23, 24, 25, 26, 27, 28, 29, 30, 31, 32, 33, 34, 35, 36, 37, 38, 39, 40, 41, 42, 43, 44, 45, 46, 47, 48, 49, 50, 51, 52, 53, 54, 55, 56, 57, 58, 59, 60, 61, 62, 63, 64, 65, 66, 67, 68, 69, 70, 82, 83, 84, 85, 86] (by decide +kernel) (by decide +kernel)
set_option maxRecDepth 20000 in
theorem gX4_readSign_X7_takeSignOf : GoodIn wsX4_readSign (wsV RX4 94 RX7 yX7_takeSignOf wsX7_takeSignOf) := goodIn_app (goodIn_of _ (by decide +kernel)) ggX4_readSign_X7_takeSignOf
set_option maxRecDepth 20000 in
theorem ggX4_readSign_X7_blame : GoodIn wsX4_readSign wsX7_blame := goodIn_r _ [74, 75, 82, 83, 84, 85, 86] (by decide +kernel) (by decide +kernel)
set_option maxRecDepth 20000 in
theorem gX4_readSign_X7_blame : GoodIn wsX4_readSign (wsV RX4 80 RX7 yX7_blame wsX7_blame) := goodIn_app (goodIn_of _ (by decide +kernel)) ggX4_readSign_X7_blame
set_option maxRecDepth 20000 in
theorem ggX4_readSign_X7_byteAt : GoodIn wsX4_readSign wsX7_byteAt := goodIn_r _ [33, 16, 17, 82, 83, 84, 85, 86] (by decide +kernel) (by decide +kernel)
set_option maxRecDepth 20000 in
theorem gX4_readSign_X7_byteAt : GoodIn wsX4_readSign (wsV RX4 107 RX7 yX7_byteAt wsX7_byteAt) := goodIn_app (goodIn_of _ (by decide +kernel)) ggX4_readSign_X7_byteAt
theorem dX4_readSign_0 : decode cX4_readSign 0 = .ok (.aload_n 0, 1) := by decide +kernel
theorem dX4_readSign_1 : decode cX4_readSign 1 = .ok (.getfield 26, 3) := by decide +kernel
theorem dX4_readSign_4 : decode cX4_readSign 4 = .ok (.ldc 105, 2) := by decide +kernel
theorem dX4_readSign_6 : decode cX4_readSign 6 = .ok (.invokevirtual 94, 3) := by decide +kernel
theorem dX4_readSign_9 : decode cX4_readSign 9 = .ok (.istore_n 1, 1) := by decide +kernel
theorem dX4_readSign_10 : decode cX4_readSign 10 = .ok (.iload_n 1, 1) := by decide +kernel
theorem dX4_readSign_11 : decode cX4_readSign 11 = .ok (.iconst (-1), 1) := by decide +kernel
theorem dX4_readSign_12 : decode cX4_readSign 12 = .ok (.if_icmp .ne 21, 3) := by decide +kernel
theorem dX4_readSign_15 : decode cX4_readSign 15 = .ok (.aload_n 0, 1) := by decide +kernel
theorem dX4_readSign_16 : decode cX4_readSign 16 = .ok (.getfield 26, 3) := by decide +kernel
theorem dX4_readSign_19 : decode cX4_readSign 19 = .ok (.aload_n 0, 1) := by decide +kernel
theorem dX4_readSign_20 : decode cX4_readSign 20 = .ok (.getfield 26, 3) := by decide +kernel
theorem dX4_readSign_23 : decode cX4_readSign 23 = .ok (.getfield 77, 3) := by decide +kernel
theorem dX4_readSign_26 : decode cX4_readSign 26 = .ok (.iconst 0, 1) := by decide +kernel
theorem dX4_readSign_27 : decode cX4_readSign 27 = .ok (.invokevirtual 80, 3) := by decide +kernel
theorem dX4_readSign_30 : decode cX4_readSign 30 = .ok (.pop, 1) := by decide +kernel
theorem dX4_readSign_31 : decode cX4_readSign 31 = .ok (.iconst 0, 1) := by decide +kernel
theorem dX4_readSign_32 : decode cX4_readSign 32 = .ok (.ireturn, 1) := by decide +kernel
theorem dX4_readSign_33 : decode cX4_readSign 33 = .ok (.aload_n 0, 1) := by decide +kernel
theorem dX4_readSign_34 : decode cX4_readSign 34 = .ok (.getfield 19, 3) := by decide +kernel
theorem dX4_readSign_37 : decode cX4_readSign 37 = .ok (.bipush 60, 2) := by decide +kernel
theorem dX4_readSign_39 : decode cX4_readSign 39 = .ok (.if_icmp .lt 21, 3) := by decide +kernel
theorem dX4_readSign_42 : decode cX4_readSign 42 = .ok (.aload_n 0, 1) := by decide +kernel
theorem dX4_readSign_43 : decode cX4_readSign 43 = .ok (.getfield 26, 3) := by decide +kernel
theorem dX4_readSign_46 : decode cX4_readSign 46 = .ok (.aload_n 0, 1) := by decide +kernel
theorem dX4_readSign_47 : decode cX4_readSign 47 = .ok (.getfield 26, 3) := by decide +kernel
theorem dX4_readSign_50 : decode cX4_readSign 50 = .ok (.getfield 84, 3) := by decide +kernel
theorem dX4_readSign_53 : decode cX4_readSign 53 = .ok (.iconst 3, 1) := by decide +kernel
theorem dX4_readSign_54 : decode cX4_readSign 54 = .ok (.invokevirtual 80, 3) := by decide +kernel
theorem dX4_readSign_57 : decode cX4_readSign 57 = .ok (.pop, 1) := by decide +kernel
theorem dX4_readSign_58 : decode cX4_readSign 58 = .ok (.iconst 0, 1) := by decide +kernel
theorem dX4_readSign_59 : decode cX4_readSign 59 = .ok (.ireturn, 1) := by decide +kernel
theorem dX4_readSign_60 : decode cX4_readSign 60 = .ok (.aload_n 0, 1) := by decide +kernel
theorem dX4_readSign_61 : decode cX4_readSign 61 = .ok (.dup, 1) := by decide +kernel
theorem dX4_readSign_62 : decode cX4_readSign 62 = .ok (.getfield 19, 3) := by decide +kernel
theorem dX4_readSign_65 : decode cX4_readSign 65 = .ok (.iconst 1, 1) := by decide +kernel
theorem dX4_readSign_66 : decode cX4_readSign 66 = .ok (.iadd, 1) := by decide +kernel
theorem dX4_readSign_67 : decode cX4_readSign 67 = .ok (.putfield 19, 3) := by decide +kernel
theorem dX4_readSign_70 : decode cX4_readSign 70 = .ok (.iload_n 1, 1) := by decide +kernel
theorem dX4_readSign_71 : decode cX4_readSign 71 = .ok (.iconst 1, 1) := by decide +kernel
theorem dX4_readSign_72 : decode cX4_readSign 72 = .ok (.if_icmp .ne 6, 3) := by decide +kernel
theorem dX4_readSign_75 : decode cX4_readSign 75 = .ok (.bipush (-33), 2) := by decide +kernel
theorem dX4_readSign_77 : decode cX4_readSign 77 = .ok (.ireturn, 1) := by decide +kernel
theorem dX4_readSign_78 : decode cX4_readSign 78 = .ok (.aload_n 0, 1) := by decide +kernel
theorem dX4_readSign_79 : decode cX4_readSign 79 = .ok (.getfield 26, 3) := by decide +kernel
theorem dX4_readSign_82 : decode cX4_readSign 82 = .ok (.aload_n 0, 1) := by decide +kernel
theorem dX4_readSign_83 : decode cX4_readSign 83 = .ok (.getfield 26, 3) := by decide +kernel
theorem dX4_readSign_86 : decode cX4_readSign 86 = .ok (.getfield 77, 3) := by decide +kernel
theorem dX4_readSign_89 : decode cX4_readSign 89 = .ok (.invokevirtual 107, 3) := by decide +kernel
theorem dX4_readSign_92 : decode cX4_readSign 92 = .ok (.bipush 61, 2) := by decide +kernel
theorem dX4_readSign_94 : decode cX4_readSign 94 = .ok (.if_icmp .ne 7, 3) := by decide +kernel
theorem dX4_readSign_97 : decode cX4_readSign 97 = .ok (.iconst 1, 1) := by decide +kernel
theorem dX4_readSign_98 : decode cX4_readSign 98 = .ok (.goto 4, 3) := by decide +kernel
theorem dX4_readSign_101 : decode cX4_readSign 101 = .ok (.iconst 0, 1) := by decide +kernel
theorem dX4_readSign_102 : decode cX4_readSign 102 = .ok (.istore_n 2, 1) := by decide +kernel
theorem dX4_readSign_103 : decode cX4_readSign 103 = .ok (.iload_n 2, 1) := by decide +kernel
theorem dX4_readSign_104 : decode cX4_readSign 104 = .ok (.ifCond .eq 16, 3) := by decide +kernel
theorem dX4_readSign_107 : decode cX4_readSign 107 = .ok (.aload_n 0, 1) := by decide +kernel
theorem dX4_readSign_108 : decode cX4_readSign 108 = .ok (.getfield 26, 3) := by decide +kernel
theorem dX4_readSign_111 : decode cX4_readSign 111 = .ok (.dup, 1) := by decide +kernel
theorem dX4_readSign_112 : decode cX4_readSign 112 = .ok (.getfield 77, 3) := by decide +kernel
theorem dX4_readSign_115 : decode cX4_readSign 115 = .ok (.iconst 1, 1) := by decide +kernel
theorem dX4_readSign_116 : decode cX4_readSign 116 = .ok (.iadd, 1) := by decide +kernel
theorem dX4_readSign_117 : decode cX4_readSign 117 = .ok (.putfield 77, 3) := by decide +kernel
theorem dX4_readSign_120 : decode cX4_readSign 120 = .ok (.iload_n 1, 1) := by decide +kernel
theorem dX4_readSign_121 : decode cX4_readSign 121 = .ok (.ifCond .ne 15, 3) := by decide +kernel
theorem dX4_readSign_124 : decode cX4_readSign 124 = .ok (.iload_n 2, 1) := by decide +kernel
theorem dX4_readSign_125 : decode cX4_readSign 125 = .ok (.ifCond .eq 8, 3) := by decide +kernel
theorem dX4_readSign_128 : decode cX4_readSign 128 = .ok (.bipush (-32), 2) := by decide +kernel
theorem dX4_readSign_130 : decode cX4_readSign 130 = .ok (.goto 5, 3) := by decide +kernel
theorem dX4_readSign_133 : decode cX4_readSign 133 = .ok (.bipush (-31), 2) := by decide +kernel
theorem dX4_readSign_135 : decode cX4_readSign 135 = .ok (.ireturn, 1) := by decide +kernel
theorem dX4_readSign_136 : decode cX4_readSign 136 = .ok (.iload_n 2, 1) := by decide +kernel
theorem dX4_readSign_137 : decode cX4_readSign 137 = .ok (.ifCond .eq 8, 3) := by decide +kernel
theorem dX4_readSign_140 : decode cX4_readSign 140 = .ok (.bipush (-34), 2) := by decide +kernel
theorem dX4_readSign_142 : decode cX4_readSign 142 = .ok (.goto 5, 3) := by decide +kernel
theorem dX4_readSign_145 : decode cX4_readSign 145 = .ok (.bipush (-35), 2) := by decide +kernel
theorem dX4_readSign_147 : decode cX4_readSign 147 = .ok (.ireturn, 1) := by decide +kernel
set_option maxRecDepth 20000 in
theorem ggX4_readSum_X4_readValue : GoodIn wsX4_readSum wsX4_readValue := goodIn_r _ [6, 1, 7, 8, 9, 10, 11, 12, 13, 14, 15, 16, 17, 18, 19, 20, 21, 22, 23, 24, 25, 26, 27, 28, 29, 30, 31, 32, 33, 34, 35, 36, 37, 38, 39, 40, 41, 42, 43, 44, 45, 46, 47, 48, 49, 50, 51, 52, 53, 54, 55, 56, 57, 58, 59, 60, 61, 62, 63, 64, 65, 66, 67, 68, 69, 70, 71, 72, 73, 74, 75, 76, 77, 78, 79, 80, 81, 82, 83, 84, 85, 86, 87, 88, 89, 90, 91, 92, 93, 94, 95, 96, 5, 97, 98, 99, 104, 105, 106, 107, 108, 109, 110, 111, 112, 113] (by decide +kernel) (by decide +kernel)
set_option maxRecDepth 20000 in
theorem gX4_readSum_X4_readValue : GoodIn wsX4_readSum (wsV RX4 111 RX4 yX4_readValue wsX4_readValue) := goodIn_app (goodIn_of _ (by decide +kernel)) ggX4_readSum_X4_readValue
set_option maxRecDepth 20000 in
theorem ggX4_readSum_X7_takeSignOf : GoodIn wsX4_readSum wsX7_takeSignOf := goodIn_r _ [103, 17, 28, 29, 13, 14, 15, 16, 18, 19, 44, 45, 46, 47, 48, 49, 50, 51, 52, 53, 54, 55, 31, 32, 33, 34, 56, 57, 58, 59, 60, 61, 62, 63, 64, 65, 66, 67, 68, 69, 70, 71, 72, 73, 74, 75, 76, 77, 78, 79, 80, 81, 82, 83, 84, 85, 86, 87, 88, 89, 90, 91, 92, 109, 110, 111, 112, 113] (by decide +kernel) (by decide +kernel)
set_option maxRecDepth 20000 in
theorem gX4_readSum_X7_takeSignOf : GoodIn wsX4_readSum (wsV RX4 94 RX7 yX7_takeSignOf wsX7_takeSignOf) := goodIn_app (goodIn_of _ (by decide +kernel)) ggX4_readSum_X7_takeSignOf
set_option maxRecDepth 20000 in
theorem ggX4_readSum_X4_write : GoodIn wsX4_readSum wsX4_write := goodIn_r _ [97, 98, 99, 104, 105, 106, 107, 108] (by decide +kernel) (by decide +kernel)
set_option maxRecDepth 20000 in
theorem gX4_readSum_X4_write : GoodIn wsX4_readSum (wsV RX4 63 RX4 yX4_write wsX4_write) := goodIn_app (goodIn_of _ (by decide +kernel)) ggX4_readSum_X4_write
theorem dX4_readSum_0 : decode cX4_readSum 0 = .ok (.aload_n 0, 1) := by decide +kernel
theorem dX4_readSum_1 : decode cX4_readSum 1 = .ok (.invokevirtual 111, 3) := by decide +kernel
theorem dX4_readSum_4 : decode cX4_readSum 4 = .ok (.ifCond .ne 5, 3) := by decide +kernel
theorem dX4_readSum_7 : decode cX4_readSum 7 = .ok (.iconst 0, 1) := by decide +kernel
theorem dX4_readSum_8 : decode cX4_readSum 8 = .ok (.ireturn, 1) := by decide +kernel
theorem dX4_readSum_9 : decode cX4_readSum 9 = .ok (.iconst 0, 1) := by decide +kernel
theorem dX4_readSum_10 : decode cX4_readSum 10 = .ok (.istore_n 1, 1) := by decide +kernel
theorem dX4_readSum_11 : decode cX4_readSum 11 = .ok (.iconst 0, 1) := by decide +kernel
theorem dX4_readSum_12 : decode cX4_readSum 12 = .ok (.istore_n 2, 1) := by decide +kernel
theorem dX4_readSum_13 : decode cX4_readSum 13 = .ok (.iload_n 2, 1) := by decide +kernel
theorem dX4_readSum_14 : decode cX4_readSum 14 = .ok (.sipush 400, 3) := by decide +kernel
theorem dX4_readSum_17 : decode cX4_readSum 17 = .ok (.if_icmp .ge 95, 3) := by decide +kernel
theorem dX4_readSum_20 : decode cX4_readSum 20 = .ok (.aload_n 0, 1) := by decide +kernel
theorem dX4_readSum_21 : decode cX4_readSum 21 = .ok (.getfield 26, 3) := by decide +kernel
theorem dX4_readSum_24 : decode cX4_readSum 24 = .ok (.ldc 114, 2) := by decide +kernel
theorem dX4_readSum_26 : decode cX4_readSum 26 = .ok (.invokevirtual 94, 3) := by decide +kernel
theorem dX4_readSum_29 : decode cX4_readSum 29 = .ok (.istore_n 3, 1) := by decide +kernel
theorem dX4_readSum_30 : decode cX4_readSum 30 = .ok (.iload_n 3, 1) := by decide +kernel
theorem dX4_readSum_31 : decode cX4_readSum 31 = .ok (.iconst (-1), 1) := by decide +kernel
theorem dX4_readSum_32 : decode cX4_readSum 32 = .ok (.if_icmp .ne 6, 3) := by decide +kernel
theorem dX4_readSum_35 : decode cX4_readSum 35 = .ok (.goto 77, 3) := by decide +kernel
theorem dX4_readSum_38 : decode cX4_readSum 38 = .ok (.bipush (-21), 2) := by decide +kernel
theorem dX4_readSum_40 : decode cX4_readSum 40 = .ok (.iload_n 3, 1) := by decide +kernel
theorem dX4_readSum_41 : decode cX4_readSum 41 = .ok (.isub, 1) := by decide +kernel
theorem dX4_readSum_42 : decode cX4_readSum 42 = .ok (.istore 4, 2) := by decide +kernel
theorem dX4_readSum_44 : decode cX4_readSum 44 = .ok (.iload 4, 2) := by decide +kernel
theorem dX4_readSum_46 : decode cX4_readSum 46 = .ok (.bipush (-23), 2) := by decide +kernel
theorem dX4_readSum_48 : decode cX4_readSum 48 = .ok (.if_icmp .gt 7, 3) := by decide +kernel
theorem dX4_readSum_51 : decode cX4_readSum 51 = .ok (.iconst 1, 1) := by decide +kernel
theorem dX4_readSum_52 : decode cX4_readSum 52 = .ok (.goto 4, 3) := by decide +kernel
theorem dX4_readSum_55 : decode cX4_readSum 55 = .ok (.iconst 0, 1) := by decide +kernel
theorem dX4_readSum_56 : decode cX4_readSum 56 = .ok (.istore 5, 2) := by decide +kernel
theorem dX4_readSum_58 : decode cX4_readSum 58 = .ok (.iload 5, 2) := by decide +kernel
theorem dX4_readSum_60 : decode cX4_readSum 60 = .ok (.ifCond .ne 13, 3) := by decide +kernel
theorem dX4_readSum_63 : decode cX4_readSum 63 = .ok (.iload_n 1, 1) := by decide +kernel
theorem dX4_readSum_64 : decode cX4_readSum 64 = .ok (.ifCond .eq 9, 3) := by decide +kernel
theorem dX4_readSum_67 : decode cX4_readSum 67 = .ok (.aload_n 0, 1) := by decide +kernel
theorem dX4_readSum_68 : decode cX4_readSum 68 = .ok (.iload_n 1, 1) := by decide +kernel
theorem dX4_readSum_69 : decode cX4_readSum 69 = .ok (.invokevirtual 63, 3) := by decide +kernel
theorem dX4_readSum_72 : decode cX4_readSum 72 = .ok (.pop, 1) := by decide +kernel
theorem dX4_readSum_73 : decode cX4_readSum 73 = .ok (.iload 5, 2) := by decide +kernel
theorem dX4_readSum_75 : decode cX4_readSum 75 = .ok (.ifCond .eq 7, 3) := by decide +kernel
theorem dX4_readSum_78 : decode cX4_readSum 78 = .ok (.iload_n 1, 1) := by decide +kernel
theorem dX4_readSum_79 : decode cX4_readSum 79 = .ok (.goto 5, 3) := by decide +kernel
theorem dX4_readSum_82 : decode cX4_readSum 82 = .ok (.iload 4, 2) := by decide +kernel
theorem dX4_readSum_84 : decode cX4_readSum 84 = .ok (.istore_n 1, 1) := by decide +kernel
theorem dX4_readSum_85 : decode cX4_readSum 85 = .ok (.aload_n 0, 1) := by decide +kernel
theorem dX4_readSum_86 : decode cX4_readSum 86 = .ok (.invokevirtual 111, 3) := by decide +kernel
theorem dX4_readSum_89 : decode cX4_readSum 89 = .ok (.ifCond .ne 5, 3) := by decide +kernel
theorem dX4_readSum_92 : decode cX4_readSum 92 = .ok (.iconst 0, 1) := by decide +kernel
theorem dX4_readSum_93 : decode cX4_readSum 93 = .ok (.ireturn, 1) := by decide +kernel
theorem dX4_readSum_94 : decode cX4_readSum 94 = .ok (.iload 5, 2) := by decide +kernel
theorem dX4_readSum_96 : decode cX4_readSum 96 = .ok (.ifCond .eq 10, 3) := by decide +kernel
theorem dX4_readSum_99 : decode cX4_readSum 99 = .ok (.aload_n 0, 1) := by decide +kernel
theorem dX4_readSum_100 : decode cX4_readSum 100 = .ok (.iload 4, 2) := by decide +kernel
theorem dX4_readSum_102 : decode cX4_readSum 102 = .ok (.invokevirtual 63, 3) := by decide +kernel
theorem dX4_readSum_105 : decode cX4_readSum 105 = .ok (.pop, 1) := by decide +kernel
theorem dX4_readSum_106 : decode cX4_readSum 106 = .ok (.iinc 2 1, 3) := by decide +kernel
theorem dX4_readSum_109 : decode cX4_readSum 109 = .ok (.goto (-96), 3) := by decide +kernel
theorem dX4_readSum_112 : decode cX4_readSum 112 = .ok (.iload_n 1, 1) := by decide +kernel
theorem dX4_readSum_113 : decode cX4_readSum 113 = .ok (.ifCond .eq 11, 3) := by decide +kernel
theorem dX4_readSum_116 : decode cX4_readSum 116 = .ok (.aload_n 0, 1) := by decide +kernel
theorem dX4_readSum_117 : decode cX4_readSum 117 = .ok (.iload_n 1, 1) := by decide +kernel
theorem dX4_readSum_118 : decode cX4_readSum 118 = .ok (.invokevirtual 63, 3) := by decide +kernel
theorem dX4_readSum_121 : decode cX4_readSum 121 = .ok (.ifCond .eq 7, 3) := by decide +kernel
theorem dX4_readSum_124 : decode cX4_readSum 124 = .ok (.iconst 1, 1) := by decide +kernel
theorem dX4_readSum_125 : decode cX4_readSum 125 = .ok (.goto 4, 3) := by decide +kernel
theorem dX4_readSum_128 : decode cX4_readSum 128 = .ok (.iconst 0, 1) := by decide +kernel
theorem dX4_readSum_129 : decode cX4_readSum 129 = .ok (.ireturn, 1) := by decide +kernel
set_option maxRecDepth 20000 in
theorem ggX4_readValue_X7_skipBlanks : GoodIn wsX4_readValue wsX7_skipBlanks := goodIn_r _ [11, 12, 13, 14, 101, 102, 103, 104, 105] (by decide +kernel) (by decide +kernel)
set_option maxRecDepth 20000 in
theorem gX4_readValue_X7_skipBlanks : GoodIn wsX4_readValue (wsV RX4 116 RX7 yX7_skipBlanks wsX7_skipBlanks) := goodIn_app (goodIn_of _ (by decide +kernel)) ggX4_readValue_X7_skipBlanks
set_option maxRecDepth 20000 in
theorem ggX4_readValue_X7_isDigitAt : GoodIn wsX4_readValue wsX7_isDigitAt := goodIn_r _ [18, 13, 14, 101, 102, 103, 104, 105] (by decide +kernel) (by decide +kernel)
set_option maxRecDepth 20000 in
theorem gX4_readValue_X7_isDigitAt : GoodIn wsX4_readValue (wsV RX4 119 RX7 yX7_isDigitAt wsX7_isDigitAt) := goodIn_app (goodIn_of _ (by decide +kernel)) ggX4_readValue_X7_isDigitAt
set_option maxRecDepth 20000 in
theorem ggX4_readValue_X7_takeNumber : GoodIn wsX4_readValue wsX7_takeNumber := goodIn_r _ [22, 12, 23, 13, 24, 8, 9, 10, 11, 14, 25, 16, 17, 18, 26, 27, 28, 29, 30, 31, 32, 33, 34, 101, 102, 103, 104, 105] (by decide +kernel) (by decide +kernel)
set_option maxRecDepth 20000 in
theorem gX4_readValue_X7_takeNumber : GoodIn wsX4_readValue (wsV RX4 123 RX7 yX7_takeNumber wsX7_takeNumber) := goodIn_app (goodIn_of _ (by decide +kernel)) ggX4_readValue_X7_takeNumber
set_option maxRecDepth 20000 in
theorem ggX4_readValue_X7_takeWord : GoodIn wsX4_readValue wsX7_takeWord := goodIn_r _ [38, 12, 13, 14, 23, 24, 8, 9, 10, 11, 39, 40, 41, 42, 43, 44, 45, 46, 47, 48, 49, 50, 51, 52, 53, 54, 55, 56, 57, 58, 59, 60, 61, 62, 63, 64, 65, 66, 67, 68, 69, 70, 71, 72, 73, 74, 75, 76, 77, 78, 79, 80, 81, 82, 83, 84, 85, 86, 87, 101, 102, 103, 104, 105] (by decide +kernel) (by decide +kernel)
set_option maxRecDepth 20000 in
theorem gX4_readValue_X7_takeWord : GoodIn wsX4_readValue (wsV RX4 56 RX7 yX7_takeWord wsX7_takeWord) := goodIn_app (goodIn_of _ (by decide +kernel)) ggX4_readValue_X7_takeWord
set_option maxRecDepth 20000 in
theorem ggX4_readValue_X7_blame : GoodIn wsX4_readValue wsX7_blame := goodIn_r _ [33, 34, 101, 102, 103, 104, 105] (by decide +kernel) (by decide +kernel)
set_option maxRecDepth 20000 in
theorem gX4_readValue_X7_blame : GoodIn wsX4_readValue (wsV RX4 80 RX7 yX7_blame wsX7_blame) := goodIn_app (goodIn_of _ (by decide +kernel)) ggX4_readValue_X7_blame
set_option maxRecDepth 20000 in
theorem ggX4_readValue_X4_write : GoodIn wsX4_readValue wsX4_write := goodIn_r _ [93, 94, 95, 96, 97, 98, 99, 100] (by decide +kernel) (by decide +kernel)
set_option maxRecDepth 20000 in
theorem gX4_readValue_X4_write : GoodIn wsX4_readValue (wsV RX4 63 RX4 yX4_write wsX4_write) := goodIn_app (goodIn_of _ (by decide +kernel)) ggX4_readValue_X4_write
theorem dX4_readValue_0 : decode cX4_readValue 0 = .ok (.aload_n 0, 1) := by decide +kernel
theorem dX4_readValue_1 : decode cX4_readValue 1 = .ok (.getfield 26, 3) := by decide +kernel
theorem dX4_readValue_4 : decode cX4_readValue 4 = .ok (.invokevirtual 116, 3) := by decide +kernel
theorem dX4_readValue_7 : decode cX4_readValue 7 = .ok (.aload_n 0, 1) := by decide +kernel
theorem dX4_readValue_8 : decode cX4_readValue 8 = .ok (.getfield 26, 3) := by decide +kernel
theorem dX4_readValue_11 : decode cX4_readValue 11 = .ok (.aload_n 0, 1) := by decide +kernel
theorem dX4_readValue_12 : decode cX4_readValue 12 = .ok (.getfield 26, 3) := by decide +kernel
theorem dX4_readValue_15 : decode cX4_readValue 15 = .ok (.getfield 77, 3) := by decide +kernel
theorem dX4_readValue_18 : decode cX4_readValue 18 = .ok (.invokevirtual 119, 3) := by decide +kernel
theorem dX4_readValue_21 : decode cX4_readValue 21 = .ok (.ifCond .eq 21, 3) := by decide +kernel
theorem dX4_readValue_24 : decode cX4_readValue 24 = .ok (.aload_n 0, 1) := by decide +kernel
theorem dX4_readValue_25 : decode cX4_readValue 25 = .ok (.getfield 26, 3) := by decide +kernel
theorem dX4_readValue_28 : decode cX4_readValue 28 = .ok (.iconst 0, 1) := by decide +kernel
theorem dX4_readValue_29 : decode cX4_readValue 29 = .ok (.ldc 122, 2) := by decide +kernel
theorem dX4_readValue_31 : decode cX4_readValue 31 = .ok (.invokevirtual 123, 3) := by decide +kernel
theorem dX4_readValue_34 : decode cX4_readValue 34 = .ok (.istore_n 1, 1) := by decide +kernel
theorem dX4_readValue_35 : decode cX4_readValue 35 = .ok (.iload_n 1, 1) := by decide +kernel
theorem dX4_readValue_36 : decode cX4_readValue 36 = .ok (.iconst (-1), 1) := by decide +kernel
theorem dX4_readValue_37 : decode cX4_readValue 37 = .ok (.if_icmp .ne 60, 3) := by decide +kernel
theorem dX4_readValue_40 : decode cX4_readValue 40 = .ok (.iconst 0, 1) := by decide +kernel
theorem dX4_readValue_41 : decode cX4_readValue 41 = .ok (.ireturn, 1) := by decide +kernel
theorem dX4_readValue_42 : decode cX4_readValue 42 = .ok (.aload_n 0, 1) := by decide +kernel
theorem dX4_readValue_43 : decode cX4_readValue 43 = .ok (.getfield 26, 3) := by decide +kernel
theorem dX4_readValue_46 : decode cX4_readValue 46 = .ok (.ldc 127, 2) := by decide +kernel
theorem dX4_readValue_48 : decode cX4_readValue 48 = .ok (.invokevirtual 56, 3) := by decide +kernel
theorem dX4_readValue_51 : decode cX4_readValue 51 = .ok (.istore_n 2, 1) := by decide +kernel
theorem dX4_readValue_52 : decode cX4_readValue 52 = .ok (.iload_n 2, 1) := by decide +kernel
theorem dX4_readValue_53 : decode cX4_readValue 53 = .ok (.iconst (-1), 1) := by decide +kernel
theorem dX4_readValue_54 : decode cX4_readValue 54 = .ok (.if_icmp .ne 19, 3) := by decide +kernel
theorem dX4_readValue_57 : decode cX4_readValue 57 = .ok (.aload_n 0, 1) := by decide +kernel
theorem dX4_readValue_58 : decode cX4_readValue 58 = .ok (.getfield 26, 3) := by decide +kernel
theorem dX4_readValue_61 : decode cX4_readValue 61 = .ok (.aload_n 0, 1) := by decide +kernel
theorem dX4_readValue_62 : decode cX4_readValue 62 = .ok (.getfield 26, 3) := by decide +kernel
theorem dX4_readValue_65 : decode cX4_readValue 65 = .ok (.getfield 77, 3) := by decide +kernel
theorem dX4_readValue_68 : decode cX4_readValue 68 = .ok (.iconst 0, 1) := by decide +kernel
theorem dX4_readValue_69 : decode cX4_readValue 69 = .ok (.invokevirtual 80, 3) := by decide +kernel
theorem dX4_readValue_72 : decode cX4_readValue 72 = .ok (.ireturn, 1) := by decide +kernel
theorem dX4_readValue_73 : decode cX4_readValue 73 = .ok (.aload_n 0, 1) := by decide +kernel
theorem dX4_readValue_74 : decode cX4_readValue 74 = .ok (.dup, 1) := by decide +kernel
theorem dX4_readValue_75 : decode cX4_readValue 75 = .ok (.getfield 22, 3) := by decide +kernel
theorem dX4_readValue_78 : decode cX4_readValue 78 = .ok (.iload_n 2, 1) := by decide +kernel
theorem dX4_readValue_79 : decode cX4_readValue 79 = .ok (.bipush 10, 2) := by decide +kernel
theorem dX4_readValue_81 : decode cX4_readValue 81 = .ok (.if_icmp .ne 7, 3) := by decide +kernel
theorem dX4_readValue_84 : decode cX4_readValue 84 = .ok (.iconst 1, 1) := by decide +kernel
theorem dX4_readValue_85 : decode cX4_readValue 85 = .ok (.goto 4, 3) := by decide +kernel
theorem dX4_readValue_88 : decode cX4_readValue 88 = .ok (.iconst 0, 1) := by decide +kernel
theorem dX4_readValue_89 : decode cX4_readValue 89 = .ok (.ior, 1) := by decide +kernel
theorem dX4_readValue_90 : decode cX4_readValue 90 = .ok (.putfield 22, 3) := by decide +kernel
theorem dX4_readValue_93 : decode cX4_readValue 93 = .ok (.iconst (-1), 1) := by decide +kernel
theorem dX4_readValue_94 : decode cX4_readValue 94 = .ok (.iload_n 2, 1) := by decide +kernel
theorem dX4_readValue_95 : decode cX4_readValue 95 = .ok (.isub, 1) := by decide +kernel
theorem dX4_readValue_96 : decode cX4_readValue 96 = .ok (.istore_n 1, 1) := by decide +kernel
theorem dX4_readValue_97 : decode cX4_readValue 97 = .ok (.aload_n 0, 1) := by decide +kernel
theorem dX4_readValue_98 : decode cX4_readValue 98 = .ok (.getfield 19, 3) := by decide +kernel
theorem dX4_readValue_101 : decode cX4_readValue 101 = .ok (.bipush 60, 2) := by decide +kernel
theorem dX4_readValue_103 : decode cX4_readValue 103 = .ok (.if_icmp .lt 19, 3) := by decide +kernel
theorem dX4_readValue_106 : decode cX4_readValue 106 = .ok (.aload_n 0, 1) := by decide +kernel
theorem dX4_readValue_107 : decode cX4_readValue 107 = .ok (.getfield 26, 3) := by decide +kernel
theorem dX4_readValue_110 : decode cX4_readValue 110 = .ok (.aload_n 0, 1) := by decide +kernel
theorem dX4_readValue_111 : decode cX4_readValue 111 = .ok (.getfield 26, 3) := by decide +kernel
theorem dX4_readValue_114 : decode cX4_readValue 114 = .ok (.getfield 84, 3) := by decide +kernel
theorem dX4_readValue_117 : decode cX4_readValue 117 = .ok (.iconst 3, 1) := by decide +kernel
theorem dX4_readValue_118 : decode cX4_readValue 118 = .ok (.invokevirtual 80, 3) := by decide +kernel
theorem dX4_readValue_121 : decode cX4_readValue 121 = .ok (.ireturn, 1) := by decide +kernel
theorem dX4_readValue_122 : decode cX4_readValue 122 = .ok (.aload_n 0, 1) := by decide +kernel
theorem dX4_readValue_123 : decode cX4_readValue 123 = .ok (.dup, 1) := by decide +kernel
theorem dX4_readValue_124 : decode cX4_readValue 124 = .ok (.getfield 19, 3) := by decide +kernel
theorem dX4_readValue_127 : decode cX4_readValue 127 = .ok (.iconst 1, 1) := by decide +kernel
theorem dX4_readValue_128 : decode cX4_readValue 128 = .ok (.iadd, 1) := by decide +kernel
theorem dX4_readValue_129 : decode cX4_readValue 129 = .ok (.putfield 19, 3) := by decide +kernel
theorem dX4_readValue_132 : decode cX4_readValue 132 = .ok (.aload_n 0, 1) := by decide +kernel
theorem dX4_readValue_133 : decode cX4_readValue 133 = .ok (.iload_n 1, 1) := by decide +kernel
theorem dX4_readValue_134 : decode cX4_readValue 134 = .ok (.invokevirtual 63, 3) := by decide +kernel
theorem dX4_readValue_137 : decode cX4_readValue 137 = .ok (.ireturn, 1) := by decide +kernel
theorem dX4_write_0 : decode cX4_write 0 = .ok (.aload_n 0, 1) := by decide +kernel
theorem dX4_write_1 : decode cX4_write 1 = .ok (.getfield 15, 3) := by decide +kernel
theorem dX4_write_4 : decode cX4_write 4 = .ok (.aload_n 0, 1) := by decide +kernel
theorem dX4_write_5 : decode cX4_write 5 = .ok (.getfield 9, 3) := by decide +kernel
theorem dX4_write_8 : decode cX4_write 8 = .ok (.arraylength, 1) := by decide +kernel
theorem dX4_write_9 : decode cX4_write 9 = .ok (.if_icmp .ge 23, 3) := by decide +kernel
theorem dX4_write_12 : decode cX4_write 12 = .ok (.aload_n 0, 1) := by decide +kernel
theorem dX4_write_13 : decode cX4_write 13 = .ok (.getfield 9, 3) := by decide +kernel
theorem dX4_write_16 : decode cX4_write 16 = .ok (.aload_n 0, 1) := by decide +kernel
theorem dX4_write_17 : decode cX4_write 17 = .ok (.getfield 15, 3) := by decide +kernel
theorem dX4_write_20 : decode cX4_write 20 = .ok (.iload_n 1, 1) := by decide +kernel
theorem dX4_write_21 : decode cX4_write 21 = .ok (.iastore, 1) := by decide +kernel
theorem dX4_write_22 : decode cX4_write 22 = .ok (.aload_n 0, 1) := by decide +kernel
theorem dX4_write_23 : decode cX4_write 23 = .ok (.dup, 1) := by decide +kernel
theorem dX4_write_24 : decode cX4_write 24 = .ok (.getfield 15, 3) := by decide +kernel
theorem dX4_write_27 : decode cX4_write 27 = .ok (.iconst 1, 1) := by decide +kernel
theorem dX4_write_28 : decode cX4_write 28 = .ok (.iadd, 1) := by decide +kernel
theorem dX4_write_29 : decode cX4_write 29 = .ok (.putfield 15, 3) := by decide +kernel
theorem dX4_write_32 : decode cX4_write 32 = .ok (.iconst 1, 1) := by decide +kernel
theorem dX4_write_33 : decode cX4_write 33 = .ok (.ireturn, 1) := by decide +kernel
theorem dX5_init_0 : decode cX5_init 0 = .ok (.aload_n 0, 1) := by decide +kernel
theorem dX5_init_1 : decode cX5_init 1 = .ok (.invokespecial 3, 3) := by decide +kernel
theorem dX5_init_4 : decode cX5_init 4 = .ok (.aload_n 0, 1) := by decide +kernel
theorem dX5_init_5 : decode cX5_init 5 = .ok (.aconst_null, 1) := by decide +kernel
theorem dX5_init_6 : decode cX5_init 6 = .ok (.putfield 9, 3) := by decide +kernel
theorem dX5_init_9 : decode cX5_init 9 = .ok (.aload_n 0, 1) := by decide +kernel
theorem dX5_init_10 : decode cX5_init 10 = .ok (.bipush 11, 2) := by decide +kernel
theorem dX5_init_12 : decode cX5_init 12 = .ok (.newarray .long, 2) := by decide +kernel
theorem dX5_init_14 : decode cX5_init 14 = .ok (.putfield 17, 3) := by decide +kernel
theorem dX5_init_17 : decode cX5_init 17 = .ok (.aload_n 0, 1) := by decide +kernel
theorem dX5_init_18 : decode cX5_init 18 = .ok (.bipush 60, 2) := by decide +kernel
theorem dX5_init_20 : decode cX5_init 20 = .ok (.newarray .long, 2) := by decide +kernel
theorem dX5_init_22 : decode cX5_init 22 = .ok (.putfield 21, 3) := by decide +kernel
theorem dX5_init_25 : decode cX5_init 25 = .ok (.aload_n 0, 1) := by decide +kernel
theorem dX5_init_26 : decode cX5_init 26 = .ok (.bipush 10, 2) := by decide +kernel
theorem dX5_init_28 : decode cX5_init 28 = .ok (.newarray .int, 2) := by decide +kernel
theorem dX5_init_30 : decode cX5_init 30 = .ok (.putfield 24, 3) := by decide +kernel
theorem dX5_init_33 : decode cX5_init 33 = .ok (.return_, 1) := by decide +kernel
theorem dX5_mindsCrowd_0 : decode cX5_mindsCrowd 0 = .ok (.aload_n 0, 1) := by decide +kernel
theorem dX5_mindsCrowd_1 : decode cX5_mindsCrowd 1 = .ok (.getfield 9, 3) := by decide +kernel
theorem dX5_mindsCrowd_4 : decode cX5_mindsCrowd 4 = .ok (.ifnull 17, 3) := by decide +kernel
theorem dX5_mindsCrowd_7 : decode cX5_mindsCrowd 7 = .ok (.aload_n 0, 1) := by decide +kernel
theorem dX5_mindsCrowd_8 : decode cX5_mindsCrowd 8 = .ok (.getfield 9, 3) := by decide +kernel
theorem dX5_mindsCrowd_11 : decode cX5_mindsCrowd 11 = .ok (.getfield 28, 3) := by decide +kernel
theorem dX5_mindsCrowd_14 : decode cX5_mindsCrowd 14 = .ok (.ifCond .eq 7, 3) := by decide +kernel
theorem dX5_mindsCrowd_17 : decode cX5_mindsCrowd 17 = .ok (.iconst 1, 1) := by decide +kernel
theorem dX5_mindsCrowd_18 : decode cX5_mindsCrowd 18 = .ok (.goto 4, 3) := by decide +kernel
theorem dX5_mindsCrowd_21 : decode cX5_mindsCrowd 21 = .ok (.iconst 0, 1) := by decide +kernel
theorem dX5_mindsCrowd_22 : decode cX5_mindsCrowd 22 = .ok (.ireturn, 1) := by decide +kernel
set_option maxRecDepth 20000 in
theorem ggX5_worthOf_X8_metAhead : GoodIn wsX5_worthOf wsX8_metAhead := goodIn_r _ [12, 13, 14, 15, 16, 11, 17, 18, 19, 20, 21, 22, 23, 72, 73, 74, 75, 76, 77, 78, 79, 80, 81, 82] (by decide +kernel) (by decide +kernel)
set_option maxRecDepth 20000 in
theorem gX5_worthOf_X8_metAhead : GoodIn wsX5_worthOf (wsV RX5 32 RX8 yX8_metAhead wsX8_metAhead) := goodIn_app (goodIn_of _ (by decide +kernel)) ggX5_worthOf_X8_metAhead
set_option maxRecDepth 20000 in
theorem ggX5_worthOf_X8_areKin : GoodIn wsX5_worthOf wsX8_areKin := goodIn_r _ [27, 28, 14, 15, 16, 11, 17, 18, 72, 73, 74, 75, 76, 77, 78, 79, 80, 81, 82] (by decide +kernel) (by decide +kernel)
set_option maxRecDepth 20000 in
theorem gX5_worthOf_X8_areKin : GoodIn wsX5_worthOf (wsV RX5 38 RX8 yX8_areKin wsX8_areKin) := goodIn_app (goodIn_of _ (by decide +kernel)) ggX5_worthOf_X8_areKin
set_option maxRecDepth 20000 in
theorem ggX5_worthOf_X8_giftOf : GoodIn wsX5_worthOf wsX8_giftOf := goodIn_r _ [32, 33, 34, 35, 72, 73, 74, 75, 76, 77, 78, 79, 80, 81, 82] (by decide +kernel) (by decide +kernel)
set_option maxRecDepth 20000 in
theorem gX5_worthOf_X8_giftOf : GoodIn wsX5_worthOf (wsV RX5 42 RX8 yX8_giftOf wsX8_giftOf) := goodIn_app (goodIn_of _ (by decide +kernel)) ggX5_worthOf_X8_giftOf
set_option maxRecDepth 20000 in
theorem ggX5_worthOf_X8_placeOf : GoodIn wsX5_worthOf wsX8_placeOf := goodIn_r _ [39, 13, 14, 15, 16, 11, 17, 18, 19, 20, 21, 22, 23, 72, 73, 74, 75, 76, 77, 78, 79, 80, 81, 82] (by decide +kernel) (by decide +kernel)
set_option maxRecDepth 20000 in
theorem gX5_worthOf_X8_placeOf : GoodIn wsX5_worthOf (wsV RX5 46 RX8 yX8_placeOf wsX8_placeOf) := goodIn_app (goodIn_of _ (by decide +kernel)) ggX5_worthOf_X8_placeOf
set_option maxRecDepth 20000 in
theorem ggX5_worthOf_J6_bitCount_0f7a4 : GoodIn wsX5_worthOf wsJ6_bitCount_0f7a4 := goodIn_r _ [43, 44, 45, 46] (by decide +kernel) (by decide +kernel)
set_option maxRecDepth 20000 in
theorem gX5_worthOf_J6_bitCount_0f7a4 : GoodIn wsX5_worthOf (va_wsS RX5 57 yJ6_bitCount_0f7a4 wsJ6_bitCount_0f7a4) := goodIn_app (goodIn_of _ (by decide +kernel)) ggX5_worthOf_J6_bitCount_0f7a4
set_option maxRecDepth 20000 in
theorem ggX5_worthOf_X3_worthBy : GoodIn wsX5_worthOf wsX3_worthBy := goodIn_r _ [51, 52, 53, 54, 50, 55, 56, 57, 58, 59, 60, 61, 62, 63, 64, 65, 66, 67, 83, 84] (by decide +kernel) (by decide +kernel)
set_option maxRecDepth 20000 in
theorem gX5_worthOf_X3_worthBy : GoodIn wsX5_worthOf (wsV RX5 68 RX3 yX3_worthBy wsX3_worthBy) := goodIn_app (goodIn_of _ (by decide +kernel)) ggX5_worthOf_X3_worthBy
theorem dX5_worthOf_0 : decode cX5_worthOf 0 = .ok (.aload_n 1, 1) := by decide +kernel
theorem dX5_worthOf_1 : decode cX5_worthOf 1 = .ok (.iload_n 2, 1) := by decide +kernel
theorem dX5_worthOf_2 : decode cX5_worthOf 2 = .ok (.iload_n 3, 1) := by decide +kernel
theorem dX5_worthOf_3 : decode cX5_worthOf 3 = .ok (.iload 4, 2) := by decide +kernel
theorem dX5_worthOf_5 : decode cX5_worthOf 5 = .ok (.invokevirtual 32, 3) := by decide +kernel
theorem dX5_worthOf_8 : decode cX5_worthOf 8 = .ok (.istore 6, 2) := by decide +kernel
theorem dX5_worthOf_10 : decode cX5_worthOf 10 = .ok (.aload_n 1, 1) := by decide +kernel
theorem dX5_worthOf_11 : decode cX5_worthOf 11 = .ok (.iload_n 2, 1) := by decide +kernel
theorem dX5_worthOf_12 : decode cX5_worthOf 12 = .ok (.iload_n 3, 1) := by decide +kernel
theorem dX5_worthOf_13 : decode cX5_worthOf 13 = .ok (.invokevirtual 38, 3) := by decide +kernel
theorem dX5_worthOf_16 : decode cX5_worthOf 16 = .ok (.ifCond .eq 7, 3) := by decide +kernel
theorem dX5_worthOf_19 : decode cX5_worthOf 19 = .ok (.iconst 1, 1) := by decide +kernel
theorem dX5_worthOf_20 : decode cX5_worthOf 20 = .ok (.goto 4, 3) := by decide +kernel
theorem dX5_worthOf_23 : decode cX5_worthOf 23 = .ok (.iconst 0, 1) := by decide +kernel
theorem dX5_worthOf_24 : decode cX5_worthOf 24 = .ok (.istore 7, 2) := by decide +kernel
theorem dX5_worthOf_26 : decode cX5_worthOf 26 = .ok (.aload_n 0, 1) := by decide +kernel
theorem dX5_worthOf_27 : decode cX5_worthOf 27 = .ok (.getfield 9, 3) := by decide +kernel
theorem dX5_worthOf_30 : decode cX5_worthOf 30 = .ok (.ifnonnull 29, 3) := by decide +kernel
theorem dX5_worthOf_33 : decode cX5_worthOf 33 = .ok (.iload 6, 2) := by decide +kernel
theorem dX5_worthOf_35 : decode cX5_worthOf 35 = .ok (.ifCond .le 7, 3) := by decide +kernel
theorem dX5_worthOf_38 : decode cX5_worthOf 38 = .ok (.iconst 0, 1) := by decide +kernel
theorem dX5_worthOf_39 : decode cX5_worthOf 39 = .ok (.goto 19, 3) := by decide +kernel
theorem dX5_worthOf_42 : decode cX5_worthOf 42 = .ok (.aload_n 1, 1) := by decide +kernel
theorem dX5_worthOf_43 : decode cX5_worthOf 43 = .ok (.iload_n 2, 1) := by decide +kernel
theorem dX5_worthOf_44 : decode cX5_worthOf 44 = .ok (.invokevirtual 42, 3) := by decide +kernel
theorem dX5_worthOf_47 : decode cX5_worthOf 47 = .ok (.aload_n 1, 1) := by decide +kernel
theorem dX5_worthOf_48 : decode cX5_worthOf 48 = .ok (.iload_n 3, 1) := by decide +kernel
theorem dX5_worthOf_49 : decode cX5_worthOf 49 = .ok (.invokevirtual 42, 3) := by decide +kernel
theorem dX5_worthOf_52 : decode cX5_worthOf 52 = .ok (.iadd, 1) := by decide +kernel
theorem dX5_worthOf_53 : decode cX5_worthOf 53 = .ok (.iconst 1, 1) := by decide +kernel
theorem dX5_worthOf_54 : decode cX5_worthOf 54 = .ok (.iload 7, 2) := by decide +kernel
theorem dX5_worthOf_56 : decode cX5_worthOf 56 = .ok (.iadd, 1) := by decide +kernel
theorem dX5_worthOf_57 : decode cX5_worthOf 57 = .ok (.imul, 1) := by decide +kernel
theorem dX5_worthOf_58 : decode cX5_worthOf 58 = .ok (.ireturn, 1) := by decide +kernel
theorem dX5_worthOf_59 : decode cX5_worthOf 59 = .ok (.iconst 1, 1) := by decide +kernel
theorem dX5_worthOf_60 : decode cX5_worthOf 60 = .ok (.iload_n 2, 1) := by decide +kernel
theorem dX5_worthOf_61 : decode cX5_worthOf 61 = .ok (.ishl, 1) := by decide +kernel
theorem dX5_worthOf_62 : decode cX5_worthOf 62 = .ok (.iconst 1, 1) := by decide +kernel
theorem dX5_worthOf_63 : decode cX5_worthOf 63 = .ok (.iload_n 3, 1) := by decide +kernel
theorem dX5_worthOf_64 : decode cX5_worthOf 64 = .ok (.ishl, 1) := by decide +kernel
theorem dX5_worthOf_65 : decode cX5_worthOf 65 = .ok (.ior, 1) := by decide +kernel
theorem dX5_worthOf_66 : decode cX5_worthOf 66 = .ok (.istore 8, 2) := by decide +kernel
theorem dX5_worthOf_68 : decode cX5_worthOf 68 = .ok (.aload_n 0, 1) := by decide +kernel
theorem dX5_worthOf_69 : decode cX5_worthOf 69 = .ok (.getfield 17, 3) := by decide +kernel
theorem dX5_worthOf_72 : decode cX5_worthOf 72 = .ok (.iconst 0, 1) := by decide +kernel
theorem dX5_worthOf_73 : decode cX5_worthOf 73 = .ok (.iload_n 2, 1) := by decide +kernel
theorem dX5_worthOf_74 : decode cX5_worthOf 74 = .ok (.i2l, 1) := by decide +kernel
theorem dX5_worthOf_75 : decode cX5_worthOf 75 = .ok (.lastore, 1) := by decide +kernel
theorem dX5_worthOf_76 : decode cX5_worthOf 76 = .ok (.aload_n 0, 1) := by decide +kernel
theorem dX5_worthOf_77 : decode cX5_worthOf 77 = .ok (.getfield 17, 3) := by decide +kernel
theorem dX5_worthOf_80 : decode cX5_worthOf 80 = .ok (.iconst 1, 1) := by decide +kernel
theorem dX5_worthOf_81 : decode cX5_worthOf 81 = .ok (.iload_n 3, 1) := by decide +kernel
theorem dX5_worthOf_82 : decode cX5_worthOf 82 = .ok (.i2l, 1) := by decide +kernel
theorem dX5_worthOf_83 : decode cX5_worthOf 83 = .ok (.lastore, 1) := by decide +kernel
theorem dX5_worthOf_84 : decode cX5_worthOf 84 = .ok (.aload_n 0, 1) := by decide +kernel
theorem dX5_worthOf_85 : decode cX5_worthOf 85 = .ok (.getfield 17, 3) := by decide +kernel
theorem dX5_worthOf_88 : decode cX5_worthOf 88 = .ok (.iconst 2, 1) := by decide +kernel
theorem dX5_worthOf_89 : decode cX5_worthOf 89 = .ok (.aload_n 1, 1) := by decide +kernel
theorem dX5_worthOf_90 : decode cX5_worthOf 90 = .ok (.iload_n 2, 1) := by decide +kernel
theorem dX5_worthOf_91 : decode cX5_worthOf 91 = .ok (.iload 4, 2) := by decide +kernel
theorem dX5_worthOf_93 : decode cX5_worthOf 93 = .ok (.invokevirtual 46, 3) := by decide +kernel
theorem dX5_worthOf_96 : decode cX5_worthOf 96 = .ok (.i2l, 1) := by decide +kernel
theorem dX5_worthOf_97 : decode cX5_worthOf 97 = .ok (.lastore, 1) := by decide +kernel
theorem dX5_worthOf_98 : decode cX5_worthOf 98 = .ok (.aload_n 0, 1) := by decide +kernel
theorem dX5_worthOf_99 : decode cX5_worthOf 99 = .ok (.getfield 17, 3) := by decide +kernel
theorem dX5_worthOf_102 : decode cX5_worthOf 102 = .ok (.iconst 3, 1) := by decide +kernel
theorem dX5_worthOf_103 : decode cX5_worthOf 103 = .ok (.iload 4, 2) := by decide +kernel
theorem dX5_worthOf_105 : decode cX5_worthOf 105 = .ok (.i2l, 1) := by decide +kernel
theorem dX5_worthOf_106 : decode cX5_worthOf 106 = .ok (.lastore, 1) := by decide +kernel
theorem dX5_worthOf_107 : decode cX5_worthOf 107 = .ok (.aload_n 0, 1) := by decide +kernel
theorem dX5_worthOf_108 : decode cX5_worthOf 108 = .ok (.getfield 17, 3) := by decide +kernel
theorem dX5_worthOf_111 : decode cX5_worthOf 111 = .ok (.iconst 4, 1) := by decide +kernel
theorem dX5_worthOf_112 : decode cX5_worthOf 112 = .ok (.aload_n 1, 1) := by decide +kernel
theorem dX5_worthOf_113 : decode cX5_worthOf 113 = .ok (.getfield 50, 3) := by decide +kernel
theorem dX5_worthOf_116 : decode cX5_worthOf 116 = .ok (.i2l, 1) := by decide +kernel
theorem dX5_worthOf_117 : decode cX5_worthOf 117 = .ok (.lastore, 1) := by decide +kernel
theorem dX5_worthOf_118 : decode cX5_worthOf 118 = .ok (.aload_n 0, 1) := by decide +kernel
theorem dX5_worthOf_119 : decode cX5_worthOf 119 = .ok (.getfield 17, 3) := by decide +kernel
theorem dX5_worthOf_122 : decode cX5_worthOf 122 = .ok (.iconst 5, 1) := by decide +kernel
theorem dX5_worthOf_123 : decode cX5_worthOf 123 = .ok (.iload 6, 2) := by decide +kernel
theorem dX5_worthOf_125 : decode cX5_worthOf 125 = .ok (.i2l, 1) := by decide +kernel
theorem dX5_worthOf_126 : decode cX5_worthOf 126 = .ok (.lastore, 1) := by decide +kernel
theorem dX5_worthOf_127 : decode cX5_worthOf 127 = .ok (.aload_n 0, 1) := by decide +kernel
theorem dX5_worthOf_128 : decode cX5_worthOf 128 = .ok (.getfield 17, 3) := by decide +kernel
theorem dX5_worthOf_131 : decode cX5_worthOf 131 = .ok (.bipush 6, 2) := by decide +kernel
theorem dX5_worthOf_133 : decode cX5_worthOf 133 = .ok (.iload 7, 2) := by decide +kernel
theorem dX5_worthOf_135 : decode cX5_worthOf 135 = .ok (.i2l, 1) := by decide +kernel
theorem dX5_worthOf_136 : decode cX5_worthOf 136 = .ok (.lastore, 1) := by decide +kernel
theorem dX5_worthOf_137 : decode cX5_worthOf 137 = .ok (.aload_n 0, 1) := by decide +kernel
theorem dX5_worthOf_138 : decode cX5_worthOf 138 = .ok (.getfield 17, 3) := by decide +kernel
theorem dX5_worthOf_141 : decode cX5_worthOf 141 = .ok (.bipush 7, 2) := by decide +kernel
theorem dX5_worthOf_143 : decode cX5_worthOf 143 = .ok (.aload_n 1, 1) := by decide +kernel
theorem dX5_worthOf_144 : decode cX5_worthOf 144 = .ok (.getfield 54, 3) := by decide +kernel
theorem dX5_worthOf_147 : decode cX5_worthOf 147 = .ok (.iload 8, 2) := by decide +kernel
theorem dX5_worthOf_149 : decode cX5_worthOf 149 = .ok (.iand, 1) := by decide +kernel
theorem dX5_worthOf_150 : decode cX5_worthOf 150 = .ok (.invokestatic 57, 3) := by decide +kernel
theorem dX5_worthOf_153 : decode cX5_worthOf 153 = .ok (.i2l, 1) := by decide +kernel
theorem dX5_worthOf_154 : decode cX5_worthOf 154 = .ok (.lastore, 1) := by decide +kernel
theorem dX5_worthOf_155 : decode cX5_worthOf 155 = .ok (.aload_n 0, 1) := by decide +kernel
theorem dX5_worthOf_156 : decode cX5_worthOf 156 = .ok (.getfield 17, 3) := by decide +kernel
theorem dX5_worthOf_159 : decode cX5_worthOf 159 = .ok (.bipush 8, 2) := by decide +kernel
theorem dX5_worthOf_161 : decode cX5_worthOf 161 = .ok (.aload_n 1, 1) := by decide +kernel
theorem dX5_worthOf_162 : decode cX5_worthOf 162 = .ok (.getfield 62, 3) := by decide +kernel
theorem dX5_worthOf_165 : decode cX5_worthOf 165 = .ok (.iload 8, 2) := by decide +kernel
theorem dX5_worthOf_167 : decode cX5_worthOf 167 = .ok (.iand, 1) := by decide +kernel
theorem dX5_worthOf_168 : decode cX5_worthOf 168 = .ok (.invokestatic 57, 3) := by decide +kernel
theorem dX5_worthOf_171 : decode cX5_worthOf 171 = .ok (.i2l, 1) := by decide +kernel
theorem dX5_worthOf_172 : decode cX5_worthOf 172 = .ok (.lastore, 1) := by decide +kernel
theorem dX5_worthOf_173 : decode cX5_worthOf 173 = .ok (.aload_n 0, 1) := by decide +kernel
theorem dX5_worthOf_174 : decode cX5_worthOf 174 = .ok (.getfield 17, 3) := by decide +kernel
theorem dX5_worthOf_177 : decode cX5_worthOf 177 = .ok (.bipush 9, 2) := by decide +kernel
theorem dX5_worthOf_179 : decode cX5_worthOf 179 = .ok (.aload_n 1, 1) := by decide +kernel
theorem dX5_worthOf_180 : decode cX5_worthOf 180 = .ok (.getfield 65, 3) := by decide +kernel
theorem dX5_worthOf_183 : decode cX5_worthOf 183 = .ok (.iload 8, 2) := by decide +kernel
theorem dX5_worthOf_185 : decode cX5_worthOf 185 = .ok (.iand, 1) := by decide +kernel
theorem dX5_worthOf_186 : decode cX5_worthOf 186 = .ok (.invokestatic 57, 3) := by decide +kernel
theorem dX5_worthOf_189 : decode cX5_worthOf 189 = .ok (.i2l, 1) := by decide +kernel
theorem dX5_worthOf_190 : decode cX5_worthOf 190 = .ok (.lastore, 1) := by decide +kernel
theorem dX5_worthOf_191 : decode cX5_worthOf 191 = .ok (.aload_n 0, 1) := by decide +kernel
theorem dX5_worthOf_192 : decode cX5_worthOf 192 = .ok (.getfield 17, 3) := by decide +kernel
theorem dX5_worthOf_195 : decode cX5_worthOf 195 = .ok (.bipush 10, 2) := by decide +kernel
theorem dX5_worthOf_197 : decode cX5_worthOf 197 = .ok (.iload 5, 2) := by decide +kernel
theorem dX5_worthOf_199 : decode cX5_worthOf 199 = .ok (.i2l, 1) := by decide +kernel
theorem dX5_worthOf_200 : decode cX5_worthOf 200 = .ok (.lastore, 1) := by decide +kernel
theorem dX5_worthOf_201 : decode cX5_worthOf 201 = .ok (.aload_n 0, 1) := by decide +kernel
theorem dX5_worthOf_202 : decode cX5_worthOf 202 = .ok (.getfield 9, 3) := by decide +kernel
theorem dX5_worthOf_205 : decode cX5_worthOf 205 = .ok (.aload_n 0, 1) := by decide +kernel
theorem dX5_worthOf_206 : decode cX5_worthOf 206 = .ok (.getfield 17, 3) := by decide +kernel
theorem dX5_worthOf_209 : decode cX5_worthOf 209 = .ok (.aload_n 0, 1) := by decide +kernel
theorem dX5_worthOf_210 : decode cX5_worthOf 210 = .ok (.getfield 21, 3) := by decide +kernel
theorem dX5_worthOf_213 : decode cX5_worthOf 213 = .ok (.invokevirtual 68, 3) := by decide +kernel
theorem dX5_worthOf_216 : decode cX5_worthOf 216 = .ok (.ireturn, 1) := by decide +kernel
set_option maxRecDepth 20000 in
theorem ggX5_sumOf_X8_those : GoodIn wsX5_sumOf wsX8_those := goodIn_r _ [6, 7, 8, 9, 10, 5, 11, 12, 13, 14, 15, 16, 17, 91, 92, 93, 94, 95, 96, 97, 98, 99, 100, 101] (by decide +kernel) (by decide +kernel)
set_option maxRecDepth 20000 in
theorem gX5_sumOf_X8_those : GoodIn wsX5_sumOf (wsV RX5 72 RX8 yX8_those wsX8_those) := goodIn_app (goodIn_of _ (by decide +kernel)) ggX5_sumOf_X8_those
set_option maxRecDepth 20000 in
theorem ggX5_sumOf_X11_listMembers : GoodIn wsX5_sumOf wsX11_listMembers := goodIn_r _ [20] (by decide +kernel) (by decide +kernel)
set_option maxRecDepth 20000 in
theorem gX5_sumOf_X11_listMembers_n75 : GoodIn wsX5_sumOf (wsX11_listMembers) := ggX5_sumOf_X11_listMembers
set_option maxRecDepth 20000 in
theorem ggX5_sumOf_X5_worthOf : GoodIn wsX5_sumOf wsX5_worthOf := goodIn_r _ [25, 26, 27, 28, 29, 30, 31, 32, 33, 34, 35, 5, 36, 37, 38, 39, 40, 41, 42, 13, 14, 15, 16, 17, 43, 44, 45, 46, 47, 48, 49, 50, 51, 52, 53, 54, 55, 56, 57, 58, 59, 60, 61, 62, 63, 64, 65, 66, 67, 68, 69, 70, 71, 72, 73, 74, 75, 76, 77, 78, 79, 80, 81, 82, 83, 84, 85, 86, 87, 88, 89, 90, 91, 92, 93, 94, 95, 96, 97, 98, 99, 100, 101, 102, 103] (by decide +kernel) (by decide +kernel)
set_option maxRecDepth 20000 in
theorem gX5_sumOf_X5_worthOf : GoodIn wsX5_sumOf (wsV RX5 79 RX5 yX5_worthOf wsX5_worthOf) := goodIn_app (goodIn_of _ (by decide +kernel)) ggX5_sumOf_X5_worthOf
theorem dX5_sumOf_0 : decode cX5_sumOf 0 = .ok (.aload_n 1, 1) := by decide +kernel
theorem dX5_sumOf_1 : decode cX5_sumOf 1 = .ok (.iload_n 2, 1) := by decide +kernel
theorem dX5_sumOf_2 : decode cX5_sumOf 2 = .ok (.iload_n 3, 1) := by decide +kernel
theorem dX5_sumOf_3 : decode cX5_sumOf 3 = .ok (.invokevirtual 72, 3) := by decide +kernel
theorem dX5_sumOf_6 : decode cX5_sumOf 6 = .ok (.aload_n 0, 1) := by decide +kernel
theorem dX5_sumOf_7 : decode cX5_sumOf 7 = .ok (.getfield 24, 3) := by decide +kernel
theorem dX5_sumOf_10 : decode cX5_sumOf 10 = .ok (.invokestatic 75, 3) := by decide +kernel
theorem dX5_sumOf_13 : decode cX5_sumOf 13 = .ok (.istore 4, 2) := by decide +kernel
theorem dX5_sumOf_15 : decode cX5_sumOf 15 = .ok (.iconst 0, 1) := by decide +kernel
theorem dX5_sumOf_16 : decode cX5_sumOf 16 = .ok (.istore 5, 2) := by decide +kernel
theorem dX5_sumOf_18 : decode cX5_sumOf 18 = .ok (.iconst 0, 1) := by decide +kernel
theorem dX5_sumOf_19 : decode cX5_sumOf 19 = .ok (.istore 6, 2) := by decide +kernel
theorem dX5_sumOf_21 : decode cX5_sumOf 21 = .ok (.iload 6, 2) := by decide +kernel
theorem dX5_sumOf_23 : decode cX5_sumOf 23 = .ok (.iload 4, 2) := by decide +kernel
theorem dX5_sumOf_25 : decode cX5_sumOf 25 = .ok (.if_icmp .ge 55, 3) := by decide +kernel
theorem dX5_sumOf_28 : decode cX5_sumOf 28 = .ok (.iload 6, 2) := by decide +kernel
theorem dX5_sumOf_30 : decode cX5_sumOf 30 = .ok (.iconst 1, 1) := by decide +kernel
theorem dX5_sumOf_31 : decode cX5_sumOf 31 = .ok (.iadd, 1) := by decide +kernel
theorem dX5_sumOf_32 : decode cX5_sumOf 32 = .ok (.istore 7, 2) := by decide +kernel
theorem dX5_sumOf_34 : decode cX5_sumOf 34 = .ok (.iload 7, 2) := by decide +kernel
theorem dX5_sumOf_36 : decode cX5_sumOf 36 = .ok (.iload 4, 2) := by decide +kernel
theorem dX5_sumOf_38 : decode cX5_sumOf 38 = .ok (.if_icmp .ge 36, 3) := by decide +kernel
theorem dX5_sumOf_41 : decode cX5_sumOf 41 = .ok (.iload 5, 2) := by decide +kernel
theorem dX5_sumOf_43 : decode cX5_sumOf 43 = .ok (.aload_n 0, 1) := by decide +kernel
theorem dX5_sumOf_44 : decode cX5_sumOf 44 = .ok (.aload_n 1, 1) := by decide +kernel
theorem dX5_sumOf_45 : decode cX5_sumOf 45 = .ok (.aload_n 0, 1) := by decide +kernel
theorem dX5_sumOf_46 : decode cX5_sumOf 46 = .ok (.getfield 24, 3) := by decide +kernel
theorem dX5_sumOf_49 : decode cX5_sumOf 49 = .ok (.iload 6, 2) := by decide +kernel
theorem dX5_sumOf_51 : decode cX5_sumOf 51 = .ok (.iaload, 1) := by decide +kernel
theorem dX5_sumOf_52 : decode cX5_sumOf 52 = .ok (.aload_n 0, 1) := by decide +kernel
theorem dX5_sumOf_53 : decode cX5_sumOf 53 = .ok (.getfield 24, 3) := by decide +kernel
theorem dX5_sumOf_56 : decode cX5_sumOf 56 = .ok (.iload 7, 2) := by decide +kernel
theorem dX5_sumOf_58 : decode cX5_sumOf 58 = .ok (.iaload, 1) := by decide +kernel
theorem dX5_sumOf_59 : decode cX5_sumOf 59 = .ok (.iload_n 3, 1) := by decide +kernel
theorem dX5_sumOf_60 : decode cX5_sumOf 60 = .ok (.iload 4, 2) := by decide +kernel
theorem dX5_sumOf_62 : decode cX5_sumOf 62 = .ok (.invokevirtual 79, 3) := by decide +kernel
theorem dX5_sumOf_65 : decode cX5_sumOf 65 = .ok (.iadd, 1) := by decide +kernel
theorem dX5_sumOf_66 : decode cX5_sumOf 66 = .ok (.istore 5, 2) := by decide +kernel
theorem dX5_sumOf_68 : decode cX5_sumOf 68 = .ok (.iinc 7 1, 3) := by decide +kernel
theorem dX5_sumOf_71 : decode cX5_sumOf 71 = .ok (.goto (-37), 3) := by decide +kernel
theorem dX5_sumOf_74 : decode cX5_sumOf 74 = .ok (.iinc 6 1, 3) := by decide +kernel
theorem dX5_sumOf_77 : decode cX5_sumOf 77 = .ok (.goto (-56), 3) := by decide +kernel
theorem dX5_sumOf_80 : decode cX5_sumOf 80 = .ok (.iload 5, 2) := by decide +kernel
theorem dX5_sumOf_82 : decode cX5_sumOf 82 = .ok (.ireturn, 1) := by decide +kernel
set_option maxRecDepth 20000 in
theorem ggX5_streetOf_X5_sumOf : GoodIn wsX5_streetOf wsX5_sumOf := goodIn_r _ [6, 7, 8, 9, 10, 11, 12, 13, 14, 15, 16, 17, 18, 19, 20, 21, 22, 23, 24, 25, 26, 27, 28, 29, 5, 30, 31, 32, 33, 34, 35, 36, 37, 38, 39, 40, 41, 42, 43, 44, 45, 46, 47, 48, 49, 50, 51, 52, 53, 54, 55, 56, 57, 58, 59, 60, 61, 62, 63, 64, 65, 66, 67, 68, 69, 70, 71, 72, 73, 74, 75, 76, 77, 78, 79, 80, 81, 82, 83, 84, 85, 86, 87, 88, 89, 90, 91, 103, 104, 105, 106, 92, 93, 94, 95, 96, 97, 98, 99, 100, 101, 102, 107, 108] (by decide +kernel) (by decide +kernel)
set_option maxRecDepth 20000 in
theorem gX5_streetOf_X5_sumOf : GoodIn wsX5_streetOf (wsV RX5 86 RX5 yX5_sumOf wsX5_sumOf) := goodIn_app (goodIn_of _ (by decide +kernel)) ggX5_streetOf_X5_sumOf
theorem dX5_streetOf_0 : decode cX5_streetOf 0 = .ok (.iconst 0, 1) := by decide +kernel
theorem dX5_streetOf_1 : decode cX5_streetOf 1 = .ok (.istore 5, 2) := by decide +kernel
theorem dX5_streetOf_3 : decode cX5_streetOf 3 = .ok (.iload_n 3, 1) := by decide +kernel
theorem dX5_streetOf_4 : decode cX5_streetOf 4 = .ok (.istore 6, 2) := by decide +kernel
theorem dX5_streetOf_6 : decode cX5_streetOf 6 = .ok (.iload 6, 2) := by decide +kernel
theorem dX5_streetOf_8 : decode cX5_streetOf 8 = .ok (.iload 4, 2) := by decide +kernel
theorem dX5_streetOf_10 : decode cX5_streetOf 10 = .ok (.if_icmp .gt 50, 3) := by decide +kernel
theorem dX5_streetOf_13 : decode cX5_streetOf 13 = .ok (.iconst 0, 1) := by decide +kernel
theorem dX5_streetOf_14 : decode cX5_streetOf 14 = .ok (.istore 7, 2) := by decide +kernel
theorem dX5_streetOf_16 : decode cX5_streetOf 16 = .ok (.iload 7, 2) := by decide +kernel
theorem dX5_streetOf_18 : decode cX5_streetOf 18 = .ok (.aload_n 1, 1) := by decide +kernel
theorem dX5_streetOf_19 : decode cX5_streetOf 19 = .ok (.getfield 83, 3) := by decide +kernel
theorem dX5_streetOf_22 : decode cX5_streetOf 22 = .ok (.if_icmp .ge 32, 3) := by decide +kernel
theorem dX5_streetOf_25 : decode cX5_streetOf 25 = .ok (.iload_n 2, 1) := by decide +kernel
theorem dX5_streetOf_26 : decode cX5_streetOf 26 = .ok (.iload 7, 2) := by decide +kernel
theorem dX5_streetOf_28 : decode cX5_streetOf 28 = .ok (.ishr, 1) := by decide +kernel
theorem dX5_streetOf_29 : decode cX5_streetOf 29 = .ok (.iconst 1, 1) := by decide +kernel
theorem dX5_streetOf_30 : decode cX5_streetOf 30 = .ok (.iand, 1) := by decide +kernel
theorem dX5_streetOf_31 : decode cX5_streetOf 31 = .ok (.ifCond .eq 17, 3) := by decide +kernel
theorem dX5_streetOf_34 : decode cX5_streetOf 34 = .ok (.iload 5, 2) := by decide +kernel
theorem dX5_streetOf_36 : decode cX5_streetOf 36 = .ok (.aload_n 0, 1) := by decide +kernel
theorem dX5_streetOf_37 : decode cX5_streetOf 37 = .ok (.aload_n 1, 1) := by decide +kernel
theorem dX5_streetOf_38 : decode cX5_streetOf 38 = .ok (.iload 7, 2) := by decide +kernel
theorem dX5_streetOf_40 : decode cX5_streetOf 40 = .ok (.iload 6, 2) := by decide +kernel
theorem dX5_streetOf_42 : decode cX5_streetOf 42 = .ok (.invokevirtual 86, 3) := by decide +kernel
theorem dX5_streetOf_45 : decode cX5_streetOf 45 = .ok (.iadd, 1) := by decide +kernel
theorem dX5_streetOf_46 : decode cX5_streetOf 46 = .ok (.istore 5, 2) := by decide +kernel
theorem dX5_streetOf_48 : decode cX5_streetOf 48 = .ok (.iinc 7 1, 3) := by decide +kernel
theorem dX5_streetOf_51 : decode cX5_streetOf 51 = .ok (.goto (-35), 3) := by decide +kernel
theorem dX5_streetOf_54 : decode cX5_streetOf 54 = .ok (.iinc 6 1, 3) := by decide +kernel
theorem dX5_streetOf_57 : decode cX5_streetOf 57 = .ok (.goto (-51), 3) := by decide +kernel
theorem dX5_streetOf_60 : decode cX5_streetOf 60 = .ok (.iload 5, 2) := by decide +kernel
theorem dX5_streetOf_62 : decode cX5_streetOf 62 = .ok (.ireturn, 1) := by decide +kernel
set_option maxRecDepth 20000 in
theorem ggX5_totalOf_X5_streetOf : GoodIn wsX5_totalOf wsX5_streetOf := goodIn_r _ [7, 1, 8, 9, 10, 6, 11, 12, 13, 14, 15, 16, 17, 18, 19, 20, 21, 22, 23, 24, 25, 26, 27, 28, 29, 30, 31, 32, 33, 34, 35, 36, 37, 38, 39, 40, 41, 42, 43, 44, 45, 46, 47, 48, 49, 50, 51, 52, 53, 54, 55, 56, 57, 58, 59, 60, 61, 62, 63, 64, 65, 66, 67, 68, 69, 70, 71, 72, 73, 74, 75, 76, 77, 78, 79, 80, 81, 82, 83, 84, 85, 86, 87, 88, 89, 90, 91, 92, 93, 94, 95, 96, 97, 98, 99, 100, 101, 102, 103, 104, 105, 106, 107, 108, 109, 110, 111, 112, 113] (by decide +kernel) (by decide +kernel)
set_option maxRecDepth 20000 in
theorem gX5_totalOf_X5_streetOf : GoodIn wsX5_totalOf (wsV RX5 93 RX5 yX5_streetOf wsX5_streetOf) := goodIn_app (goodIn_of _ (by decide +kernel)) ggX5_totalOf_X5_streetOf
theorem dX5_totalOf_0 : decode cX5_totalOf 0 = .ok (.aload_n 0, 1) := by decide +kernel
theorem dX5_totalOf_1 : decode cX5_totalOf 1 = .ok (.aload_n 1, 1) := by decide +kernel
theorem dX5_totalOf_2 : decode cX5_totalOf 2 = .ok (.iconst 1, 1) := by decide +kernel
theorem dX5_totalOf_3 : decode cX5_totalOf 3 = .ok (.aload_n 1, 1) := by decide +kernel
theorem dX5_totalOf_4 : decode cX5_totalOf 4 = .ok (.getfield 83, 3) := by decide +kernel
theorem dX5_totalOf_7 : decode cX5_totalOf 7 = .ok (.ishl, 1) := by decide +kernel
theorem dX5_totalOf_8 : decode cX5_totalOf 8 = .ok (.iconst 1, 1) := by decide +kernel
theorem dX5_totalOf_9 : decode cX5_totalOf 9 = .ok (.isub, 1) := by decide +kernel
theorem dX5_totalOf_10 : decode cX5_totalOf 10 = .ok (.iconst 0, 1) := by decide +kernel
theorem dX5_totalOf_11 : decode cX5_totalOf 11 = .ok (.aload_n 1, 1) := by decide +kernel
theorem dX5_totalOf_12 : decode cX5_totalOf 12 = .ok (.getfield 90, 3) := by decide +kernel
theorem dX5_totalOf_15 : decode cX5_totalOf 15 = .ok (.iconst 1, 1) := by decide +kernel
theorem dX5_totalOf_16 : decode cX5_totalOf 16 = .ok (.isub, 1) := by decide +kernel
theorem dX5_totalOf_17 : decode cX5_totalOf 17 = .ok (.invokevirtual 93, 3) := by decide +kernel
theorem dX5_totalOf_20 : decode cX5_totalOf 20 = .ok (.ireturn, 1) := by decide +kernel
set_option maxRecDepth 20000 in
theorem ggX5_dayOf_X8_areTogether : GoodIn wsX5_dayOf wsX8_areTogether := goodIn_r _ [6, 7, 8, 9, 5, 10, 11, 12, 13, 14, 15, 16, 17, 18, 19, 20, 21, 89, 90, 91, 92, 93, 94, 95, 96, 97, 98, 99] (by decide +kernel) (by decide +kernel)
set_option maxRecDepth 20000 in
theorem gX5_dayOf_X8_areTogether : GoodIn wsX5_dayOf (wsV RX5 97 RX8 yX8_areTogether wsX8_areTogether) := goodIn_app (goodIn_of _ (by decide +kernel)) ggX5_dayOf_X8_areTogether
set_option maxRecDepth 20000 in
theorem ggX5_dayOf_X8_placeOf : GoodIn wsX5_dayOf wsX8_placeOf := goodIn_r _ [10, 11, 12, 13, 14, 5, 15, 16, 17, 18, 19, 20, 21, 89, 90, 91, 92, 93, 94, 95, 96, 97, 98, 99] (by decide +kernel) (by decide +kernel)
set_option maxRecDepth 20000 in
theorem gX5_dayOf_X8_placeOf : GoodIn wsX5_dayOf (wsV RX5 46 RX8 yX8_placeOf wsX8_placeOf) := goodIn_app (goodIn_of _ (by decide +kernel)) ggX5_dayOf_X8_placeOf
set_option maxRecDepth 20000 in
theorem ggX5_dayOf_X8_those : GoodIn wsX5_dayOf wsX8_those := goodIn_r _ [26, 27, 28, 29, 30, 5, 31, 32, 17, 18, 19, 20, 21, 89, 90, 91, 92, 93, 94, 95, 96, 97, 98, 99] (by decide +kernel) (by decide +kernel)
set_option maxRecDepth 20000 in
theorem gX5_dayOf_X8_those : GoodIn wsX5_dayOf (wsV RX5 72 RX8 yX8_those wsX8_those) := goodIn_app (goodIn_of _ (by decide +kernel)) ggX5_dayOf_X8_those
set_option maxRecDepth 20000 in
theorem ggX5_dayOf_J6_bitCount_0f7a4 : GoodIn wsX5_dayOf wsJ6_bitCount_0f7a4 := goodIn_r _ [36, 37, 38, 39] (by decide +kernel) (by decide +kernel)
set_option maxRecDepth 20000 in
theorem gX5_dayOf_J6_bitCount_0f7a4 : GoodIn wsX5_dayOf (va_wsS RX5 57 yJ6_bitCount_0f7a4 wsJ6_bitCount_0f7a4) := goodIn_app (goodIn_of _ (by decide +kernel)) ggX5_dayOf_J6_bitCount_0f7a4
set_option maxRecDepth 20000 in
theorem ggX5_dayOf_X5_worthOf : GoodIn wsX5_dayOf wsX5_worthOf := goodIn_r _ [44, 45, 46, 47, 48, 49, 50, 51, 52, 53, 54, 5, 55, 11, 12, 13, 14, 15, 16, 17, 18, 19, 20, 21, 56, 57, 58, 59, 60, 61, 62, 63, 64, 65, 66, 67, 22, 8, 9, 10, 33, 34, 35, 36, 37, 38, 39, 68, 69, 70, 71, 72, 73, 74, 75, 76, 77, 78, 79, 80, 81, 82, 83, 84, 85, 86, 87, 88, 100, 101, 102, 103, 89, 90, 91, 92, 93, 94, 95, 96, 97, 98, 99, 104, 105] (by decide +kernel) (by decide +kernel)
set_option maxRecDepth 20000 in
theorem gX5_dayOf_X5_worthOf : GoodIn wsX5_dayOf (wsV RX5 79 RX5 yX5_worthOf wsX5_worthOf) := goodIn_app (goodIn_of _ (by decide +kernel)) ggX5_dayOf_X5_worthOf
theorem dX5_dayOf_0 : decode cX5_dayOf 0 = .ok (.iconst 0, 1) := by decide +kernel
theorem dX5_dayOf_1 : decode cX5_dayOf 1 = .ok (.istore 4, 2) := by decide +kernel
theorem dX5_dayOf_3 : decode cX5_dayOf 3 = .ok (.iconst 0, 1) := by decide +kernel
theorem dX5_dayOf_4 : decode cX5_dayOf 4 = .ok (.istore 5, 2) := by decide +kernel
theorem dX5_dayOf_6 : decode cX5_dayOf 6 = .ok (.iload 5, 2) := by decide +kernel
theorem dX5_dayOf_8 : decode cX5_dayOf 8 = .ok (.aload_n 1, 1) := by decide +kernel
theorem dX5_dayOf_9 : decode cX5_dayOf 9 = .ok (.getfield 90, 3) := by decide +kernel
theorem dX5_dayOf_12 : decode cX5_dayOf 12 = .ok (.if_icmp .ge 54, 3) := by decide +kernel
theorem dX5_dayOf_15 : decode cX5_dayOf 15 = .ok (.aload_n 1, 1) := by decide +kernel
theorem dX5_dayOf_16 : decode cX5_dayOf 16 = .ok (.iload_n 2, 1) := by decide +kernel
theorem dX5_dayOf_17 : decode cX5_dayOf 17 = .ok (.iload_n 3, 1) := by decide +kernel
theorem dX5_dayOf_18 : decode cX5_dayOf 18 = .ok (.iload 5, 2) := by decide +kernel
theorem dX5_dayOf_20 : decode cX5_dayOf 20 = .ok (.invokevirtual 97, 3) := by decide +kernel
theorem dX5_dayOf_23 : decode cX5_dayOf 23 = .ok (.ifCond .eq 37, 3) := by decide +kernel
theorem dX5_dayOf_26 : decode cX5_dayOf 26 = .ok (.aload_n 1, 1) := by decide +kernel
theorem dX5_dayOf_27 : decode cX5_dayOf 27 = .ok (.aload_n 1, 1) := by decide +kernel
theorem dX5_dayOf_28 : decode cX5_dayOf 28 = .ok (.iload_n 2, 1) := by decide +kernel
theorem dX5_dayOf_29 : decode cX5_dayOf 29 = .ok (.iload 5, 2) := by decide +kernel
theorem dX5_dayOf_31 : decode cX5_dayOf 31 = .ok (.invokevirtual 46, 3) := by decide +kernel
theorem dX5_dayOf_34 : decode cX5_dayOf 34 = .ok (.iload 5, 2) := by decide +kernel
theorem dX5_dayOf_36 : decode cX5_dayOf 36 = .ok (.invokevirtual 72, 3) := by decide +kernel
theorem dX5_dayOf_39 : decode cX5_dayOf 39 = .ok (.invokestatic 57, 3) := by decide +kernel
theorem dX5_dayOf_42 : decode cX5_dayOf 42 = .ok (.istore 6, 2) := by decide +kernel
theorem dX5_dayOf_44 : decode cX5_dayOf 44 = .ok (.iload 4, 2) := by decide +kernel
theorem dX5_dayOf_46 : decode cX5_dayOf 46 = .ok (.aload_n 0, 1) := by decide +kernel
theorem dX5_dayOf_47 : decode cX5_dayOf 47 = .ok (.aload_n 1, 1) := by decide +kernel
theorem dX5_dayOf_48 : decode cX5_dayOf 48 = .ok (.iload_n 2, 1) := by decide +kernel
theorem dX5_dayOf_49 : decode cX5_dayOf 49 = .ok (.iload_n 3, 1) := by decide +kernel
theorem dX5_dayOf_50 : decode cX5_dayOf 50 = .ok (.iload 5, 2) := by decide +kernel
theorem dX5_dayOf_52 : decode cX5_dayOf 52 = .ok (.iload 6, 2) := by decide +kernel
theorem dX5_dayOf_54 : decode cX5_dayOf 54 = .ok (.invokevirtual 79, 3) := by decide +kernel
theorem dX5_dayOf_57 : decode cX5_dayOf 57 = .ok (.iadd, 1) := by decide +kernel
theorem dX5_dayOf_58 : decode cX5_dayOf 58 = .ok (.istore 4, 2) := by decide +kernel
theorem dX5_dayOf_60 : decode cX5_dayOf 60 = .ok (.iinc 5 1, 3) := by decide +kernel
theorem dX5_dayOf_63 : decode cX5_dayOf 63 = .ok (.goto (-57), 3) := by decide +kernel
theorem dX5_dayOf_66 : decode cX5_dayOf 66 = .ok (.iload 4, 2) := by decide +kernel
theorem dX5_dayOf_68 : decode cX5_dayOf 68 = .ok (.ireturn, 1) := by decide +kernel
set_option maxRecDepth 20000 in
theorem ggX5_findCheat_X5_totalOf : GoodIn wsX5_findCheat wsX5_totalOf := goodIn_r _ [7, 2, 1, 8, 9, 10, 6, 11, 12, 13, 14, 15, 16, 17, 18, 19, 20, 21, 22, 23, 24, 25, 26, 27, 28, 29, 30, 31, 32, 33, 34, 35, 36, 37, 38, 39, 40, 41, 42, 43, 44, 45, 46, 47, 48, 49, 50, 51, 52, 53, 54, 55, 56, 57, 58, 59, 60, 61, 62, 63, 64, 65, 66, 67, 68, 69, 70, 71, 72, 73, 74, 75, 76, 77, 78, 79, 80, 81, 82, 83, 84, 85, 86, 87, 88, 89, 90, 91, 92, 93, 94, 95, 96, 97, 98, 99, 100, 136, 137, 138, 139, 140, 141, 142, 143, 144, 145, 146, 147, 148, 149, 150, 151, 152] (by decide +kernel) (by decide +kernel)
set_option maxRecDepth 20000 in
theorem gX5_findCheat_X5_totalOf : GoodIn wsX5_findCheat (wsV RX5 101 RX5 yX5_totalOf wsX5_totalOf) := goodIn_app (goodIn_of _ (by decide +kernel)) ggX5_findCheat_X5_totalOf
set_option maxRecDepth 20000 in
theorem ggX5_findCheat_X0_forget : GoodIn wsX5_findCheat wsX0_forget := goodIn_r _ [105, 106, 153, 154, 155, 156] (by decide +kernel) (by decide +kernel)
set_option maxRecDepth 20000 in
theorem gX5_findCheat_X0_forget : GoodIn wsX5_findCheat (wsV RX5 105 RX0 yX0_forget wsX0_forget) := goodIn_app (goodIn_of _ (by decide +kernel)) ggX5_findCheat_X0_forget
set_option maxRecDepth 20000 in
theorem ggX5_findCheat_X8_placeOf : GoodIn wsX5_findCheat wsX8_placeOf := goodIn_r _ [72, 51, 52, 53, 54, 20, 55, 56, 28, 29, 30, 31, 32, 136, 137, 138, 139, 140, 141, 142, 143, 144, 145, 146] (by decide +kernel) (by decide +kernel)
set_option maxRecDepth 20000 in
theorem gX5_findCheat_X8_placeOf : GoodIn wsX5_findCheat (wsV RX5 46 RX8 yX8_placeOf wsX8_placeOf) := goodIn_app (goodIn_of _ (by decide +kernel)) ggX5_findCheat_X8_placeOf
set_option maxRecDepth 20000 in
theorem ggX5_findCheat_X5_gainAt : GoodIn wsX5_findCheat wsX5_gainAt := goodIn_r _ [110, 17, 18, 19, 20, 21, 22, 23, 24, 25, 26, 27, 28, 29, 30, 31, 32, 111, 112, 113, 114, 51, 52, 53, 54, 55, 56, 115, 116, 117, 118, 119, 120, 121, 6, 122, 1, 16, 123, 124, 93, 125, 126, 127, 128, 12, 13, 14, 15, 33, 34, 35, 36, 37, 38, 39, 40, 41, 42, 43, 44, 45, 46, 47, 48, 49, 50, 57, 58, 59, 60, 61, 62, 63, 64, 65, 66, 67, 68, 69, 70, 71, 72, 73, 74, 75, 76, 77, 78, 79, 80, 81, 82, 83, 84, 85, 86, 87, 88, 89, 90, 91, 92, 94, 95, 96, 97, 98, 99, 100, 136, 137, 138, 139, 140, 141, 142, 143, 144, 145, 146, 147, 148, 149, 150, 151, 152] (by decide +kernel) (by decide +kernel)
set_option maxRecDepth 20000 in
theorem gX5_findCheat_X5_gainAt : GoodIn wsX5_findCheat (wsV RX5 110 RX5 yX5_gainAt wsX5_gainAt) := goodIn_app (goodIn_of _ (by decide +kernel)) ggX5_findCheat_X5_gainAt
set_option maxRecDepth 20000 in
theorem ggX5_findCheat_X0_offer : GoodIn wsX5_findCheat wsX0_offer := goodIn_r _ [132, 106, 133, 134, 135, 153, 154, 155, 156] (by decide +kernel) (by decide +kernel)
set_option maxRecDepth 20000 in
theorem gX5_findCheat_X0_offer : GoodIn wsX5_findCheat (wsV RX5 113 RX0 yX0_offer wsX0_offer) := goodIn_app (goodIn_of _ (by decide +kernel)) ggX5_findCheat_X0_offer
set_option maxRecDepth 20000 in
theorem ggX5_findCheat_X8_moveTo : GoodIn wsX5_findCheat wsX8_moveTo := goodIn_r _ [114, 51, 22, 52, 53, 54, 20, 55, 56, 28, 29, 30, 31, 32, 115, 116, 117, 118, 23, 24, 25, 26, 27, 136, 137, 138, 139, 140, 141, 142, 143, 144, 145, 146] (by decide +kernel) (by decide +kernel)
set_option maxRecDepth 20000 in
theorem gX5_findCheat_X8_moveTo : GoodIn wsX5_findCheat (wsV RX5 117 RX8 yX8_moveTo wsX8_moveTo) := goodIn_app (goodIn_of _ (by decide +kernel)) ggX5_findCheat_X8_moveTo
theorem dX5_findCheat_0 : decode cX5_findCheat 0 = .ok (.aload_n 0, 1) := by decide +kernel
theorem dX5_findCheat_1 : decode cX5_findCheat 1 = .ok (.aload_n 1, 1) := by decide +kernel
theorem dX5_findCheat_2 : decode cX5_findCheat 2 = .ok (.invokevirtual 101, 3) := by decide +kernel
theorem dX5_findCheat_5 : decode cX5_findCheat 5 = .ok (.istore 4, 2) := by decide +kernel
theorem dX5_findCheat_7 : decode cX5_findCheat 7 = .ok (.aload_n 3, 1) := by decide +kernel
theorem dX5_findCheat_8 : decode cX5_findCheat 8 = .ok (.invokevirtual 105, 3) := by decide +kernel
theorem dX5_findCheat_11 : decode cX5_findCheat 11 = .ok (.iconst 0, 1) := by decide +kernel
theorem dX5_findCheat_12 : decode cX5_findCheat 12 = .ok (.istore 5, 2) := by decide +kernel
theorem dX5_findCheat_14 : decode cX5_findCheat 14 = .ok (.iload 5, 2) := by decide +kernel
theorem dX5_findCheat_16 : decode cX5_findCheat 16 = .ok (.aload_n 1, 1) := by decide +kernel
theorem dX5_findCheat_17 : decode cX5_findCheat 17 = .ok (.getfield 90, 3) := by decide +kernel
theorem dX5_findCheat_20 : decode cX5_findCheat 20 = .ok (.if_icmp .ge 105, 3) := by decide +kernel
theorem dX5_findCheat_23 : decode cX5_findCheat 23 = .ok (.aload_n 1, 1) := by decide +kernel
theorem dX5_findCheat_24 : decode cX5_findCheat 24 = .ok (.iload_n 2, 1) := by decide +kernel
theorem dX5_findCheat_25 : decode cX5_findCheat 25 = .ok (.iload 5, 2) := by decide +kernel
theorem dX5_findCheat_27 : decode cX5_findCheat 27 = .ok (.invokevirtual 46, 3) := by decide +kernel
theorem dX5_findCheat_30 : decode cX5_findCheat 30 = .ok (.istore 6, 2) := by decide +kernel
theorem dX5_findCheat_32 : decode cX5_findCheat 32 = .ok (.iload 4, 2) := by decide +kernel
theorem dX5_findCheat_34 : decode cX5_findCheat 34 = .ok (.aload_n 0, 1) := by decide +kernel
theorem dX5_findCheat_35 : decode cX5_findCheat 35 = .ok (.aload_n 1, 1) := by decide +kernel
theorem dX5_findCheat_36 : decode cX5_findCheat 36 = .ok (.iload_n 2, 1) := by decide +kernel
theorem dX5_findCheat_37 : decode cX5_findCheat 37 = .ok (.iload 5, 2) := by decide +kernel
theorem dX5_findCheat_39 : decode cX5_findCheat 39 = .ok (.iload 6, 2) := by decide +kernel
theorem dX5_findCheat_41 : decode cX5_findCheat 41 = .ok (.invokevirtual 110, 3) := by decide +kernel
theorem dX5_findCheat_44 : decode cX5_findCheat 44 = .ok (.isub, 1) := by decide +kernel
theorem dX5_findCheat_45 : decode cX5_findCheat 45 = .ok (.istore 7, 2) := by decide +kernel
theorem dX5_findCheat_47 : decode cX5_findCheat 47 = .ok (.iload 6, 2) := by decide +kernel
theorem dX5_findCheat_49 : decode cX5_findCheat 49 = .ok (.bipush 99, 2) := by decide +kernel
theorem dX5_findCheat_51 : decode cX5_findCheat 51 = .ok (.if_icmp .eq 13, 3) := by decide +kernel
theorem dX5_findCheat_54 : decode cX5_findCheat 54 = .ok (.aload_n 3, 1) := by decide +kernel
theorem dX5_findCheat_55 : decode cX5_findCheat 55 = .ok (.iload 7, 2) := by decide +kernel
theorem dX5_findCheat_57 : decode cX5_findCheat 57 = .ok (.iload 5, 2) := by decide +kernel
theorem dX5_findCheat_59 : decode cX5_findCheat 59 = .ok (.bipush 99, 2) := by decide +kernel
theorem dX5_findCheat_61 : decode cX5_findCheat 61 = .ok (.invokevirtual 113, 3) := by decide +kernel
theorem dX5_findCheat_64 : decode cX5_findCheat 64 = .ok (.iconst 0, 1) := by decide +kernel
theorem dX5_findCheat_65 : decode cX5_findCheat 65 = .ok (.istore 8, 2) := by decide +kernel
theorem dX5_findCheat_67 : decode cX5_findCheat 67 = .ok (.iload 8, 2) := by decide +kernel
theorem dX5_findCheat_69 : decode cX5_findCheat 69 = .ok (.aload_n 1, 1) := by decide +kernel
theorem dX5_findCheat_70 : decode cX5_findCheat 70 = .ok (.getfield 83, 3) := by decide +kernel
theorem dX5_findCheat_73 : decode cX5_findCheat 73 = .ok (.if_icmp .ge 37, 3) := by decide +kernel
theorem dX5_findCheat_76 : decode cX5_findCheat 76 = .ok (.iload 8, 2) := by decide +kernel
theorem dX5_findCheat_78 : decode cX5_findCheat 78 = .ok (.iload 6, 2) := by decide +kernel
theorem dX5_findCheat_80 : decode cX5_findCheat 80 = .ok (.if_icmp .eq 24, 3) := by decide +kernel
theorem dX5_findCheat_83 : decode cX5_findCheat 83 = .ok (.aload_n 3, 1) := by decide +kernel
theorem dX5_findCheat_84 : decode cX5_findCheat 84 = .ok (.iload 7, 2) := by decide +kernel
theorem dX5_findCheat_86 : decode cX5_findCheat 86 = .ok (.aload_n 0, 1) := by decide +kernel
theorem dX5_findCheat_87 : decode cX5_findCheat 87 = .ok (.aload_n 1, 1) := by decide +kernel
theorem dX5_findCheat_88 : decode cX5_findCheat 88 = .ok (.iload_n 2, 1) := by decide +kernel
theorem dX5_findCheat_89 : decode cX5_findCheat 89 = .ok (.iload 5, 2) := by decide +kernel
theorem dX5_findCheat_91 : decode cX5_findCheat 91 = .ok (.iload 8, 2) := by decide +kernel
theorem dX5_findCheat_93 : decode cX5_findCheat 93 = .ok (.invokevirtual 110, 3) := by decide +kernel
theorem dX5_findCheat_96 : decode cX5_findCheat 96 = .ok (.iadd, 1) := by decide +kernel
theorem dX5_findCheat_97 : decode cX5_findCheat 97 = .ok (.iload 5, 2) := by decide +kernel
theorem dX5_findCheat_99 : decode cX5_findCheat 99 = .ok (.iload 8, 2) := by decide +kernel
theorem dX5_findCheat_101 : decode cX5_findCheat 101 = .ok (.invokevirtual 113, 3) := by decide +kernel
theorem dX5_findCheat_104 : decode cX5_findCheat 104 = .ok (.iinc 8 1, 3) := by decide +kernel
theorem dX5_findCheat_107 : decode cX5_findCheat 107 = .ok (.goto (-40), 3) := by decide +kernel
theorem dX5_findCheat_110 : decode cX5_findCheat 110 = .ok (.aload_n 1, 1) := by decide +kernel
theorem dX5_findCheat_111 : decode cX5_findCheat 111 = .ok (.iload_n 2, 1) := by decide +kernel
theorem dX5_findCheat_112 : decode cX5_findCheat 112 = .ok (.iload 5, 2) := by decide +kernel
theorem dX5_findCheat_114 : decode cX5_findCheat 114 = .ok (.iload 6, 2) := by decide +kernel
theorem dX5_findCheat_116 : decode cX5_findCheat 116 = .ok (.invokevirtual 117, 3) := by decide +kernel
theorem dX5_findCheat_119 : decode cX5_findCheat 119 = .ok (.iinc 5 1, 3) := by decide +kernel
theorem dX5_findCheat_122 : decode cX5_findCheat 122 = .ok (.goto (-108), 3) := by decide +kernel
theorem dX5_findCheat_125 : decode cX5_findCheat 125 = .ok (.return_, 1) := by decide +kernel
set_option maxRecDepth 20000 in
theorem ggX5_gainAt_X8_those : GoodIn wsX5_gainAt wsX8_those := goodIn_r _ [5, 6, 7, 8, 9, 4, 10, 11, 12, 13, 14, 15, 16, 110, 111, 112, 113, 114, 115, 116, 117, 118, 119, 120] (by decide +kernel) (by decide +kernel)
set_option maxRecDepth 20000 in
theorem gX5_gainAt_X8_those : GoodIn wsX5_gainAt (wsV RX5 72 RX8 yX8_those wsX8_those) := goodIn_app (goodIn_of _ (by decide +kernel)) ggX5_gainAt_X8_those
set_option maxRecDepth 20000 in
theorem ggX5_gainAt_X8_moveTo : GoodIn wsX5_gainAt wsX8_moveTo := goodIn_r _ [20, 21, 6, 22, 23, 24, 4, 25, 26, 12, 13, 14, 15, 16, 27, 28, 29, 30, 7, 8, 9, 10, 11, 110, 111, 112, 113, 114, 115, 116, 117, 118, 119, 120] (by decide +kernel) (by decide +kernel)
set_option maxRecDepth 20000 in
theorem gX5_gainAt_X8_moveTo : GoodIn wsX5_gainAt (wsV RX5 117 RX8 yX8_moveTo wsX8_moveTo) := goodIn_app (goodIn_of _ (by decide +kernel)) ggX5_gainAt_X8_moveTo
set_option maxRecDepth 20000 in
theorem ggX5_gainAt_X5_stakeAt : GoodIn wsX5_gainAt wsX5_stakeAt := goodIn_r _ [35, 36, 37, 38, 39, 40, 41, 42, 43, 44, 45, 46, 47, 34, 48, 1, 2, 3, 4, 5, 6, 7, 8, 9, 10, 11, 12, 13, 14, 15, 16, 49, 50, 51, 52, 53, 54, 55, 56, 57, 58, 59, 60, 61, 62, 63, 64, 65, 66, 21, 22, 23, 24, 25, 26, 67, 68, 69, 70, 71, 72, 73, 74, 75, 76, 77, 78, 79, 80, 81, 82, 83, 84, 85, 86, 87, 88, 89, 90, 91, 92, 93, 94, 95, 96, 97, 98, 99, 100, 101, 102, 103, 104, 105, 106, 107, 108, 109, 110, 111, 112, 113, 114, 115, 116, 117, 118, 119, 120, 121, 122, 123, 124, 125, 126] (by decide +kernel) (by decide +kernel)
set_option maxRecDepth 20000 in
theorem gX5_gainAt_X5_stakeAt : GoodIn wsX5_gainAt (wsV RX5 120 RX5 yX5_stakeAt wsX5_stakeAt) := goodIn_app (goodIn_of _ (by decide +kernel)) ggX5_gainAt_X5_stakeAt
theorem dX5_gainAt_0 : decode cX5_gainAt 0 = .ok (.aload_n 1, 1) := by decide +kernel
theorem dX5_gainAt_1 : decode cX5_gainAt 1 = .ok (.iload 4, 2) := by decide +kernel
theorem dX5_gainAt_3 : decode cX5_gainAt 3 = .ok (.iload_n 3, 1) := by decide +kernel
theorem dX5_gainAt_4 : decode cX5_gainAt 4 = .ok (.invokevirtual 72, 3) := by decide +kernel
theorem dX5_gainAt_7 : decode cX5_gainAt 7 = .ok (.iconst 1, 1) := by decide +kernel
theorem dX5_gainAt_8 : decode cX5_gainAt 8 = .ok (.iload_n 2, 1) := by decide +kernel
theorem dX5_gainAt_9 : decode cX5_gainAt 9 = .ok (.ishl, 1) := by decide +kernel
theorem dX5_gainAt_10 : decode cX5_gainAt 10 = .ok (.iconst (-1), 1) := by decide +kernel
theorem dX5_gainAt_11 : decode cX5_gainAt 11 = .ok (.ixor, 1) := by decide +kernel
theorem dX5_gainAt_12 : decode cX5_gainAt 12 = .ok (.iand, 1) := by decide +kernel
theorem dX5_gainAt_13 : decode cX5_gainAt 13 = .ok (.istore 5, 2) := by decide +kernel
theorem dX5_gainAt_15 : decode cX5_gainAt 15 = .ok (.aload_n 1, 1) := by decide +kernel
theorem dX5_gainAt_16 : decode cX5_gainAt 16 = .ok (.iload_n 2, 1) := by decide +kernel
theorem dX5_gainAt_17 : decode cX5_gainAt 17 = .ok (.iload_n 3, 1) := by decide +kernel
theorem dX5_gainAt_18 : decode cX5_gainAt 18 = .ok (.iload 4, 2) := by decide +kernel
theorem dX5_gainAt_20 : decode cX5_gainAt 20 = .ok (.invokevirtual 117, 3) := by decide +kernel
theorem dX5_gainAt_23 : decode cX5_gainAt 23 = .ok (.aload_n 0, 1) := by decide +kernel
theorem dX5_gainAt_24 : decode cX5_gainAt 24 = .ok (.aload_n 1, 1) := by decide +kernel
theorem dX5_gainAt_25 : decode cX5_gainAt 25 = .ok (.iload_n 2, 1) := by decide +kernel
theorem dX5_gainAt_26 : decode cX5_gainAt 26 = .ok (.iload_n 3, 1) := by decide +kernel
theorem dX5_gainAt_27 : decode cX5_gainAt 27 = .ok (.iload 4, 2) := by decide +kernel
theorem dX5_gainAt_29 : decode cX5_gainAt 29 = .ok (.iload 5, 2) := by decide +kernel
theorem dX5_gainAt_31 : decode cX5_gainAt 31 = .ok (.invokevirtual 120, 3) := by decide +kernel
theorem dX5_gainAt_34 : decode cX5_gainAt 34 = .ok (.istore 6, 2) := by decide +kernel
theorem dX5_gainAt_36 : decode cX5_gainAt 36 = .ok (.aload_n 1, 1) := by decide +kernel
theorem dX5_gainAt_37 : decode cX5_gainAt 37 = .ok (.iload_n 2, 1) := by decide +kernel
theorem dX5_gainAt_38 : decode cX5_gainAt 38 = .ok (.iload_n 3, 1) := by decide +kernel
theorem dX5_gainAt_39 : decode cX5_gainAt 39 = .ok (.bipush 99, 2) := by decide +kernel
theorem dX5_gainAt_41 : decode cX5_gainAt 41 = .ok (.invokevirtual 117, 3) := by decide +kernel
theorem dX5_gainAt_44 : decode cX5_gainAt 44 = .ok (.iload 6, 2) := by decide +kernel
theorem dX5_gainAt_46 : decode cX5_gainAt 46 = .ok (.aload_n 0, 1) := by decide +kernel
theorem dX5_gainAt_47 : decode cX5_gainAt 47 = .ok (.aload_n 1, 1) := by decide +kernel
theorem dX5_gainAt_48 : decode cX5_gainAt 48 = .ok (.iload_n 2, 1) := by decide +kernel
theorem dX5_gainAt_49 : decode cX5_gainAt 49 = .ok (.iload_n 3, 1) := by decide +kernel
theorem dX5_gainAt_50 : decode cX5_gainAt 50 = .ok (.iload 4, 2) := by decide +kernel
theorem dX5_gainAt_52 : decode cX5_gainAt 52 = .ok (.iload 5, 2) := by decide +kernel
theorem dX5_gainAt_54 : decode cX5_gainAt 54 = .ok (.invokevirtual 120, 3) := by decide +kernel
theorem dX5_gainAt_57 : decode cX5_gainAt 57 = .ok (.isub, 1) := by decide +kernel
theorem dX5_gainAt_58 : decode cX5_gainAt 58 = .ok (.ireturn, 1) := by decide +kernel
set_option maxRecDepth 20000 in
theorem ggX5_stakeAt_X5_sumOf : GoodIn wsX5_stakeAt wsX5_sumOf := goodIn_r _ [14, 2, 15, 16, 17, 18, 19, 20, 21, 22, 23, 24, 25, 26, 27, 28, 29, 30, 31, 32, 33, 34, 35, 36, 13, 37, 38, 39, 40, 41, 42, 43, 44, 45, 46, 47, 48, 49, 50, 51, 52, 53, 54, 55, 56, 57, 58, 59, 60, 61, 62, 63, 64, 65, 66, 67, 68, 69, 70, 71, 72, 73, 74, 75, 76, 77, 78, 79, 80, 81, 82, 83, 84, 85, 86, 87, 88, 89, 90, 5, 91, 92, 93, 94, 95, 96, 97, 109, 110, 111, 112, 98, 99, 100, 101, 102, 103, 104, 105, 106, 107, 108, 113, 114] (by decide +kernel) (by decide +kernel)
set_option maxRecDepth 20000 in
theorem gX5_stakeAt_X5_sumOf : GoodIn wsX5_stakeAt (wsV RX5 86 RX5 yX5_sumOf wsX5_sumOf) := goodIn_app (goodIn_of _ (by decide +kernel)) ggX5_stakeAt_X5_sumOf
set_option maxRecDepth 20000 in
theorem ggX5_stakeAt_X8_placeOf : GoodIn wsX5_stakeAt wsX8_placeOf := goodIn_r _ [70, 49, 50, 51, 52, 18, 53, 54, 26, 27, 28, 29, 30, 98, 99, 100, 101, 102, 103, 104, 105, 106, 107, 108] (by decide +kernel) (by decide +kernel)
set_option maxRecDepth 20000 in
theorem gX5_stakeAt_X8_placeOf : GoodIn wsX5_stakeAt (wsV RX5 46 RX8 yX8_placeOf wsX8_placeOf) := goodIn_app (goodIn_of _ (by decide +kernel)) ggX5_stakeAt_X8_placeOf
set_option maxRecDepth 20000 in
theorem ggX5_stakeAt_X8_those : GoodIn wsX5_stakeAt wsX8_those := goodIn_r _ [19, 20, 21, 22, 23, 18, 24, 25, 26, 27, 28, 29, 30, 98, 99, 100, 101, 102, 103, 104, 105, 106, 107, 108] (by decide +kernel) (by decide +kernel)
set_option maxRecDepth 20000 in
theorem gX5_stakeAt_X8_those : GoodIn wsX5_stakeAt (wsV RX5 72 RX8 yX8_those wsX8_those) := goodIn_app (goodIn_of _ (by decide +kernel)) ggX5_stakeAt_X8_those
set_option maxRecDepth 20000 in
theorem ggX5_stakeAt_J6_bitCount_0f7a4 : GoodIn wsX5_stakeAt wsJ6_bitCount_0f7a4 := goodIn_r _ [74, 75, 76, 77] (by decide +kernel) (by decide +kernel)
set_option maxRecDepth 20000 in
theorem gX5_stakeAt_J6_bitCount_0f7a4 : GoodIn wsX5_stakeAt (va_wsS RX5 57 yJ6_bitCount_0f7a4 wsJ6_bitCount_0f7a4) := goodIn_app (goodIn_of _ (by decide +kernel)) ggX5_stakeAt_J6_bitCount_0f7a4
set_option maxRecDepth 20000 in
theorem ggX5_stakeAt_X11_listMembers : GoodIn wsX5_stakeAt wsX11_listMembers := goodIn_r _ [33] (by decide +kernel) (by decide +kernel)
set_option maxRecDepth 20000 in
theorem gX5_stakeAt_X11_listMembers_n75 : GoodIn wsX5_stakeAt (wsX11_listMembers) := ggX5_stakeAt_X11_listMembers
set_option maxRecDepth 20000 in
theorem ggX5_stakeAt_X5_worthOf : GoodIn wsX5_stakeAt wsX5_worthOf := goodIn_r _ [37, 38, 39, 40, 41, 42, 43, 44, 45, 46, 47, 18, 48, 49, 50, 51, 52, 53, 54, 26, 27, 28, 29, 30, 55, 56, 57, 58, 59, 60, 61, 62, 63, 64, 65, 66, 67, 68, 69, 70, 71, 72, 73, 74, 75, 76, 77, 78, 79, 80, 81, 82, 83, 84, 85, 86, 87, 88, 89, 90, 5, 91, 92, 93, 94, 95, 96, 97, 109, 110, 111, 112, 98, 99, 100, 101, 102, 103, 104, 105, 106, 107, 108, 113, 114] (by decide +kernel) (by decide +kernel)
set_option maxRecDepth 20000 in
theorem gX5_stakeAt_X5_worthOf : GoodIn wsX5_stakeAt (wsV RX5 79 RX5 yX5_worthOf wsX5_worthOf) := goodIn_app (goodIn_of _ (by decide +kernel)) ggX5_stakeAt_X5_worthOf
theorem dX5_stakeAt_0 : decode cX5_stakeAt 0 = .ok (.aload_n 0, 1) := by decide +kernel
theorem dX5_stakeAt_1 : decode cX5_stakeAt 1 = .ok (.aload_n 1, 1) := by decide +kernel
theorem dX5_stakeAt_2 : decode cX5_stakeAt 2 = .ok (.iload 4, 2) := by decide +kernel
theorem dX5_stakeAt_4 : decode cX5_stakeAt 4 = .ok (.iload_n 3, 1) := by decide +kernel
theorem dX5_stakeAt_5 : decode cX5_stakeAt 5 = .ok (.invokevirtual 86, 3) := by decide +kernel
theorem dX5_stakeAt_8 : decode cX5_stakeAt 8 = .ok (.istore 6, 2) := by decide +kernel
theorem dX5_stakeAt_10 : decode cX5_stakeAt 10 = .ok (.iload_n 3, 1) := by decide +kernel
theorem dX5_stakeAt_11 : decode cX5_stakeAt 11 = .ok (.iconst 1, 1) := by decide +kernel
theorem dX5_stakeAt_12 : decode cX5_stakeAt 12 = .ok (.iadd, 1) := by decide +kernel
theorem dX5_stakeAt_13 : decode cX5_stakeAt 13 = .ok (.istore 7, 2) := by decide +kernel
theorem dX5_stakeAt_15 : decode cX5_stakeAt 15 = .ok (.iload 7, 2) := by decide +kernel
theorem dX5_stakeAt_17 : decode cX5_stakeAt 17 = .ok (.aload_n 1, 1) := by decide +kernel
theorem dX5_stakeAt_18 : decode cX5_stakeAt 18 = .ok (.getfield 90, 3) := by decide +kernel
theorem dX5_stakeAt_21 : decode cX5_stakeAt 21 = .ok (.if_icmp .ge 105, 3) := by decide +kernel
theorem dX5_stakeAt_24 : decode cX5_stakeAt 24 = .ok (.aload_n 1, 1) := by decide +kernel
theorem dX5_stakeAt_25 : decode cX5_stakeAt 25 = .ok (.aload_n 1, 1) := by decide +kernel
theorem dX5_stakeAt_26 : decode cX5_stakeAt 26 = .ok (.iload_n 2, 1) := by decide +kernel
theorem dX5_stakeAt_27 : decode cX5_stakeAt 27 = .ok (.iload 7, 2) := by decide +kernel
theorem dX5_stakeAt_29 : decode cX5_stakeAt 29 = .ok (.invokevirtual 46, 3) := by decide +kernel
theorem dX5_stakeAt_32 : decode cX5_stakeAt 32 = .ok (.iload 7, 2) := by decide +kernel
theorem dX5_stakeAt_34 : decode cX5_stakeAt 34 = .ok (.invokevirtual 72, 3) := by decide +kernel
theorem dX5_stakeAt_37 : decode cX5_stakeAt 37 = .ok (.istore 8, 2) := by decide +kernel
theorem dX5_stakeAt_39 : decode cX5_stakeAt 39 = .ok (.iload 8, 2) := by decide +kernel
theorem dX5_stakeAt_41 : decode cX5_stakeAt 41 = .ok (.invokestatic 57, 3) := by decide +kernel
theorem dX5_stakeAt_44 : decode cX5_stakeAt 44 = .ok (.istore 9, 2) := by decide +kernel
theorem dX5_stakeAt_46 : decode cX5_stakeAt 46 = .ok (.iload 8, 2) := by decide +kernel
theorem dX5_stakeAt_48 : decode cX5_stakeAt 48 = .ok (.iload 5, 2) := by decide +kernel
theorem dX5_stakeAt_50 : decode cX5_stakeAt 50 = .ok (.iand, 1) := by decide +kernel
theorem dX5_stakeAt_51 : decode cX5_stakeAt 51 = .ok (.aload_n 0, 1) := by decide +kernel
theorem dX5_stakeAt_52 : decode cX5_stakeAt 52 = .ok (.getfield 24, 3) := by decide +kernel
theorem dX5_stakeAt_55 : decode cX5_stakeAt 55 = .ok (.invokestatic 75, 3) := by decide +kernel
theorem dX5_stakeAt_58 : decode cX5_stakeAt 58 = .ok (.istore 10, 2) := by decide +kernel
theorem dX5_stakeAt_60 : decode cX5_stakeAt 60 = .ok (.iconst 0, 1) := by decide +kernel
theorem dX5_stakeAt_61 : decode cX5_stakeAt 61 = .ok (.istore 11, 2) := by decide +kernel
theorem dX5_stakeAt_63 : decode cX5_stakeAt 63 = .ok (.iload 11, 2) := by decide +kernel
theorem dX5_stakeAt_65 : decode cX5_stakeAt 65 = .ok (.iload 10, 2) := by decide +kernel
theorem dX5_stakeAt_67 : decode cX5_stakeAt 67 = .ok (.if_icmp .ge 53, 3) := by decide +kernel
theorem dX5_stakeAt_70 : decode cX5_stakeAt 70 = .ok (.iload_n 2, 1) := by decide +kernel
theorem dX5_stakeAt_71 : decode cX5_stakeAt 71 = .ok (.aload_n 0, 1) := by decide +kernel
theorem dX5_stakeAt_72 : decode cX5_stakeAt 72 = .ok (.getfield 24, 3) := by decide +kernel
theorem dX5_stakeAt_75 : decode cX5_stakeAt 75 = .ok (.iload 11, 2) := by decide +kernel
theorem dX5_stakeAt_77 : decode cX5_stakeAt 77 = .ok (.iaload, 1) := by decide +kernel
theorem dX5_stakeAt_78 : decode cX5_stakeAt 78 = .ok (.invokestatic 123, 3) := by decide +kernel
theorem dX5_stakeAt_81 : decode cX5_stakeAt 81 = .ok (.istore 12, 2) := by decide +kernel
theorem dX5_stakeAt_83 : decode cX5_stakeAt 83 = .ok (.iload_n 2, 1) := by decide +kernel
theorem dX5_stakeAt_84 : decode cX5_stakeAt 84 = .ok (.aload_n 0, 1) := by decide +kernel
theorem dX5_stakeAt_85 : decode cX5_stakeAt 85 = .ok (.getfield 24, 3) := by decide +kernel
theorem dX5_stakeAt_88 : decode cX5_stakeAt 88 = .ok (.iload 11, 2) := by decide +kernel
theorem dX5_stakeAt_90 : decode cX5_stakeAt 90 = .ok (.iaload, 1) := by decide +kernel
theorem dX5_stakeAt_91 : decode cX5_stakeAt 91 = .ok (.invokestatic 128, 3) := by decide +kernel
theorem dX5_stakeAt_94 : decode cX5_stakeAt 94 = .ok (.istore 13, 2) := by decide +kernel
theorem dX5_stakeAt_96 : decode cX5_stakeAt 96 = .ok (.iload 6, 2) := by decide +kernel
theorem dX5_stakeAt_98 : decode cX5_stakeAt 98 = .ok (.aload_n 0, 1) := by decide +kernel
theorem dX5_stakeAt_99 : decode cX5_stakeAt 99 = .ok (.aload_n 1, 1) := by decide +kernel
theorem dX5_stakeAt_100 : decode cX5_stakeAt 100 = .ok (.iload 12, 2) := by decide +kernel
theorem dX5_stakeAt_102 : decode cX5_stakeAt 102 = .ok (.iload 13, 2) := by decide +kernel
theorem dX5_stakeAt_104 : decode cX5_stakeAt 104 = .ok (.iload 7, 2) := by decide +kernel
theorem dX5_stakeAt_106 : decode cX5_stakeAt 106 = .ok (.iload 9, 2) := by decide +kernel
theorem dX5_stakeAt_108 : decode cX5_stakeAt 108 = .ok (.invokevirtual 79, 3) := by decide +kernel
theorem dX5_stakeAt_111 : decode cX5_stakeAt 111 = .ok (.iadd, 1) := by decide +kernel
theorem dX5_stakeAt_112 : decode cX5_stakeAt 112 = .ok (.istore 6, 2) := by decide +kernel
theorem dX5_stakeAt_114 : decode cX5_stakeAt 114 = .ok (.iinc 11 1, 3) := by decide +kernel
theorem dX5_stakeAt_117 : decode cX5_stakeAt 117 = .ok (.goto (-54), 3) := by decide +kernel
theorem dX5_stakeAt_120 : decode cX5_stakeAt 120 = .ok (.iinc 7 1, 3) := by decide +kernel
theorem dX5_stakeAt_123 : decode cX5_stakeAt 123 = .ok (.goto (-108), 3) := by decide +kernel
theorem dX5_stakeAt_126 : decode cX5_stakeAt 126 = .ok (.iload 6, 2) := by decide +kernel
theorem dX5_stakeAt_128 : decode cX5_stakeAt 128 = .ok (.ireturn, 1) := by decide +kernel
theorem dX6_init_0 : decode cX6_init 0 = .ok (.aload_n 0, 1) := by decide +kernel
theorem dX6_init_1 : decode cX6_init 1 = .ok (.invokespecial 3, 3) := by decide +kernel
theorem dX6_init_4 : decode cX6_init 4 = .ok (.aload_n 0, 1) := by decide +kernel
theorem dX6_init_5 : decode cX6_init 5 = .ok (.iconst 0, 1) := by decide +kernel
theorem dX6_init_6 : decode cX6_init 6 = .ok (.putfield 9, 3) := by decide +kernel
theorem dX6_init_9 : decode cX6_init 9 = .ok (.aload_n 0, 1) := by decide +kernel
theorem dX6_init_10 : decode cX6_init 10 = .ok (.bipush 16, 2) := by decide +kernel
theorem dX6_init_12 : decode cX6_init 12 = .ok (.newarray .int, 2) := by decide +kernel
theorem dX6_init_14 : decode cX6_init 14 = .ok (.putfield 15, 3) := by decide +kernel
theorem dX6_init_17 : decode cX6_init 17 = .ok (.aload_n 0, 1) := by decide +kernel
theorem dX6_init_18 : decode cX6_init 18 = .ok (.bipush 16, 2) := by decide +kernel
theorem dX6_init_20 : decode cX6_init 20 = .ok (.newarray .int, 2) := by decide +kernel
theorem dX6_init_22 : decode cX6_init 22 = .ok (.putfield 19, 3) := by decide +kernel
theorem dX6_init_25 : decode cX6_init 25 = .ok (.aload_n 0, 1) := by decide +kernel
theorem dX6_init_26 : decode cX6_init 26 = .ok (.bipush 10, 2) := by decide +kernel
theorem dX6_init_28 : decode cX6_init 28 = .ok (.newarray .int, 2) := by decide +kernel
theorem dX6_init_30 : decode cX6_init 30 = .ok (.putfield 22, 3) := by decide +kernel
theorem dX6_init_33 : decode cX6_init 33 = .ok (.aload_n 0, 1) := by decide +kernel
theorem dX6_init_34 : decode cX6_init 34 = .ok (.bipush 10, 2) := by decide +kernel
theorem dX6_init_36 : decode cX6_init 36 = .ok (.newarray .boolean, 2) := by decide +kernel
theorem dX6_init_38 : decode cX6_init 38 = .ok (.putfield 25, 3) := by decide +kernel
theorem dX6_init_41 : decode cX6_init 41 = .ok (.aload_n 0, 1) := by decide +kernel
theorem dX6_init_42 : decode cX6_init 42 = .ok (.bipush 10, 2) := by decide +kernel
theorem dX6_init_44 : decode cX6_init 44 = .ok (.newarray .int, 2) := by decide +kernel
theorem dX6_init_46 : decode cX6_init 46 = .ok (.putfield 29, 3) := by decide +kernel
theorem dX6_init_49 : decode cX6_init 49 = .ok (.return_, 1) := by decide +kernel
set_option maxRecDepth 20000 in
theorem ggX6_learn_X8_isPerson : GoodIn wsX6_learn wsX8_isPerson := goodIn_r _ [14, 15, 67, 68, 69, 70, 71, 72, 73, 74, 75, 76, 77] (by decide +kernel) (by decide +kernel)
set_option maxRecDepth 20000 in
theorem gX6_learn_X8_isPerson : GoodIn wsX6_learn (wsV RX6 38 RX8 yX8_isPerson wsX8_isPerson) := goodIn_app (goodIn_of _ (by decide +kernel)) ggX6_learn_X8_isPerson
set_option maxRecDepth 20000 in
theorem ggX6_learn_X8_company : GoodIn wsX6_learn wsX8_company := goodIn_r _ [19, 20, 21, 22, 23, 13, 24, 25, 26, 11, 12, 14, 15, 27, 28, 29, 30, 31, 32, 33, 34, 35, 36, 37, 38, 39, 40, 67, 68, 69, 70, 71, 72, 73, 74, 75, 76, 77] (by decide +kernel) (by decide +kernel)
set_option maxRecDepth 20000 in
theorem gX6_learn_X8_company : GoodIn wsX6_learn (wsV RX6 44 RX8 yX8_company wsX8_company) := goodIn_app (goodIn_of _ (by decide +kernel)) ggX6_learn_X8_company
set_option maxRecDepth 20000 in
theorem ggX6_learn_J6_bitCount_0f7a4 : GoodIn wsX6_learn wsJ6_bitCount_0f7a4 := goodIn_r _ [44, 45, 46, 47] (by decide +kernel) (by decide +kernel)
set_option maxRecDepth 20000 in
theorem gX6_learn_J6_bitCount_0f7a4 : GoodIn wsX6_learn (va_wsS RX6 51 yJ6_bitCount_0f7a4 wsJ6_bitCount_0f7a4) := goodIn_app (goodIn_of _ (by decide +kernel)) ggX6_learn_J6_bitCount_0f7a4
theorem dX6_learn_0 : decode cX6_learn 0 = .ok (.aload_n 1, 1) := by decide +kernel
theorem dX6_learn_1 : decode cX6_learn 1 = .ok (.getfield 32, 3) := by decide +kernel
theorem dX6_learn_4 : decode cX6_learn 4 = .ok (.astore_n 2, 1) := by decide +kernel
theorem dX6_learn_5 : decode cX6_learn 5 = .ok (.aload_n 0, 1) := by decide +kernel
theorem dX6_learn_6 : decode cX6_learn 6 = .ok (.iconst 0, 1) := by decide +kernel
theorem dX6_learn_7 : decode cX6_learn 7 = .ok (.putfield 9, 3) := by decide +kernel
theorem dX6_learn_10 : decode cX6_learn 10 = .ok (.iconst 0, 1) := by decide +kernel
theorem dX6_learn_11 : decode cX6_learn 11 = .ok (.istore_n 3, 1) := by decide +kernel
theorem dX6_learn_12 : decode cX6_learn 12 = .ok (.iload_n 3, 1) := by decide +kernel
theorem dX6_learn_13 : decode cX6_learn 13 = .ok (.bipush 10, 2) := by decide +kernel
theorem dX6_learn_15 : decode cX6_learn 15 = .ok (.if_icmp .ge 142, 3) := by decide +kernel
theorem dX6_learn_18 : decode cX6_learn 18 = .ok (.aload_n 2, 1) := by decide +kernel
theorem dX6_learn_19 : decode cX6_learn 19 = .ok (.iload_n 3, 1) := by decide +kernel
theorem dX6_learn_20 : decode cX6_learn 20 = .ok (.invokevirtual 38, 3) := by decide +kernel
theorem dX6_learn_23 : decode cX6_learn 23 = .ok (.ifCond .eq 11, 3) := by decide +kernel
theorem dX6_learn_26 : decode cX6_learn 26 = .ok (.aload_n 2, 1) := by decide +kernel
theorem dX6_learn_27 : decode cX6_learn 27 = .ok (.iload_n 3, 1) := by decide +kernel
theorem dX6_learn_28 : decode cX6_learn 28 = .ok (.invokevirtual 44, 3) := by decide +kernel
theorem dX6_learn_31 : decode cX6_learn 31 = .ok (.goto 4, 3) := by decide +kernel
theorem dX6_learn_34 : decode cX6_learn 34 = .ok (.iconst 0, 1) := by decide +kernel
theorem dX6_learn_35 : decode cX6_learn 35 = .ok (.istore 4, 2) := by decide +kernel
theorem dX6_learn_37 : decode cX6_learn 37 = .ok (.aload_n 0, 1) := by decide +kernel
theorem dX6_learn_38 : decode cX6_learn 38 = .ok (.getfield 22, 3) := by decide +kernel
theorem dX6_learn_41 : decode cX6_learn 41 = .ok (.iload_n 3, 1) := by decide +kernel
theorem dX6_learn_42 : decode cX6_learn 42 = .ok (.aload_n 1, 1) := by decide +kernel
theorem dX6_learn_43 : decode cX6_learn 43 = .ok (.getfield 48, 3) := by decide +kernel
theorem dX6_learn_46 : decode cX6_learn 46 = .ok (.iload_n 3, 1) := by decide +kernel
theorem dX6_learn_47 : decode cX6_learn 47 = .ok (.iaload, 1) := by decide +kernel
theorem dX6_learn_48 : decode cX6_learn 48 = .ok (.iastore, 1) := by decide +kernel
theorem dX6_learn_49 : decode cX6_learn 49 = .ok (.aload_n 0, 1) := by decide +kernel
theorem dX6_learn_50 : decode cX6_learn 50 = .ok (.getfield 25, 3) := by decide +kernel
theorem dX6_learn_53 : decode cX6_learn 53 = .ok (.iload_n 3, 1) := by decide +kernel
theorem dX6_learn_54 : decode cX6_learn 54 = .ok (.aload_n 1, 1) := by decide +kernel
theorem dX6_learn_55 : decode cX6_learn 55 = .ok (.getfield 48, 3) := by decide +kernel
theorem dX6_learn_58 : decode cX6_learn 58 = .ok (.iload_n 3, 1) := by decide +kernel
theorem dX6_learn_59 : decode cX6_learn 59 = .ok (.iaload, 1) := by decide +kernel
theorem dX6_learn_60 : decode cX6_learn 60 = .ok (.iconst (-1), 1) := by decide +kernel
theorem dX6_learn_61 : decode cX6_learn 61 = .ok (.if_icmp .eq 7, 3) := by decide +kernel
theorem dX6_learn_64 : decode cX6_learn 64 = .ok (.iconst 1, 1) := by decide +kernel
theorem dX6_learn_65 : decode cX6_learn 65 = .ok (.goto 4, 3) := by decide +kernel
theorem dX6_learn_68 : decode cX6_learn 68 = .ok (.iconst 0, 1) := by decide +kernel
theorem dX6_learn_69 : decode cX6_learn 69 = .ok (.bastore, 1) := by decide +kernel
theorem dX6_learn_70 : decode cX6_learn 70 = .ok (.aload_n 0, 1) := by decide +kernel
theorem dX6_learn_71 : decode cX6_learn 71 = .ok (.getfield 29, 3) := by decide +kernel
theorem dX6_learn_74 : decode cX6_learn 74 = .ok (.iload_n 3, 1) := by decide +kernel
theorem dX6_learn_75 : decode cX6_learn 75 = .ok (.iload 4, 2) := by decide +kernel
theorem dX6_learn_77 : decode cX6_learn 77 = .ok (.invokestatic 51, 3) := by decide +kernel
theorem dX6_learn_80 : decode cX6_learn 80 = .ok (.iastore, 1) := by decide +kernel
theorem dX6_learn_81 : decode cX6_learn 81 = .ok (.iload_n 3, 1) := by decide +kernel
theorem dX6_learn_82 : decode cX6_learn 82 = .ok (.iconst 1, 1) := by decide +kernel
theorem dX6_learn_83 : decode cX6_learn 83 = .ok (.iadd, 1) := by decide +kernel
theorem dX6_learn_84 : decode cX6_learn 84 = .ok (.istore 5, 2) := by decide +kernel
theorem dX6_learn_86 : decode cX6_learn 86 = .ok (.iload 5, 2) := by decide +kernel
theorem dX6_learn_88 : decode cX6_learn 88 = .ok (.aload_n 2, 1) := by decide +kernel
theorem dX6_learn_89 : decode cX6_learn 89 = .ok (.getfield 56, 3) := by decide +kernel
theorem dX6_learn_92 : decode cX6_learn 92 = .ok (.if_icmp .ge 59, 3) := by decide +kernel
theorem dX6_learn_95 : decode cX6_learn 95 = .ok (.iload 4, 2) := by decide +kernel
theorem dX6_learn_97 : decode cX6_learn 97 = .ok (.iload 5, 2) := by decide +kernel
theorem dX6_learn_99 : decode cX6_learn 99 = .ok (.ishr, 1) := by decide +kernel
theorem dX6_learn_100 : decode cX6_learn 100 = .ok (.iconst 1, 1) := by decide +kernel
theorem dX6_learn_101 : decode cX6_learn 101 = .ok (.iand, 1) := by decide +kernel
theorem dX6_learn_102 : decode cX6_learn 102 = .ok (.ifCond .eq 43, 3) := by decide +kernel
theorem dX6_learn_105 : decode cX6_learn 105 = .ok (.aload_n 0, 1) := by decide +kernel
theorem dX6_learn_106 : decode cX6_learn 106 = .ok (.getfield 9, 3) := by decide +kernel
theorem dX6_learn_109 : decode cX6_learn 109 = .ok (.bipush 16, 2) := by decide +kernel
theorem dX6_learn_111 : decode cX6_learn 111 = .ok (.if_icmp .ge 34, 3) := by decide +kernel
theorem dX6_learn_114 : decode cX6_learn 114 = .ok (.aload_n 0, 1) := by decide +kernel
theorem dX6_learn_115 : decode cX6_learn 115 = .ok (.getfield 15, 3) := by decide +kernel
theorem dX6_learn_118 : decode cX6_learn 118 = .ok (.aload_n 0, 1) := by decide +kernel
theorem dX6_learn_119 : decode cX6_learn 119 = .ok (.getfield 9, 3) := by decide +kernel
theorem dX6_learn_122 : decode cX6_learn 122 = .ok (.iload_n 3, 1) := by decide +kernel
theorem dX6_learn_123 : decode cX6_learn 123 = .ok (.iastore, 1) := by decide +kernel
theorem dX6_learn_124 : decode cX6_learn 124 = .ok (.aload_n 0, 1) := by decide +kernel
theorem dX6_learn_125 : decode cX6_learn 125 = .ok (.getfield 19, 3) := by decide +kernel
theorem dX6_learn_128 : decode cX6_learn 128 = .ok (.aload_n 0, 1) := by decide +kernel
theorem dX6_learn_129 : decode cX6_learn 129 = .ok (.getfield 9, 3) := by decide +kernel
theorem dX6_learn_132 : decode cX6_learn 132 = .ok (.iload 5, 2) := by decide +kernel
theorem dX6_learn_134 : decode cX6_learn 134 = .ok (.iastore, 1) := by decide +kernel
theorem dX6_learn_135 : decode cX6_learn 135 = .ok (.aload_n 0, 1) := by decide +kernel
theorem dX6_learn_136 : decode cX6_learn 136 = .ok (.dup, 1) := by decide +kernel
theorem dX6_learn_137 : decode cX6_learn 137 = .ok (.getfield 9, 3) := by decide +kernel
theorem dX6_learn_140 : decode cX6_learn 140 = .ok (.iconst 1, 1) := by decide +kernel
theorem dX6_learn_141 : decode cX6_learn 141 = .ok (.iadd, 1) := by decide +kernel
theorem dX6_learn_142 : decode cX6_learn 142 = .ok (.putfield 9, 3) := by decide +kernel
theorem dX6_learn_145 : decode cX6_learn 145 = .ok (.iinc 5 1, 3) := by decide +kernel
theorem dX6_learn_148 : decode cX6_learn 148 = .ok (.goto (-62), 3) := by decide +kernel
theorem dX6_learn_151 : decode cX6_learn 151 = .ok (.iinc 3 1, 3) := by decide +kernel
theorem dX6_learn_154 : decode cX6_learn 154 = .ok (.goto (-142), 3) := by decide +kernel
theorem dX6_learn_157 : decode cX6_learn 157 = .ok (.return_, 1) := by decide +kernel
theorem dX6_numberOf_0 : decode cX6_numberOf 0 = .ok (.iconst 0, 1) := by decide +kernel
theorem dX6_numberOf_1 : decode cX6_numberOf 1 = .ok (.istore_n 3, 1) := by decide +kernel
theorem dX6_numberOf_2 : decode cX6_numberOf 2 = .ok (.iload_n 3, 1) := by decide +kernel
theorem dX6_numberOf_3 : decode cX6_numberOf 3 = .ok (.aload_n 0, 1) := by decide +kernel
theorem dX6_numberOf_4 : decode cX6_numberOf 4 = .ok (.getfield 9, 3) := by decide +kernel
theorem dX6_numberOf_7 : decode cX6_numberOf 7 = .ok (.if_icmp .ge 31, 3) := by decide +kernel
theorem dX6_numberOf_10 : decode cX6_numberOf 10 = .ok (.aload_n 0, 1) := by decide +kernel
theorem dX6_numberOf_11 : decode cX6_numberOf 11 = .ok (.getfield 15, 3) := by decide +kernel
theorem dX6_numberOf_14 : decode cX6_numberOf 14 = .ok (.iload_n 3, 1) := by decide +kernel
theorem dX6_numberOf_15 : decode cX6_numberOf 15 = .ok (.iaload, 1) := by decide +kernel
theorem dX6_numberOf_16 : decode cX6_numberOf 16 = .ok (.iload_n 1, 1) := by decide +kernel
theorem dX6_numberOf_17 : decode cX6_numberOf 17 = .ok (.if_icmp .ne 15, 3) := by decide +kernel
theorem dX6_numberOf_20 : decode cX6_numberOf 20 = .ok (.aload_n 0, 1) := by decide +kernel
theorem dX6_numberOf_21 : decode cX6_numberOf 21 = .ok (.getfield 19, 3) := by decide +kernel
theorem dX6_numberOf_24 : decode cX6_numberOf 24 = .ok (.iload_n 3, 1) := by decide +kernel
theorem dX6_numberOf_25 : decode cX6_numberOf 25 = .ok (.iaload, 1) := by decide +kernel
theorem dX6_numberOf_26 : decode cX6_numberOf 26 = .ok (.iload_n 2, 1) := by decide +kernel
theorem dX6_numberOf_27 : decode cX6_numberOf 27 = .ok (.if_icmp .ne 5, 3) := by decide +kernel
theorem dX6_numberOf_30 : decode cX6_numberOf 30 = .ok (.iload_n 3, 1) := by decide +kernel
theorem dX6_numberOf_31 : decode cX6_numberOf 31 = .ok (.ireturn, 1) := by decide +kernel
theorem dX6_numberOf_32 : decode cX6_numberOf 32 = .ok (.iinc 3 1, 3) := by decide +kernel
theorem dX6_numberOf_35 : decode cX6_numberOf 35 = .ok (.goto (-33), 3) := by decide +kernel
theorem dX6_numberOf_38 : decode cX6_numberOf 38 = .ok (.iconst (-1), 1) := by decide +kernel
theorem dX6_numberOf_39 : decode cX6_numberOf 39 = .ok (.ireturn, 1) := by decide +kernel
set_option maxRecDepth 20000 in
theorem ggX6_waysWith_X6_canStillBe : GoodIn wsX6_waysWith wsX6_canStillBe := goodIn_r _ [5, 6, 7, 8, 16, 17, 18, 19, 20, 21] (by decide +kernel) (by decide +kernel)
set_option maxRecDepth 20000 in
theorem gX6_waysWith_X6_canStillBe : GoodIn wsX6_waysWith (wsV RX6 59 RX6 yX6_canStillBe wsX6_canStillBe) := goodIn_app (goodIn_of _ (by decide +kernel)) ggX6_waysWith_X6_canStillBe
set_option maxRecDepth 20000 in
theorem ggX6_waysWith_X6_waysFrom : GoodIn wsX6_waysWith wsX6_waysFrom := goodIn_r _ [12, 13, 14, 15, 6, 8, 7, 9, 10, 11, 4, 1, 2, 3, 5, 16, 17, 18, 19, 20, 21] (by decide +kernel) (by decide +kernel)
set_option maxRecDepth 20000 in
theorem gX6_waysWith_X6_waysFrom : GoodIn wsX6_waysWith (wsV RX6 62 RX6 yX6_waysFrom wsX6_waysFrom) := goodIn_app (goodIn_of _ (by decide +kernel)) ggX6_waysWith_X6_waysFrom
theorem dX6_waysWith_0 : decode cX6_waysWith 0 = .ok (.iconst 0, 1) := by decide +kernel
theorem dX6_waysWith_1 : decode cX6_waysWith 1 = .ok (.istore_n 2, 1) := by decide +kernel
theorem dX6_waysWith_2 : decode cX6_waysWith 2 = .ok (.iload_n 2, 1) := by decide +kernel
theorem dX6_waysWith_3 : decode cX6_waysWith 3 = .ok (.bipush 10, 2) := by decide +kernel
theorem dX6_waysWith_5 : decode cX6_waysWith 5 = .ok (.if_icmp .ge 19, 3) := by decide +kernel
theorem dX6_waysWith_8 : decode cX6_waysWith 8 = .ok (.aload_n 0, 1) := by decide +kernel
theorem dX6_waysWith_9 : decode cX6_waysWith 9 = .ok (.iload_n 2, 1) := by decide +kernel
theorem dX6_waysWith_10 : decode cX6_waysWith 10 = .ok (.invokevirtual 59, 3) := by decide +kernel
theorem dX6_waysWith_13 : decode cX6_waysWith 13 = .ok (.ifCond .ne 5, 3) := by decide +kernel
theorem dX6_waysWith_16 : decode cX6_waysWith 16 = .ok (.iconst 0, 1) := by decide +kernel
theorem dX6_waysWith_17 : decode cX6_waysWith 17 = .ok (.ireturn, 1) := by decide +kernel
theorem dX6_waysWith_18 : decode cX6_waysWith 18 = .ok (.iinc 2 1, 3) := by decide +kernel
theorem dX6_waysWith_21 : decode cX6_waysWith 21 = .ok (.goto (-19), 3) := by decide +kernel
theorem dX6_waysWith_24 : decode cX6_waysWith 24 = .ok (.aload_n 0, 1) := by decide +kernel
theorem dX6_waysWith_25 : decode cX6_waysWith 25 = .ok (.iconst 0, 1) := by decide +kernel
theorem dX6_waysWith_26 : decode cX6_waysWith 26 = .ok (.iload_n 1, 1) := by decide +kernel
theorem dX6_waysWith_27 : decode cX6_waysWith 27 = .ok (.invokevirtual 62, 3) := by decide +kernel
theorem dX6_waysWith_30 : decode cX6_waysWith 30 = .ok (.ireturn, 1) := by decide +kernel
theorem dX6_canStillBe_0 : decode cX6_canStillBe 0 = .ok (.aload_n 0, 1) := by decide +kernel
theorem dX6_canStillBe_1 : decode cX6_canStillBe 1 = .ok (.getfield 25, 3) := by decide +kernel
theorem dX6_canStillBe_4 : decode cX6_canStillBe 4 = .ok (.iload_n 1, 1) := by decide +kernel
theorem dX6_canStillBe_5 : decode cX6_canStillBe 5 = .ok (.baload, 1) := by decide +kernel
theorem dX6_canStillBe_6 : decode cX6_canStillBe 6 = .ok (.ifCond .eq 27, 3) := by decide +kernel
theorem dX6_canStillBe_9 : decode cX6_canStillBe 9 = .ok (.aload_n 0, 1) := by decide +kernel
theorem dX6_canStillBe_10 : decode cX6_canStillBe 10 = .ok (.getfield 22, 3) := by decide +kernel
theorem dX6_canStillBe_13 : decode cX6_canStillBe 13 = .ok (.iload_n 1, 1) := by decide +kernel
theorem dX6_canStillBe_14 : decode cX6_canStillBe 14 = .ok (.iaload, 1) := by decide +kernel
theorem dX6_canStillBe_15 : decode cX6_canStillBe 15 = .ok (.ifCond .lt 22, 3) := by decide +kernel
theorem dX6_canStillBe_18 : decode cX6_canStillBe 18 = .ok (.aload_n 0, 1) := by decide +kernel
theorem dX6_canStillBe_19 : decode cX6_canStillBe 19 = .ok (.getfield 22, 3) := by decide +kernel
theorem dX6_canStillBe_22 : decode cX6_canStillBe 22 = .ok (.iload_n 1, 1) := by decide +kernel
theorem dX6_canStillBe_23 : decode cX6_canStillBe 23 = .ok (.iaload, 1) := by decide +kernel
theorem dX6_canStillBe_24 : decode cX6_canStillBe 24 = .ok (.aload_n 0, 1) := by decide +kernel
theorem dX6_canStillBe_25 : decode cX6_canStillBe 25 = .ok (.getfield 29, 3) := by decide +kernel
theorem dX6_canStillBe_28 : decode cX6_canStillBe 28 = .ok (.iload_n 1, 1) := by decide +kernel
theorem dX6_canStillBe_29 : decode cX6_canStillBe 29 = .ok (.iaload, 1) := by decide +kernel
theorem dX6_canStillBe_30 : decode cX6_canStillBe 30 = .ok (.if_icmp .gt 7, 3) := by decide +kernel
theorem dX6_canStillBe_33 : decode cX6_canStillBe 33 = .ok (.iconst 1, 1) := by decide +kernel
theorem dX6_canStillBe_34 : decode cX6_canStillBe 34 = .ok (.goto 4, 3) := by decide +kernel
theorem dX6_canStillBe_37 : decode cX6_canStillBe 37 = .ok (.iconst 0, 1) := by decide +kernel
theorem dX6_canStillBe_38 : decode cX6_canStillBe 38 = .ok (.ireturn, 1) := by decide +kernel
set_option maxRecDepth 20000 in
theorem ggX6_waysFrom_X6_waysFrom : GoodIn wsX6_waysFrom wsX6_waysFrom := goodIn_r _ [0, 1, 2, 3, 4, 5, 6, 7, 8, 9, 10, 11, 12, 13, 14, 15, 16, 17, 18, 19, 20] (by decide +kernel) (by decide +kernel)
set_option maxRecDepth 20000 in
theorem gX6_waysFrom_X6_waysFrom : GoodIn wsX6_waysFrom (wsV RX6 62 RX6 yX6_waysFrom wsX6_waysFrom) := goodIn_app (goodIn_of _ (by decide +kernel)) ggX6_waysFrom_X6_waysFrom
set_option maxRecDepth 20000 in
theorem ggX6_waysFrom_X6_canStillBe : GoodIn wsX6_waysFrom wsX6_canStillBe := goodIn_r _ [14, 4, 6, 5, 15, 16, 17, 18, 19, 20] (by decide +kernel) (by decide +kernel)
set_option maxRecDepth 20000 in
theorem gX6_waysFrom_X6_canStillBe : GoodIn wsX6_waysFrom (wsV RX6 59 RX6 yX6_canStillBe wsX6_canStillBe) := goodIn_app (goodIn_of _ (by decide +kernel)) ggX6_waysFrom_X6_canStillBe
theorem dX6_waysFrom_0 : decode cX6_waysFrom 0 = .ok (.iload_n 1, 1) := by decide +kernel
theorem dX6_waysFrom_1 : decode cX6_waysFrom 1 = .ok (.ifCond .lt 11, 3) := by decide +kernel
theorem dX6_waysFrom_4 : decode cX6_waysFrom 4 = .ok (.iload_n 1, 1) := by decide +kernel
theorem dX6_waysFrom_5 : decode cX6_waysFrom 5 = .ok (.aload_n 0, 1) := by decide +kernel
theorem dX6_waysFrom_6 : decode cX6_waysFrom 6 = .ok (.getfield 9, 3) := by decide +kernel
theorem dX6_waysFrom_9 : decode cX6_waysFrom 9 = .ok (.if_icmp .lt 5, 3) := by decide +kernel
theorem dX6_waysFrom_12 : decode cX6_waysFrom 12 = .ok (.iconst 1, 1) := by decide +kernel
theorem dX6_waysFrom_13 : decode cX6_waysFrom 13 = .ok (.ireturn, 1) := by decide +kernel
theorem dX6_waysFrom_14 : decode cX6_waysFrom 14 = .ok (.aload_n 0, 1) := by decide +kernel
theorem dX6_waysFrom_15 : decode cX6_waysFrom 15 = .ok (.getfield 15, 3) := by decide +kernel
theorem dX6_waysFrom_18 : decode cX6_waysFrom 18 = .ok (.iload_n 1, 1) := by decide +kernel
theorem dX6_waysFrom_19 : decode cX6_waysFrom 19 = .ok (.iaload, 1) := by decide +kernel
theorem dX6_waysFrom_20 : decode cX6_waysFrom 20 = .ok (.istore_n 3, 1) := by decide +kernel
theorem dX6_waysFrom_21 : decode cX6_waysFrom 21 = .ok (.aload_n 0, 1) := by decide +kernel
theorem dX6_waysFrom_22 : decode cX6_waysFrom 22 = .ok (.getfield 19, 3) := by decide +kernel
theorem dX6_waysFrom_25 : decode cX6_waysFrom 25 = .ok (.iload_n 1, 1) := by decide +kernel
theorem dX6_waysFrom_26 : decode cX6_waysFrom 26 = .ok (.iaload, 1) := by decide +kernel
theorem dX6_waysFrom_27 : decode cX6_waysFrom 27 = .ok (.istore 4, 2) := by decide +kernel
theorem dX6_waysFrom_29 : decode cX6_waysFrom 29 = .ok (.aload_n 0, 1) := by decide +kernel
theorem dX6_waysFrom_30 : decode cX6_waysFrom 30 = .ok (.getfield 25, 3) := by decide +kernel
theorem dX6_waysFrom_33 : decode cX6_waysFrom 33 = .ok (.iload_n 3, 1) := by decide +kernel
theorem dX6_waysFrom_34 : decode cX6_waysFrom 34 = .ok (.baload, 1) := by decide +kernel
theorem dX6_waysFrom_35 : decode cX6_waysFrom 35 = .ok (.ifCond .ne 33, 3) := by decide +kernel
theorem dX6_waysFrom_38 : decode cX6_waysFrom 38 = .ok (.aload_n 0, 1) := by decide +kernel
theorem dX6_waysFrom_39 : decode cX6_waysFrom 39 = .ok (.getfield 25, 3) := by decide +kernel
theorem dX6_waysFrom_42 : decode cX6_waysFrom 42 = .ok (.iload 4, 2) := by decide +kernel
theorem dX6_waysFrom_44 : decode cX6_waysFrom 44 = .ok (.baload, 1) := by decide +kernel
theorem dX6_waysFrom_45 : decode cX6_waysFrom 45 = .ok (.ifCond .ne 23, 3) := by decide +kernel
theorem dX6_waysFrom_48 : decode cX6_waysFrom 48 = .ok (.iload_n 1, 1) := by decide +kernel
theorem dX6_waysFrom_49 : decode cX6_waysFrom 49 = .ok (.iload_n 2, 1) := by decide +kernel
theorem dX6_waysFrom_50 : decode cX6_waysFrom 50 = .ok (.if_icmp .ne 7, 3) := by decide +kernel
theorem dX6_waysFrom_53 : decode cX6_waysFrom 53 = .ok (.iconst 1, 1) := by decide +kernel
theorem dX6_waysFrom_54 : decode cX6_waysFrom 54 = .ok (.goto 4, 3) := by decide +kernel
theorem dX6_waysFrom_57 : decode cX6_waysFrom 57 = .ok (.iconst 2, 1) := by decide +kernel
theorem dX6_waysFrom_58 : decode cX6_waysFrom 58 = .ok (.aload_n 0, 1) := by decide +kernel
theorem dX6_waysFrom_59 : decode cX6_waysFrom 59 = .ok (.iload_n 1, 1) := by decide +kernel
theorem dX6_waysFrom_60 : decode cX6_waysFrom 60 = .ok (.iconst 1, 1) := by decide +kernel
theorem dX6_waysFrom_61 : decode cX6_waysFrom 61 = .ok (.iadd, 1) := by decide +kernel
theorem dX6_waysFrom_62 : decode cX6_waysFrom 62 = .ok (.iload_n 2, 1) := by decide +kernel
theorem dX6_waysFrom_63 : decode cX6_waysFrom 63 = .ok (.invokevirtual 62, 3) := by decide +kernel
theorem dX6_waysFrom_66 : decode cX6_waysFrom 66 = .ok (.imul, 1) := by decide +kernel
theorem dX6_waysFrom_67 : decode cX6_waysFrom 67 = .ok (.ireturn, 1) := by decide +kernel
theorem dX6_waysFrom_68 : decode cX6_waysFrom 68 = .ok (.aload_n 0, 1) := by decide +kernel
theorem dX6_waysFrom_69 : decode cX6_waysFrom 69 = .ok (.getfield 29, 3) := by decide +kernel
theorem dX6_waysFrom_72 : decode cX6_waysFrom 72 = .ok (.iload_n 3, 1) := by decide +kernel
theorem dX6_waysFrom_73 : decode cX6_waysFrom 73 = .ok (.dup2, 1) := by decide +kernel
theorem dX6_waysFrom_74 : decode cX6_waysFrom 74 = .ok (.iaload, 1) := by decide +kernel
theorem dX6_waysFrom_75 : decode cX6_waysFrom 75 = .ok (.iconst 1, 1) := by decide +kernel
theorem dX6_waysFrom_76 : decode cX6_waysFrom 76 = .ok (.isub, 1) := by decide +kernel
theorem dX6_waysFrom_77 : decode cX6_waysFrom 77 = .ok (.iastore, 1) := by decide +kernel
theorem dX6_waysFrom_78 : decode cX6_waysFrom 78 = .ok (.aload_n 0, 1) := by decide +kernel
theorem dX6_waysFrom_79 : decode cX6_waysFrom 79 = .ok (.getfield 29, 3) := by decide +kernel
theorem dX6_waysFrom_82 : decode cX6_waysFrom 82 = .ok (.iload 4, 2) := by decide +kernel
theorem dX6_waysFrom_84 : decode cX6_waysFrom 84 = .ok (.dup2, 1) := by decide +kernel
theorem dX6_waysFrom_85 : decode cX6_waysFrom 85 = .ok (.iaload, 1) := by decide +kernel
theorem dX6_waysFrom_86 : decode cX6_waysFrom 86 = .ok (.iconst 1, 1) := by decide +kernel
theorem dX6_waysFrom_87 : decode cX6_waysFrom 87 = .ok (.isub, 1) := by decide +kernel
theorem dX6_waysFrom_88 : decode cX6_waysFrom 88 = .ok (.iastore, 1) := by decide +kernel
theorem dX6_waysFrom_89 : decode cX6_waysFrom 89 = .ok (.iconst 0, 1) := by decide +kernel
theorem dX6_waysFrom_90 : decode cX6_waysFrom 90 = .ok (.istore 5, 2) := by decide +kernel
theorem dX6_waysFrom_92 : decode cX6_waysFrom 92 = .ok (.iload_n 1, 1) := by decide +kernel
theorem dX6_waysFrom_93 : decode cX6_waysFrom 93 = .ok (.iload_n 2, 1) := by decide +kernel
theorem dX6_waysFrom_94 : decode cX6_waysFrom 94 = .ok (.if_icmp .eq 33, 3) := by decide +kernel
theorem dX6_waysFrom_97 : decode cX6_waysFrom 97 = .ok (.aload_n 0, 1) := by decide +kernel
theorem dX6_waysFrom_98 : decode cX6_waysFrom 98 = .ok (.iload_n 3, 1) := by decide +kernel
theorem dX6_waysFrom_99 : decode cX6_waysFrom 99 = .ok (.invokevirtual 59, 3) := by decide +kernel
theorem dX6_waysFrom_102 : decode cX6_waysFrom 102 = .ok (.ifCond .eq 25, 3) := by decide +kernel
theorem dX6_waysFrom_105 : decode cX6_waysFrom 105 = .ok (.aload_n 0, 1) := by decide +kernel
theorem dX6_waysFrom_106 : decode cX6_waysFrom 106 = .ok (.iload 4, 2) := by decide +kernel
theorem dX6_waysFrom_108 : decode cX6_waysFrom 108 = .ok (.invokevirtual 59, 3) := by decide +kernel
theorem dX6_waysFrom_111 : decode cX6_waysFrom 111 = .ok (.ifCond .eq 16, 3) := by decide +kernel
theorem dX6_waysFrom_114 : decode cX6_waysFrom 114 = .ok (.iload 5, 2) := by decide +kernel
theorem dX6_waysFrom_116 : decode cX6_waysFrom 116 = .ok (.aload_n 0, 1) := by decide +kernel
theorem dX6_waysFrom_117 : decode cX6_waysFrom 117 = .ok (.iload_n 1, 1) := by decide +kernel
theorem dX6_waysFrom_118 : decode cX6_waysFrom 118 = .ok (.iconst 1, 1) := by decide +kernel
theorem dX6_waysFrom_119 : decode cX6_waysFrom 119 = .ok (.iadd, 1) := by decide +kernel
theorem dX6_waysFrom_120 : decode cX6_waysFrom 120 = .ok (.iload_n 2, 1) := by decide +kernel
theorem dX6_waysFrom_121 : decode cX6_waysFrom 121 = .ok (.invokevirtual 62, 3) := by decide +kernel
theorem dX6_waysFrom_124 : decode cX6_waysFrom 124 = .ok (.iadd, 1) := by decide +kernel
theorem dX6_waysFrom_125 : decode cX6_waysFrom 125 = .ok (.istore 5, 2) := by decide +kernel
theorem dX6_waysFrom_127 : decode cX6_waysFrom 127 = .ok (.aload_n 0, 1) := by decide +kernel
theorem dX6_waysFrom_128 : decode cX6_waysFrom 128 = .ok (.getfield 22, 3) := by decide +kernel
theorem dX6_waysFrom_131 : decode cX6_waysFrom 131 = .ok (.iload_n 3, 1) := by decide +kernel
theorem dX6_waysFrom_132 : decode cX6_waysFrom 132 = .ok (.dup2, 1) := by decide +kernel
theorem dX6_waysFrom_133 : decode cX6_waysFrom 133 = .ok (.iaload, 1) := by decide +kernel
theorem dX6_waysFrom_134 : decode cX6_waysFrom 134 = .ok (.iconst 1, 1) := by decide +kernel
theorem dX6_waysFrom_135 : decode cX6_waysFrom 135 = .ok (.isub, 1) := by decide +kernel
theorem dX6_waysFrom_136 : decode cX6_waysFrom 136 = .ok (.iastore, 1) := by decide +kernel
theorem dX6_waysFrom_137 : decode cX6_waysFrom 137 = .ok (.aload_n 0, 1) := by decide +kernel
theorem dX6_waysFrom_138 : decode cX6_waysFrom 138 = .ok (.getfield 22, 3) := by decide +kernel
theorem dX6_waysFrom_141 : decode cX6_waysFrom 141 = .ok (.iload 4, 2) := by decide +kernel
theorem dX6_waysFrom_143 : decode cX6_waysFrom 143 = .ok (.dup2, 1) := by decide +kernel
theorem dX6_waysFrom_144 : decode cX6_waysFrom 144 = .ok (.iaload, 1) := by decide +kernel
theorem dX6_waysFrom_145 : decode cX6_waysFrom 145 = .ok (.iconst 1, 1) := by decide +kernel
theorem dX6_waysFrom_146 : decode cX6_waysFrom 146 = .ok (.isub, 1) := by decide +kernel
theorem dX6_waysFrom_147 : decode cX6_waysFrom 147 = .ok (.iastore, 1) := by decide +kernel
theorem dX6_waysFrom_148 : decode cX6_waysFrom 148 = .ok (.aload_n 0, 1) := by decide +kernel
theorem dX6_waysFrom_149 : decode cX6_waysFrom 149 = .ok (.iload_n 3, 1) := by decide +kernel
theorem dX6_waysFrom_150 : decode cX6_waysFrom 150 = .ok (.invokevirtual 59, 3) := by decide +kernel
theorem dX6_waysFrom_153 : decode cX6_waysFrom 153 = .ok (.ifCond .eq 25, 3) := by decide +kernel
theorem dX6_waysFrom_156 : decode cX6_waysFrom 156 = .ok (.aload_n 0, 1) := by decide +kernel
theorem dX6_waysFrom_157 : decode cX6_waysFrom 157 = .ok (.iload 4, 2) := by decide +kernel
theorem dX6_waysFrom_159 : decode cX6_waysFrom 159 = .ok (.invokevirtual 59, 3) := by decide +kernel
theorem dX6_waysFrom_162 : decode cX6_waysFrom 162 = .ok (.ifCond .eq 16, 3) := by decide +kernel
theorem dX6_waysFrom_165 : decode cX6_waysFrom 165 = .ok (.iload 5, 2) := by decide +kernel
theorem dX6_waysFrom_167 : decode cX6_waysFrom 167 = .ok (.aload_n 0, 1) := by decide +kernel
theorem dX6_waysFrom_168 : decode cX6_waysFrom 168 = .ok (.iload_n 1, 1) := by decide +kernel
theorem dX6_waysFrom_169 : decode cX6_waysFrom 169 = .ok (.iconst 1, 1) := by decide +kernel
theorem dX6_waysFrom_170 : decode cX6_waysFrom 170 = .ok (.iadd, 1) := by decide +kernel
theorem dX6_waysFrom_171 : decode cX6_waysFrom 171 = .ok (.iload_n 2, 1) := by decide +kernel
theorem dX6_waysFrom_172 : decode cX6_waysFrom 172 = .ok (.invokevirtual 62, 3) := by decide +kernel
theorem dX6_waysFrom_175 : decode cX6_waysFrom 175 = .ok (.iadd, 1) := by decide +kernel
theorem dX6_waysFrom_176 : decode cX6_waysFrom 176 = .ok (.istore 5, 2) := by decide +kernel
theorem dX6_waysFrom_178 : decode cX6_waysFrom 178 = .ok (.aload_n 0, 1) := by decide +kernel
theorem dX6_waysFrom_179 : decode cX6_waysFrom 179 = .ok (.getfield 22, 3) := by decide +kernel
theorem dX6_waysFrom_182 : decode cX6_waysFrom 182 = .ok (.iload_n 3, 1) := by decide +kernel
theorem dX6_waysFrom_183 : decode cX6_waysFrom 183 = .ok (.dup2, 1) := by decide +kernel
theorem dX6_waysFrom_184 : decode cX6_waysFrom 184 = .ok (.iaload, 1) := by decide +kernel
theorem dX6_waysFrom_185 : decode cX6_waysFrom 185 = .ok (.iconst 1, 1) := by decide +kernel
theorem dX6_waysFrom_186 : decode cX6_waysFrom 186 = .ok (.iadd, 1) := by decide +kernel
theorem dX6_waysFrom_187 : decode cX6_waysFrom 187 = .ok (.iastore, 1) := by decide +kernel
theorem dX6_waysFrom_188 : decode cX6_waysFrom 188 = .ok (.aload_n 0, 1) := by decide +kernel
theorem dX6_waysFrom_189 : decode cX6_waysFrom 189 = .ok (.getfield 22, 3) := by decide +kernel
theorem dX6_waysFrom_192 : decode cX6_waysFrom 192 = .ok (.iload 4, 2) := by decide +kernel
theorem dX6_waysFrom_194 : decode cX6_waysFrom 194 = .ok (.dup2, 1) := by decide +kernel
theorem dX6_waysFrom_195 : decode cX6_waysFrom 195 = .ok (.iaload, 1) := by decide +kernel
theorem dX6_waysFrom_196 : decode cX6_waysFrom 196 = .ok (.iconst 1, 1) := by decide +kernel
theorem dX6_waysFrom_197 : decode cX6_waysFrom 197 = .ok (.iadd, 1) := by decide +kernel
theorem dX6_waysFrom_198 : decode cX6_waysFrom 198 = .ok (.iastore, 1) := by decide +kernel
theorem dX6_waysFrom_199 : decode cX6_waysFrom 199 = .ok (.aload_n 0, 1) := by decide +kernel
theorem dX6_waysFrom_200 : decode cX6_waysFrom 200 = .ok (.getfield 29, 3) := by decide +kernel
theorem dX6_waysFrom_203 : decode cX6_waysFrom 203 = .ok (.iload_n 3, 1) := by decide +kernel
theorem dX6_waysFrom_204 : decode cX6_waysFrom 204 = .ok (.dup2, 1) := by decide +kernel
theorem dX6_waysFrom_205 : decode cX6_waysFrom 205 = .ok (.iaload, 1) := by decide +kernel
theorem dX6_waysFrom_206 : decode cX6_waysFrom 206 = .ok (.iconst 1, 1) := by decide +kernel
theorem dX6_waysFrom_207 : decode cX6_waysFrom 207 = .ok (.iadd, 1) := by decide +kernel
theorem dX6_waysFrom_208 : decode cX6_waysFrom 208 = .ok (.iastore, 1) := by decide +kernel
theorem dX6_waysFrom_209 : decode cX6_waysFrom 209 = .ok (.aload_n 0, 1) := by decide +kernel
theorem dX6_waysFrom_210 : decode cX6_waysFrom 210 = .ok (.getfield 29, 3) := by decide +kernel
theorem dX6_waysFrom_213 : decode cX6_waysFrom 213 = .ok (.iload 4, 2) := by decide +kernel
theorem dX6_waysFrom_215 : decode cX6_waysFrom 215 = .ok (.dup2, 1) := by decide +kernel
theorem dX6_waysFrom_216 : decode cX6_waysFrom 216 = .ok (.iaload, 1) := by decide +kernel
theorem dX6_waysFrom_217 : decode cX6_waysFrom 217 = .ok (.iconst 1, 1) := by decide +kernel
theorem dX6_waysFrom_218 : decode cX6_waysFrom 218 = .ok (.iadd, 1) := by decide +kernel
theorem dX6_waysFrom_219 : decode cX6_waysFrom 219 = .ok (.iastore, 1) := by decide +kernel
theorem dX6_waysFrom_220 : decode cX6_waysFrom 220 = .ok (.iload 5, 2) := by decide +kernel
theorem dX6_waysFrom_222 : decode cX6_waysFrom 222 = .ok (.ireturn, 1) := by decide +kernel
theorem dX7_init_0 : decode cX7_init 0 = .ok (.aload_n 0, 1) := by decide +kernel
theorem dX7_init_1 : decode cX7_init 1 = .ok (.invokespecial 3, 3) := by decide +kernel
theorem dX7_init_4 : decode cX7_init 4 = .ok (.aload_n 0, 1) := by decide +kernel
theorem dX7_init_5 : decode cX7_init 5 = .ok (.sipush 400, 3) := by decide +kernel
theorem dX7_init_8 : decode cX7_init 8 = .ok (.newarray .byte, 2) := by decide +kernel
theorem dX7_init_10 : decode cX7_init 10 = .ok (.putfield 9, 3) := by decide +kernel
theorem dX7_init_13 : decode cX7_init 13 = .ok (.aload_n 0, 1) := by decide +kernel
theorem dX7_init_14 : decode cX7_init 14 = .ok (.iconst 0, 1) := by decide +kernel
theorem dX7_init_15 : decode cX7_init 15 = .ok (.putfield 15, 3) := by decide +kernel
theorem dX7_init_18 : decode cX7_init 18 = .ok (.aload_n 0, 1) := by decide +kernel
theorem dX7_init_19 : decode cX7_init 19 = .ok (.iconst 0, 1) := by decide +kernel
theorem dX7_init_20 : decode cX7_init 20 = .ok (.putfield 19, 3) := by decide +kernel
theorem dX7_init_23 : decode cX7_init 23 = .ok (.aload_n 0, 1) := by decide +kernel
theorem dX7_init_24 : decode cX7_init 24 = .ok (.iconst 0, 1) := by decide +kernel
theorem dX7_init_25 : decode cX7_init 25 = .ok (.putfield 22, 3) := by decide +kernel
theorem dX7_init_28 : decode cX7_init 28 = .ok (.aload_n 0, 1) := by decide +kernel
theorem dX7_init_29 : decode cX7_init 29 = .ok (.iconst 0, 1) := by decide +kernel
theorem dX7_init_30 : decode cX7_init 30 = .ok (.putfield 25, 3) := by decide +kernel
theorem dX7_init_33 : decode cX7_init 33 = .ok (.return_, 1) := by decide +kernel
theorem dX7_put_0 : decode cX7_put 0 = .ok (.bipush 24, 2) := by decide +kernel
theorem dX7_put_2 : decode cX7_put 2 = .ok (.istore_n 2, 1) := by decide +kernel
theorem dX7_put_3 : decode cX7_put 3 = .ok (.iload_n 2, 1) := by decide +kernel
theorem dX7_put_4 : decode cX7_put 4 = .ok (.ifCond .lt 44, 3) := by decide +kernel
theorem dX7_put_7 : decode cX7_put 7 = .ok (.aload_n 0, 1) := by decide +kernel
theorem dX7_put_8 : decode cX7_put 8 = .ok (.getfield 15, 3) := by decide +kernel
theorem dX7_put_11 : decode cX7_put 11 = .ok (.aload_n 0, 1) := by decide +kernel
theorem dX7_put_12 : decode cX7_put 12 = .ok (.getfield 9, 3) := by decide +kernel
theorem dX7_put_15 : decode cX7_put 15 = .ok (.arraylength, 1) := by decide +kernel
theorem dX7_put_16 : decode cX7_put 16 = .ok (.if_icmp .ge 26, 3) := by decide +kernel
theorem dX7_put_19 : decode cX7_put 19 = .ok (.aload_n 0, 1) := by decide +kernel
theorem dX7_put_20 : decode cX7_put 20 = .ok (.getfield 9, 3) := by decide +kernel
theorem dX7_put_23 : decode cX7_put 23 = .ok (.aload_n 0, 1) := by decide +kernel
theorem dX7_put_24 : decode cX7_put 24 = .ok (.getfield 15, 3) := by decide +kernel
theorem dX7_put_27 : decode cX7_put 27 = .ok (.iload_n 1, 1) := by decide +kernel
theorem dX7_put_28 : decode cX7_put 28 = .ok (.iload_n 2, 1) := by decide +kernel
theorem dX7_put_29 : decode cX7_put 29 = .ok (.ishr, 1) := by decide +kernel
theorem dX7_put_30 : decode cX7_put 30 = .ok (.i2b, 1) := by decide +kernel
theorem dX7_put_31 : decode cX7_put 31 = .ok (.bastore, 1) := by decide +kernel
theorem dX7_put_32 : decode cX7_put 32 = .ok (.aload_n 0, 1) := by decide +kernel
theorem dX7_put_33 : decode cX7_put 33 = .ok (.dup, 1) := by decide +kernel
theorem dX7_put_34 : decode cX7_put 34 = .ok (.getfield 15, 3) := by decide +kernel
theorem dX7_put_37 : decode cX7_put 37 = .ok (.iconst 1, 1) := by decide +kernel
theorem dX7_put_38 : decode cX7_put 38 = .ok (.iadd, 1) := by decide +kernel
theorem dX7_put_39 : decode cX7_put 39 = .ok (.putfield 15, 3) := by decide +kernel
theorem dX7_put_42 : decode cX7_put 42 = .ok (.iinc 2 (-8), 3) := by decide +kernel
theorem dX7_put_45 : decode cX7_put 45 = .ok (.goto (-42), 3) := by decide +kernel
theorem dX7_put_48 : decode cX7_put 48 = .ok (.return_, 1) := by decide +kernel
theorem dX7_startReading_0 : decode cX7_startReading 0 = .ok (.aload_n 0, 1) := by decide +kernel
theorem dX7_startReading_1 : decode cX7_startReading 1 = .ok (.iconst 0, 1) := by decide +kernel
theorem dX7_startReading_2 : decode cX7_startReading 2 = .ok (.putfield 19, 3) := by decide +kernel
theorem dX7_startReading_5 : decode cX7_startReading 5 = .ok (.aload_n 0, 1) := by decide +kernel
theorem dX7_startReading_6 : decode cX7_startReading 6 = .ok (.iconst 0, 1) := by decide +kernel
theorem dX7_startReading_7 : decode cX7_startReading 7 = .ok (.putfield 25, 3) := by decide +kernel
theorem dX7_startReading_10 : decode cX7_startReading 10 = .ok (.aload_n 0, 1) := by decide +kernel
theorem dX7_startReading_11 : decode cX7_startReading 11 = .ok (.iconst 0, 1) := by decide +kernel
theorem dX7_startReading_12 : decode cX7_startReading 12 = .ok (.putfield 22, 3) := by decide +kernel
theorem dX7_startReading_15 : decode cX7_startReading 15 = .ok (.return_, 1) := by decide +kernel
theorem dX7_blame_0 : decode cX7_blame 0 = .ok (.aload_n 0, 1) := by decide +kernel
theorem dX7_blame_1 : decode cX7_blame 1 = .ok (.getfield 22, 3) := by decide +kernel
theorem dX7_blame_4 : decode cX7_blame 4 = .ok (.ifCond .ne 15, 3) := by decide +kernel
theorem dX7_blame_7 : decode cX7_blame 7 = .ok (.aload_n 0, 1) := by decide +kernel
theorem dX7_blame_8 : decode cX7_blame 8 = .ok (.iconst 1, 1) := by decide +kernel
theorem dX7_blame_9 : decode cX7_blame 9 = .ok (.bipush 8, 2) := by decide +kernel
theorem dX7_blame_11 : decode cX7_blame 11 = .ok (.iload_n 1, 1) := by decide +kernel
theorem dX7_blame_12 : decode cX7_blame 12 = .ok (.imul, 1) := by decide +kernel
theorem dX7_blame_13 : decode cX7_blame 13 = .ok (.iadd, 1) := by decide +kernel
theorem dX7_blame_14 : decode cX7_blame 14 = .ok (.iload_n 2, 1) := by decide +kernel
theorem dX7_blame_15 : decode cX7_blame 15 = .ok (.iadd, 1) := by decide +kernel
theorem dX7_blame_16 : decode cX7_blame 16 = .ok (.putfield 22, 3) := by decide +kernel
theorem dX7_blame_19 : decode cX7_blame 19 = .ok (.iconst 0, 1) := by decide +kernel
theorem dX7_blame_20 : decode cX7_blame 20 = .ok (.ireturn, 1) := by decide +kernel
theorem dX7_byteAt_0 : decode cX7_byteAt 0 = .ok (.iload_n 1, 1) := by decide +kernel
theorem dX7_byteAt_1 : decode cX7_byteAt 1 = .ok (.ifCond .lt 33, 3) := by decide +kernel
theorem dX7_byteAt_4 : decode cX7_byteAt 4 = .ok (.iload_n 1, 1) := by decide +kernel
theorem dX7_byteAt_5 : decode cX7_byteAt 5 = .ok (.aload_n 0, 1) := by decide +kernel
theorem dX7_byteAt_6 : decode cX7_byteAt 6 = .ok (.getfield 15, 3) := by decide +kernel
theorem dX7_byteAt_9 : decode cX7_byteAt 9 = .ok (.if_icmp .ge 25, 3) := by decide +kernel
theorem dX7_byteAt_12 : decode cX7_byteAt 12 = .ok (.iload_n 1, 1) := by decide +kernel
theorem dX7_byteAt_13 : decode cX7_byteAt 13 = .ok (.aload_n 0, 1) := by decide +kernel
theorem dX7_byteAt_14 : decode cX7_byteAt 14 = .ok (.getfield 9, 3) := by decide +kernel
theorem dX7_byteAt_17 : decode cX7_byteAt 17 = .ok (.arraylength, 1) := by decide +kernel
theorem dX7_byteAt_18 : decode cX7_byteAt 18 = .ok (.if_icmp .ge 16, 3) := by decide +kernel
theorem dX7_byteAt_21 : decode cX7_byteAt 21 = .ok (.aload_n 0, 1) := by decide +kernel
theorem dX7_byteAt_22 : decode cX7_byteAt 22 = .ok (.getfield 9, 3) := by decide +kernel
theorem dX7_byteAt_25 : decode cX7_byteAt 25 = .ok (.iload_n 1, 1) := by decide +kernel
theorem dX7_byteAt_26 : decode cX7_byteAt 26 = .ok (.baload, 1) := by decide +kernel
theorem dX7_byteAt_27 : decode cX7_byteAt 27 = .ok (.sipush 255, 3) := by decide +kernel
theorem dX7_byteAt_30 : decode cX7_byteAt 30 = .ok (.iand, 1) := by decide +kernel
theorem dX7_byteAt_31 : decode cX7_byteAt 31 = .ok (.goto 4, 3) := by decide +kernel
theorem dX7_byteAt_34 : decode cX7_byteAt 34 = .ok (.iconst (-1), 1) := by decide +kernel
theorem dX7_byteAt_35 : decode cX7_byteAt 35 = .ok (.ireturn, 1) := by decide +kernel
theorem dX7_isDigitAt_0 : decode cX7_isDigitAt 0 = .ok (.iload_n 1, 1) := by decide +kernel
theorem dX7_isDigitAt_1 : decode cX7_isDigitAt 1 = .ok (.ifCond .lt 24, 3) := by decide +kernel
theorem dX7_isDigitAt_4 : decode cX7_isDigitAt 4 = .ok (.iload_n 1, 1) := by decide +kernel
theorem dX7_isDigitAt_5 : decode cX7_isDigitAt 5 = .ok (.aload_n 0, 1) := by decide +kernel
theorem dX7_isDigitAt_6 : decode cX7_isDigitAt 6 = .ok (.getfield 15, 3) := by decide +kernel
theorem dX7_isDigitAt_9 : decode cX7_isDigitAt 9 = .ok (.if_icmp .ge 16, 3) := by decide +kernel
theorem dX7_isDigitAt_12 : decode cX7_isDigitAt 12 = .ok (.iload_n 1, 1) := by decide +kernel
theorem dX7_isDigitAt_13 : decode cX7_isDigitAt 13 = .ok (.aload_n 0, 1) := by decide +kernel
theorem dX7_isDigitAt_14 : decode cX7_isDigitAt 14 = .ok (.getfield 9, 3) := by decide +kernel
theorem dX7_isDigitAt_17 : decode cX7_isDigitAt 17 = .ok (.arraylength, 1) := by decide +kernel
theorem dX7_isDigitAt_18 : decode cX7_isDigitAt 18 = .ok (.if_icmp .ge 7, 3) := by decide +kernel
theorem dX7_isDigitAt_21 : decode cX7_isDigitAt 21 = .ok (.iconst 1, 1) := by decide +kernel
theorem dX7_isDigitAt_22 : decode cX7_isDigitAt 22 = .ok (.goto 4, 3) := by decide +kernel
theorem dX7_isDigitAt_25 : decode cX7_isDigitAt 25 = .ok (.iconst 0, 1) := by decide +kernel
theorem dX7_isDigitAt_26 : decode cX7_isDigitAt 26 = .ok (.istore_n 2, 1) := by decide +kernel
theorem dX7_isDigitAt_27 : decode cX7_isDigitAt 27 = .ok (.iload_n 2, 1) := by decide +kernel
theorem dX7_isDigitAt_28 : decode cX7_isDigitAt 28 = .ok (.ifCond .eq 29, 3) := by decide +kernel
theorem dX7_isDigitAt_31 : decode cX7_isDigitAt 31 = .ok (.aload_n 0, 1) := by decide +kernel
theorem dX7_isDigitAt_32 : decode cX7_isDigitAt 32 = .ok (.getfield 9, 3) := by decide +kernel
theorem dX7_isDigitAt_35 : decode cX7_isDigitAt 35 = .ok (.iload_n 1, 1) := by decide +kernel
theorem dX7_isDigitAt_36 : decode cX7_isDigitAt 36 = .ok (.baload, 1) := by decide +kernel
theorem dX7_isDigitAt_37 : decode cX7_isDigitAt 37 = .ok (.bipush 48, 2) := by decide +kernel
theorem dX7_isDigitAt_39 : decode cX7_isDigitAt 39 = .ok (.if_icmp .lt 18, 3) := by decide +kernel
theorem dX7_isDigitAt_42 : decode cX7_isDigitAt 42 = .ok (.aload_n 0, 1) := by decide +kernel
theorem dX7_isDigitAt_43 : decode cX7_isDigitAt 43 = .ok (.getfield 9, 3) := by decide +kernel
theorem dX7_isDigitAt_46 : decode cX7_isDigitAt 46 = .ok (.iload_n 1, 1) := by decide +kernel
theorem dX7_isDigitAt_47 : decode cX7_isDigitAt 47 = .ok (.baload, 1) := by decide +kernel
theorem dX7_isDigitAt_48 : decode cX7_isDigitAt 48 = .ok (.bipush 57, 2) := by decide +kernel
theorem dX7_isDigitAt_50 : decode cX7_isDigitAt 50 = .ok (.if_icmp .gt 7, 3) := by decide +kernel
theorem dX7_isDigitAt_53 : decode cX7_isDigitAt 53 = .ok (.iconst 1, 1) := by decide +kernel
theorem dX7_isDigitAt_54 : decode cX7_isDigitAt 54 = .ok (.goto 4, 3) := by decide +kernel
theorem dX7_isDigitAt_57 : decode cX7_isDigitAt 57 = .ok (.iconst 0, 1) := by decide +kernel
theorem dX7_isDigitAt_58 : decode cX7_isDigitAt 58 = .ok (.ireturn, 1) := by decide +kernel
theorem dX7_skipBlanks_0 : decode cX7_skipBlanks 0 = .ok (.aload_n 0, 1) := by decide +kernel
theorem dX7_skipBlanks_1 : decode cX7_skipBlanks 1 = .ok (.getfield 19, 3) := by decide +kernel
theorem dX7_skipBlanks_4 : decode cX7_skipBlanks 4 = .ok (.aload_n 0, 1) := by decide +kernel
theorem dX7_skipBlanks_5 : decode cX7_skipBlanks 5 = .ok (.getfield 15, 3) := by decide +kernel
theorem dX7_skipBlanks_8 : decode cX7_skipBlanks 8 = .ok (.if_icmp .ge 42, 3) := by decide +kernel
theorem dX7_skipBlanks_11 : decode cX7_skipBlanks 11 = .ok (.aload_n 0, 1) := by decide +kernel
theorem dX7_skipBlanks_12 : decode cX7_skipBlanks 12 = .ok (.getfield 19, 3) := by decide +kernel
theorem dX7_skipBlanks_15 : decode cX7_skipBlanks 15 = .ok (.aload_n 0, 1) := by decide +kernel
theorem dX7_skipBlanks_16 : decode cX7_skipBlanks 16 = .ok (.getfield 9, 3) := by decide +kernel
theorem dX7_skipBlanks_19 : decode cX7_skipBlanks 19 = .ok (.arraylength, 1) := by decide +kernel
theorem dX7_skipBlanks_20 : decode cX7_skipBlanks 20 = .ok (.if_icmp .ge 30, 3) := by decide +kernel
theorem dX7_skipBlanks_23 : decode cX7_skipBlanks 23 = .ok (.aload_n 0, 1) := by decide +kernel
theorem dX7_skipBlanks_24 : decode cX7_skipBlanks 24 = .ok (.getfield 9, 3) := by decide +kernel
theorem dX7_skipBlanks_27 : decode cX7_skipBlanks 27 = .ok (.aload_n 0, 1) := by decide +kernel
theorem dX7_skipBlanks_28 : decode cX7_skipBlanks 28 = .ok (.getfield 19, 3) := by decide +kernel
theorem dX7_skipBlanks_31 : decode cX7_skipBlanks 31 = .ok (.baload, 1) := by decide +kernel
theorem dX7_skipBlanks_32 : decode cX7_skipBlanks 32 = .ok (.bipush 32, 2) := by decide +kernel
theorem dX7_skipBlanks_34 : decode cX7_skipBlanks 34 = .ok (.if_icmp .ne 16, 3) := by decide +kernel
theorem dX7_skipBlanks_37 : decode cX7_skipBlanks 37 = .ok (.aload_n 0, 1) := by decide +kernel
theorem dX7_skipBlanks_38 : decode cX7_skipBlanks 38 = .ok (.dup, 1) := by decide +kernel
theorem dX7_skipBlanks_39 : decode cX7_skipBlanks 39 = .ok (.getfield 19, 3) := by decide +kernel
theorem dX7_skipBlanks_42 : decode cX7_skipBlanks 42 = .ok (.iconst 1, 1) := by decide +kernel
theorem dX7_skipBlanks_43 : decode cX7_skipBlanks 43 = .ok (.iadd, 1) := by decide +kernel
theorem dX7_skipBlanks_44 : decode cX7_skipBlanks 44 = .ok (.putfield 19, 3) := by decide +kernel
theorem dX7_skipBlanks_47 : decode cX7_skipBlanks 47 = .ok (.goto (-47), 3) := by decide +kernel
theorem dX7_skipBlanks_50 : decode cX7_skipBlanks 50 = .ok (.return_, 1) := by decide +kernel
set_option maxRecDepth 20000 in
theorem ggX7_isAtEnd_X7_skipBlanks : GoodIn wsX7_isAtEnd wsX7_skipBlanks := goodIn_r _ [7, 1, 2, 8, 9, 10, 11, 12, 13] (by decide +kernel) (by decide +kernel)
set_option maxRecDepth 20000 in
theorem gX7_isAtEnd_X7_skipBlanks : GoodIn wsX7_isAtEnd (wsV RX7 28 RX7 yX7_skipBlanks wsX7_skipBlanks) := goodIn_app (goodIn_of _ (by decide +kernel)) ggX7_isAtEnd_X7_skipBlanks
theorem dX7_isAtEnd_0 : decode cX7_isAtEnd 0 = .ok (.aload_n 0, 1) := by decide +kernel
theorem dX7_isAtEnd_1 : decode cX7_isAtEnd 1 = .ok (.invokevirtual 28, 3) := by decide +kernel
theorem dX7_isAtEnd_4 : decode cX7_isAtEnd 4 = .ok (.aload_n 0, 1) := by decide +kernel
theorem dX7_isAtEnd_5 : decode cX7_isAtEnd 5 = .ok (.getfield 19, 3) := by decide +kernel
theorem dX7_isAtEnd_8 : decode cX7_isAtEnd 8 = .ok (.aload_n 0, 1) := by decide +kernel
theorem dX7_isAtEnd_9 : decode cX7_isAtEnd 9 = .ok (.getfield 15, 3) := by decide +kernel
theorem dX7_isAtEnd_12 : decode cX7_isAtEnd 12 = .ok (.if_icmp .lt 7, 3) := by decide +kernel
theorem dX7_isAtEnd_15 : decode cX7_isAtEnd 15 = .ok (.iconst 1, 1) := by decide +kernel
theorem dX7_isAtEnd_16 : decode cX7_isAtEnd 16 = .ok (.goto 4, 3) := by decide +kernel
theorem dX7_isAtEnd_19 : decode cX7_isAtEnd 19 = .ok (.iconst 0, 1) := by decide +kernel
theorem dX7_isAtEnd_20 : decode cX7_isAtEnd 20 = .ok (.ireturn, 1) := by decide +kernel
set_option maxRecDepth 20000 in
theorem ggX7_takeWord_X7_skipBlanks : GoodIn wsX7_takeWord wsX7_skipBlanks := goodIn_r _ [9, 1, 2, 3, 59, 60, 61, 62, 63] (by decide +kernel) (by decide +kernel)
set_option maxRecDepth 20000 in
theorem gX7_takeWord_X7_skipBlanks : GoodIn wsX7_takeWord (wsV RX7 28 RX7 yX7_skipBlanks wsX7_skipBlanks) := goodIn_app (goodIn_of _ (by decide +kernel)) ggX7_takeWord_X7_skipBlanks
set_option maxRecDepth 20000 in
theorem ggX7_takeWord_J0_length_8abf5 : GoodIn wsX7_takeWord wsJ0_length_8abf5 := goodIn_r _ [14, 15, 16, 17, 18, 13, 19, 20, 21] (by decide +kernel) (by decide +kernel)
set_option maxRecDepth 20000 in
theorem gX7_takeWord_J0_length_8abf5 : GoodIn wsX7_takeWord (wsV RX7 31 RJ0 yJ0_length_8abf5 wsJ0_length_8abf5) := goodIn_app (goodIn_of _ (by decide +kernel)) ggX7_takeWord_J0_length_8abf5
set_option maxRecDepth 20000 in
theorem ggX7_takeWord_J0_charAt_5068e : GoodIn wsX7_takeWord wsJ0_charAt_5068e := goodIn_r _ [25, 15, 26, 27, 28, 13, 29, 20, 21, 30, 31, 32, 33, 34, 35, 36, 37, 38, 39, 40, 41, 42, 43, 44, 45, 46, 47, 48, 49, 50, 51, 52, 53, 54, 55, 56, 57, 58] (by decide +kernel) (by decide +kernel)
set_option maxRecDepth 20000 in
theorem gX7_takeWord_J0_charAt_5068e : GoodIn wsX7_takeWord (wsV RX7 36 RJ0 yJ0_charAt_5068e wsJ0_charAt_5068e) := goodIn_app (goodIn_of _ (by decide +kernel)) ggX7_takeWord_J0_charAt_5068e
theorem dX7_takeWord_0 : decode cX7_takeWord 0 = .ok (.aload_n 0, 1) := by decide +kernel
theorem dX7_takeWord_1 : decode cX7_takeWord 1 = .ok (.invokevirtual 28, 3) := by decide +kernel
theorem dX7_takeWord_4 : decode cX7_takeWord 4 = .ok (.aload_n 0, 1) := by decide +kernel
theorem dX7_takeWord_5 : decode cX7_takeWord 5 = .ok (.getfield 19, 3) := by decide +kernel
theorem dX7_takeWord_8 : decode cX7_takeWord 8 = .ok (.istore_n 2, 1) := by decide +kernel
theorem dX7_takeWord_9 : decode cX7_takeWord 9 = .ok (.iload_n 2, 1) := by decide +kernel
theorem dX7_takeWord_10 : decode cX7_takeWord 10 = .ok (.aload_n 0, 1) := by decide +kernel
theorem dX7_takeWord_11 : decode cX7_takeWord 11 = .ok (.getfield 15, 3) := by decide +kernel
theorem dX7_takeWord_14 : decode cX7_takeWord 14 = .ok (.if_icmp .ge 40, 3) := by decide +kernel
theorem dX7_takeWord_17 : decode cX7_takeWord 17 = .ok (.iload_n 2, 1) := by decide +kernel
theorem dX7_takeWord_18 : decode cX7_takeWord 18 = .ok (.aload_n 0, 1) := by decide +kernel
theorem dX7_takeWord_19 : decode cX7_takeWord 19 = .ok (.getfield 9, 3) := by decide +kernel
theorem dX7_takeWord_22 : decode cX7_takeWord 22 = .ok (.arraylength, 1) := by decide +kernel
theorem dX7_takeWord_23 : decode cX7_takeWord 23 = .ok (.if_icmp .ge 31, 3) := by decide +kernel
theorem dX7_takeWord_26 : decode cX7_takeWord 26 = .ok (.aload_n 0, 1) := by decide +kernel
theorem dX7_takeWord_27 : decode cX7_takeWord 27 = .ok (.getfield 9, 3) := by decide +kernel
theorem dX7_takeWord_30 : decode cX7_takeWord 30 = .ok (.iload_n 2, 1) := by decide +kernel
theorem dX7_takeWord_31 : decode cX7_takeWord 31 = .ok (.baload, 1) := by decide +kernel
theorem dX7_takeWord_32 : decode cX7_takeWord 32 = .ok (.bipush 97, 2) := by decide +kernel
theorem dX7_takeWord_34 : decode cX7_takeWord 34 = .ok (.if_icmp .lt 20, 3) := by decide +kernel
theorem dX7_takeWord_37 : decode cX7_takeWord 37 = .ok (.aload_n 0, 1) := by decide +kernel
theorem dX7_takeWord_38 : decode cX7_takeWord 38 = .ok (.getfield 9, 3) := by decide +kernel
theorem dX7_takeWord_41 : decode cX7_takeWord 41 = .ok (.iload_n 2, 1) := by decide +kernel
theorem dX7_takeWord_42 : decode cX7_takeWord 42 = .ok (.baload, 1) := by decide +kernel
theorem dX7_takeWord_43 : decode cX7_takeWord 43 = .ok (.bipush 122, 2) := by decide +kernel
theorem dX7_takeWord_45 : decode cX7_takeWord 45 = .ok (.if_icmp .gt 9, 3) := by decide +kernel
theorem dX7_takeWord_48 : decode cX7_takeWord 48 = .ok (.iinc 2 1, 3) := by decide +kernel
theorem dX7_takeWord_51 : decode cX7_takeWord 51 = .ok (.goto (-42), 3) := by decide +kernel
theorem dX7_takeWord_54 : decode cX7_takeWord 54 = .ok (.iconst 0, 1) := by decide +kernel
theorem dX7_takeWord_55 : decode cX7_takeWord 55 = .ok (.istore_n 3, 1) := by decide +kernel
theorem dX7_takeWord_56 : decode cX7_takeWord 56 = .ok (.iconst 0, 1) := by decide +kernel
theorem dX7_takeWord_57 : decode cX7_takeWord 57 = .ok (.istore 4, 2) := by decide +kernel
theorem dX7_takeWord_59 : decode cX7_takeWord 59 = .ok (.iconst 0, 1) := by decide +kernel
theorem dX7_takeWord_60 : decode cX7_takeWord 60 = .ok (.istore 5, 2) := by decide +kernel
theorem dX7_takeWord_62 : decode cX7_takeWord 62 = .ok (.iload 5, 2) := by decide +kernel
theorem dX7_takeWord_64 : decode cX7_takeWord 64 = .ok (.aload_n 1, 1) := by decide +kernel
theorem dX7_takeWord_65 : decode cX7_takeWord 65 = .ok (.invokevirtual 31, 3) := by decide +kernel
theorem dX7_takeWord_68 : decode cX7_takeWord 68 = .ok (.if_icmp .gt 145, 3) := by decide +kernel
theorem dX7_takeWord_71 : decode cX7_takeWord 71 = .ok (.iload 5, 2) := by decide +kernel
theorem dX7_takeWord_73 : decode cX7_takeWord 73 = .ok (.aload_n 1, 1) := by decide +kernel
theorem dX7_takeWord_74 : decode cX7_takeWord 74 = .ok (.invokevirtual 31, 3) := by decide +kernel
theorem dX7_takeWord_77 : decode cX7_takeWord 77 = .ok (.if_icmp .eq 14, 3) := by decide +kernel
theorem dX7_takeWord_80 : decode cX7_takeWord 80 = .ok (.aload_n 1, 1) := by decide +kernel
theorem dX7_takeWord_81 : decode cX7_takeWord 81 = .ok (.iload 5, 2) := by decide +kernel
theorem dX7_takeWord_83 : decode cX7_takeWord 83 = .ok (.invokevirtual 36, 3) := by decide +kernel
theorem dX7_takeWord_86 : decode cX7_takeWord 86 = .ok (.bipush 32, 2) := by decide +kernel
theorem dX7_takeWord_88 : decode cX7_takeWord 88 = .ok (.if_icmp .ne 7, 3) := by decide +kernel
theorem dX7_takeWord_91 : decode cX7_takeWord 91 = .ok (.iconst 1, 1) := by decide +kernel
theorem dX7_takeWord_92 : decode cX7_takeWord 92 = .ok (.goto 4, 3) := by decide +kernel
theorem dX7_takeWord_95 : decode cX7_takeWord 95 = .ok (.iconst 0, 1) := by decide +kernel
theorem dX7_takeWord_96 : decode cX7_takeWord 96 = .ok (.istore 6, 2) := by decide +kernel
theorem dX7_takeWord_98 : decode cX7_takeWord 98 = .ok (.iload 6, 2) := by decide +kernel
theorem dX7_takeWord_100 : decode cX7_takeWord 100 = .ok (.ifCond .eq 34, 3) := by decide +kernel
theorem dX7_takeWord_103 : decode cX7_takeWord 103 = .ok (.iload 4, 2) := by decide +kernel
theorem dX7_takeWord_105 : decode cX7_takeWord 105 = .ok (.ifCond .le 29, 3) := by decide +kernel
theorem dX7_takeWord_108 : decode cX7_takeWord 108 = .ok (.aload_n 0, 1) := by decide +kernel
theorem dX7_takeWord_109 : decode cX7_takeWord 109 = .ok (.getfield 19, 3) := by decide +kernel
theorem dX7_takeWord_112 : decode cX7_takeWord 112 = .ok (.iload 4, 2) := by decide +kernel
theorem dX7_takeWord_114 : decode cX7_takeWord 114 = .ok (.iadd, 1) := by decide +kernel
theorem dX7_takeWord_115 : decode cX7_takeWord 115 = .ok (.iload_n 2, 1) := by decide +kernel
theorem dX7_takeWord_116 : decode cX7_takeWord 116 = .ok (.if_icmp .ne 18, 3) := by decide +kernel
theorem dX7_takeWord_119 : decode cX7_takeWord 119 = .ok (.aload_n 0, 1) := by decide +kernel
theorem dX7_takeWord_120 : decode cX7_takeWord 120 = .ok (.aload_n 0, 1) := by decide +kernel
theorem dX7_takeWord_121 : decode cX7_takeWord 121 = .ok (.getfield 19, 3) := by decide +kernel
theorem dX7_takeWord_124 : decode cX7_takeWord 124 = .ok (.putfield 25, 3) := by decide +kernel
theorem dX7_takeWord_127 : decode cX7_takeWord 127 = .ok (.aload_n 0, 1) := by decide +kernel
theorem dX7_takeWord_128 : decode cX7_takeWord 128 = .ok (.iload_n 2, 1) := by decide +kernel
theorem dX7_takeWord_129 : decode cX7_takeWord 129 = .ok (.putfield 19, 3) := by decide +kernel
theorem dX7_takeWord_132 : decode cX7_takeWord 132 = .ok (.iload_n 3, 1) := by decide +kernel
theorem dX7_takeWord_133 : decode cX7_takeWord 133 = .ok (.ireturn, 1) := by decide +kernel
theorem dX7_takeWord_134 : decode cX7_takeWord 134 = .ok (.iload 6, 2) := by decide +kernel
theorem dX7_takeWord_136 : decode cX7_takeWord 136 = .ok (.ifCond .eq 12, 3) := by decide +kernel
theorem dX7_takeWord_139 : decode cX7_takeWord 139 = .ok (.iinc 3 1, 3) := by decide +kernel
theorem dX7_takeWord_142 : decode cX7_takeWord 142 = .ok (.iconst 0, 1) := by decide +kernel
theorem dX7_takeWord_143 : decode cX7_takeWord 143 = .ok (.istore 4, 2) := by decide +kernel
theorem dX7_takeWord_145 : decode cX7_takeWord 145 = .ok (.goto 62, 3) := by decide +kernel
theorem dX7_takeWord_148 : decode cX7_takeWord 148 = .ok (.iload 4, 2) := by decide +kernel
theorem dX7_takeWord_150 : decode cX7_takeWord 150 = .ok (.ifCond .lt 57, 3) := by decide +kernel
theorem dX7_takeWord_153 : decode cX7_takeWord 153 = .ok (.aload_n 0, 1) := by decide +kernel
theorem dX7_takeWord_154 : decode cX7_takeWord 154 = .ok (.getfield 19, 3) := by decide +kernel
theorem dX7_takeWord_157 : decode cX7_takeWord 157 = .ok (.iload 4, 2) := by decide +kernel
theorem dX7_takeWord_159 : decode cX7_takeWord 159 = .ok (.iadd, 1) := by decide +kernel
theorem dX7_takeWord_160 : decode cX7_takeWord 160 = .ok (.iload_n 2, 1) := by decide +kernel
theorem dX7_takeWord_161 : decode cX7_takeWord 161 = .ok (.if_icmp .ge 28, 3) := by decide +kernel
theorem dX7_takeWord_164 : decode cX7_takeWord 164 = .ok (.aload_n 0, 1) := by decide +kernel
theorem dX7_takeWord_165 : decode cX7_takeWord 165 = .ok (.getfield 9, 3) := by decide +kernel
theorem dX7_takeWord_168 : decode cX7_takeWord 168 = .ok (.aload_n 0, 1) := by decide +kernel
theorem dX7_takeWord_169 : decode cX7_takeWord 169 = .ok (.getfield 19, 3) := by decide +kernel
theorem dX7_takeWord_172 : decode cX7_takeWord 172 = .ok (.iload 4, 2) := by decide +kernel
theorem dX7_takeWord_174 : decode cX7_takeWord 174 = .ok (.iadd, 1) := by decide +kernel
theorem dX7_takeWord_175 : decode cX7_takeWord 175 = .ok (.baload, 1) := by decide +kernel
theorem dX7_takeWord_176 : decode cX7_takeWord 176 = .ok (.aload_n 1, 1) := by decide +kernel
theorem dX7_takeWord_177 : decode cX7_takeWord 177 = .ok (.iload 5, 2) := by decide +kernel
theorem dX7_takeWord_179 : decode cX7_takeWord 179 = .ok (.invokevirtual 36, 3) := by decide +kernel
theorem dX7_takeWord_182 : decode cX7_takeWord 182 = .ok (.if_icmp .ne 7, 3) := by decide +kernel
theorem dX7_takeWord_185 : decode cX7_takeWord 185 = .ok (.iconst 1, 1) := by decide +kernel
theorem dX7_takeWord_186 : decode cX7_takeWord 186 = .ok (.goto 4, 3) := by decide +kernel
theorem dX7_takeWord_189 : decode cX7_takeWord 189 = .ok (.iconst 0, 1) := by decide +kernel
theorem dX7_takeWord_190 : decode cX7_takeWord 190 = .ok (.istore 7, 2) := by decide +kernel
theorem dX7_takeWord_192 : decode cX7_takeWord 192 = .ok (.iload 7, 2) := by decide +kernel
theorem dX7_takeWord_194 : decode cX7_takeWord 194 = .ok (.ifCond .eq 10, 3) := by decide +kernel
theorem dX7_takeWord_197 : decode cX7_takeWord 197 = .ok (.iload 4, 2) := by decide +kernel
theorem dX7_takeWord_199 : decode cX7_takeWord 199 = .ok (.iconst 1, 1) := by decide +kernel
theorem dX7_takeWord_200 : decode cX7_takeWord 200 = .ok (.iadd, 1) := by decide +kernel
theorem dX7_takeWord_201 : decode cX7_takeWord 201 = .ok (.goto 4, 3) := by decide +kernel
theorem dX7_takeWord_204 : decode cX7_takeWord 204 = .ok (.iconst (-1), 1) := by decide +kernel
theorem dX7_takeWord_205 : decode cX7_takeWord 205 = .ok (.istore 4, 2) := by decide +kernel
theorem dX7_takeWord_207 : decode cX7_takeWord 207 = .ok (.iinc 5 1, 3) := by decide +kernel
theorem dX7_takeWord_210 : decode cX7_takeWord 210 = .ok (.goto (-148), 3) := by decide +kernel
theorem dX7_takeWord_213 : decode cX7_takeWord 213 = .ok (.iconst (-1), 1) := by decide +kernel
theorem dX7_takeWord_214 : decode cX7_takeWord 214 = .ok (.ireturn, 1) := by decide +kernel
set_option maxRecDepth 20000 in
theorem ggX7_takeNumber_X7_skipBlanks : GoodIn wsX7_takeNumber wsX7_skipBlanks := goodIn_r _ [8, 1, 3, 9, 23, 24, 25, 26, 27] (by decide +kernel) (by decide +kernel)
set_option maxRecDepth 20000 in
theorem gX7_takeNumber_X7_skipBlanks : GoodIn wsX7_takeNumber (wsV RX7 28 RX7 yX7_skipBlanks wsX7_skipBlanks) := goodIn_app (goodIn_of _ (by decide +kernel)) ggX7_takeNumber_X7_skipBlanks
set_option maxRecDepth 20000 in
theorem ggX7_takeNumber_X7_isDigitAt : GoodIn wsX7_takeNumber wsX7_isDigitAt := goodIn_r _ [13, 3, 9, 23, 24, 25, 26, 27] (by decide +kernel) (by decide +kernel)
set_option maxRecDepth 20000 in
theorem gX7_takeNumber_X7_isDigitAt : GoodIn wsX7_takeNumber (wsV RX7 40 RX7 yX7_isDigitAt wsX7_isDigitAt) := goodIn_app (goodIn_of _ (by decide +kernel)) ggX7_takeNumber_X7_isDigitAt
set_option maxRecDepth 20000 in
theorem ggX7_takeNumber_X7_byteAt : GoodIn wsX7_takeNumber wsX7_byteAt := goodIn_r _ [17, 3, 9, 23, 24, 25, 26, 27] (by decide +kernel) (by decide +kernel)
set_option maxRecDepth 20000 in
theorem gX7_takeNumber_X7_byteAt : GoodIn wsX7_takeNumber (wsV RX7 44 RX7 yX7_byteAt wsX7_byteAt) := goodIn_app (goodIn_of _ (by decide +kernel)) ggX7_takeNumber_X7_byteAt
set_option maxRecDepth 20000 in
theorem ggX7_takeNumber_X7_blame : GoodIn wsX7_takeNumber wsX7_blame := goodIn_r _ [21, 22, 23, 24, 25, 26, 27] (by decide +kernel) (by decide +kernel)
set_option maxRecDepth 20000 in
theorem gX7_takeNumber_X7_blame : GoodIn wsX7_takeNumber (wsV RX7 48 RX7 yX7_blame wsX7_blame) := goodIn_app (goodIn_of _ (by decide +kernel)) ggX7_takeNumber_X7_blame
theorem dX7_takeNumber_0 : decode cX7_takeNumber 0 = .ok (.aload_n 0, 1) := by decide +kernel
theorem dX7_takeNumber_1 : decode cX7_takeNumber 1 = .ok (.invokevirtual 28, 3) := by decide +kernel
theorem dX7_takeNumber_4 : decode cX7_takeNumber 4 = .ok (.aload_n 0, 1) := by decide +kernel
theorem dX7_takeNumber_5 : decode cX7_takeNumber 5 = .ok (.aload_n 0, 1) := by decide +kernel
theorem dX7_takeNumber_6 : decode cX7_takeNumber 6 = .ok (.getfield 19, 3) := by decide +kernel
theorem dX7_takeNumber_9 : decode cX7_takeNumber 9 = .ok (.putfield 25, 3) := by decide +kernel
theorem dX7_takeNumber_12 : decode cX7_takeNumber 12 = .ok (.iconst 0, 1) := by decide +kernel
theorem dX7_takeNumber_13 : decode cX7_takeNumber 13 = .ok (.istore_n 3, 1) := by decide +kernel
theorem dX7_takeNumber_14 : decode cX7_takeNumber 14 = .ok (.aload_n 0, 1) := by decide +kernel
theorem dX7_takeNumber_15 : decode cX7_takeNumber 15 = .ok (.getfield 19, 3) := by decide +kernel
theorem dX7_takeNumber_18 : decode cX7_takeNumber 18 = .ok (.aload_n 0, 1) := by decide +kernel
theorem dX7_takeNumber_19 : decode cX7_takeNumber 19 = .ok (.getfield 15, 3) := by decide +kernel
theorem dX7_takeNumber_22 : decode cX7_takeNumber 22 = .ok (.if_icmp .ge 57, 3) := by decide +kernel
theorem dX7_takeNumber_25 : decode cX7_takeNumber 25 = .ok (.aload_n 0, 1) := by decide +kernel
theorem dX7_takeNumber_26 : decode cX7_takeNumber 26 = .ok (.aload_n 0, 1) := by decide +kernel
theorem dX7_takeNumber_27 : decode cX7_takeNumber 27 = .ok (.getfield 19, 3) := by decide +kernel
theorem dX7_takeNumber_30 : decode cX7_takeNumber 30 = .ok (.invokevirtual 40, 3) := by decide +kernel
theorem dX7_takeNumber_33 : decode cX7_takeNumber 33 = .ok (.ifCond .eq 46, 3) := by decide +kernel
theorem dX7_takeNumber_36 : decode cX7_takeNumber 36 = .ok (.aload_n 0, 1) := by decide +kernel
theorem dX7_takeNumber_37 : decode cX7_takeNumber 37 = .ok (.getfield 19, 3) := by decide +kernel
theorem dX7_takeNumber_40 : decode cX7_takeNumber 40 = .ok (.aload_n 0, 1) := by decide +kernel
theorem dX7_takeNumber_41 : decode cX7_takeNumber 41 = .ok (.getfield 25, 3) := by decide +kernel
theorem dX7_takeNumber_44 : decode cX7_takeNumber 44 = .ok (.isub, 1) := by decide +kernel
theorem dX7_takeNumber_45 : decode cX7_takeNumber 45 = .ok (.iconst 5, 1) := by decide +kernel
theorem dX7_takeNumber_46 : decode cX7_takeNumber 46 = .ok (.if_icmp .ge 20, 3) := by decide +kernel
theorem dX7_takeNumber_49 : decode cX7_takeNumber 49 = .ok (.iload_n 3, 1) := by decide +kernel
theorem dX7_takeNumber_50 : decode cX7_takeNumber 50 = .ok (.bipush 10, 2) := by decide +kernel
theorem dX7_takeNumber_52 : decode cX7_takeNumber 52 = .ok (.imul, 1) := by decide +kernel
theorem dX7_takeNumber_53 : decode cX7_takeNumber 53 = .ok (.aload_n 0, 1) := by decide +kernel
theorem dX7_takeNumber_54 : decode cX7_takeNumber 54 = .ok (.aload_n 0, 1) := by decide +kernel
theorem dX7_takeNumber_55 : decode cX7_takeNumber 55 = .ok (.getfield 19, 3) := by decide +kernel
theorem dX7_takeNumber_58 : decode cX7_takeNumber 58 = .ok (.invokevirtual 44, 3) := by decide +kernel
theorem dX7_takeNumber_61 : decode cX7_takeNumber 61 = .ok (.iadd, 1) := by decide +kernel
theorem dX7_takeNumber_62 : decode cX7_takeNumber 62 = .ok (.bipush 48, 2) := by decide +kernel
theorem dX7_takeNumber_64 : decode cX7_takeNumber 64 = .ok (.isub, 1) := by decide +kernel
theorem dX7_takeNumber_65 : decode cX7_takeNumber 65 = .ok (.istore_n 3, 1) := by decide +kernel
theorem dX7_takeNumber_66 : decode cX7_takeNumber 66 = .ok (.aload_n 0, 1) := by decide +kernel
theorem dX7_takeNumber_67 : decode cX7_takeNumber 67 = .ok (.dup, 1) := by decide +kernel
theorem dX7_takeNumber_68 : decode cX7_takeNumber 68 = .ok (.getfield 19, 3) := by decide +kernel
theorem dX7_takeNumber_71 : decode cX7_takeNumber 71 = .ok (.iconst 1, 1) := by decide +kernel
theorem dX7_takeNumber_72 : decode cX7_takeNumber 72 = .ok (.iadd, 1) := by decide +kernel
theorem dX7_takeNumber_73 : decode cX7_takeNumber 73 = .ok (.putfield 19, 3) := by decide +kernel
theorem dX7_takeNumber_76 : decode cX7_takeNumber 76 = .ok (.goto (-62), 3) := by decide +kernel
theorem dX7_takeNumber_79 : decode cX7_takeNumber 79 = .ok (.aload_n 0, 1) := by decide +kernel
theorem dX7_takeNumber_80 : decode cX7_takeNumber 80 = .ok (.getfield 19, 3) := by decide +kernel
theorem dX7_takeNumber_83 : decode cX7_takeNumber 83 = .ok (.aload_n 0, 1) := by decide +kernel
theorem dX7_takeNumber_84 : decode cX7_takeNumber 84 = .ok (.getfield 25, 3) := by decide +kernel
theorem dX7_takeNumber_87 : decode cX7_takeNumber 87 = .ok (.if_icmp .ne 15, 3) := by decide +kernel
theorem dX7_takeNumber_90 : decode cX7_takeNumber 90 = .ok (.aload_n 0, 1) := by decide +kernel
theorem dX7_takeNumber_91 : decode cX7_takeNumber 91 = .ok (.aload_n 0, 1) := by decide +kernel
theorem dX7_takeNumber_92 : decode cX7_takeNumber 92 = .ok (.getfield 25, 3) := by decide +kernel
theorem dX7_takeNumber_95 : decode cX7_takeNumber 95 = .ok (.iconst 0, 1) := by decide +kernel
theorem dX7_takeNumber_96 : decode cX7_takeNumber 96 = .ok (.invokevirtual 48, 3) := by decide +kernel
theorem dX7_takeNumber_99 : decode cX7_takeNumber 99 = .ok (.pop, 1) := by decide +kernel
theorem dX7_takeNumber_100 : decode cX7_takeNumber 100 = .ok (.iconst (-1), 1) := by decide +kernel
theorem dX7_takeNumber_101 : decode cX7_takeNumber 101 = .ok (.ireturn, 1) := by decide +kernel
theorem dX7_takeNumber_102 : decode cX7_takeNumber 102 = .ok (.aload_n 0, 1) := by decide +kernel
theorem dX7_takeNumber_103 : decode cX7_takeNumber 103 = .ok (.getfield 19, 3) := by decide +kernel
theorem dX7_takeNumber_106 : decode cX7_takeNumber 106 = .ok (.aload_n 0, 1) := by decide +kernel
theorem dX7_takeNumber_107 : decode cX7_takeNumber 107 = .ok (.getfield 25, 3) := by decide +kernel
theorem dX7_takeNumber_110 : decode cX7_takeNumber 110 = .ok (.isub, 1) := by decide +kernel
theorem dX7_takeNumber_111 : decode cX7_takeNumber 111 = .ok (.iconst 5, 1) := by decide +kernel
theorem dX7_takeNumber_112 : decode cX7_takeNumber 112 = .ok (.if_icmp .gt 13, 3) := by decide +kernel
theorem dX7_takeNumber_115 : decode cX7_takeNumber 115 = .ok (.iload_n 3, 1) := by decide +kernel
theorem dX7_takeNumber_116 : decode cX7_takeNumber 116 = .ok (.iload_n 1, 1) := by decide +kernel
theorem dX7_takeNumber_117 : decode cX7_takeNumber 117 = .ok (.if_icmp .lt 8, 3) := by decide +kernel
theorem dX7_takeNumber_120 : decode cX7_takeNumber 120 = .ok (.iload_n 3, 1) := by decide +kernel
theorem dX7_takeNumber_121 : decode cX7_takeNumber 121 = .ok (.iload_n 2, 1) := by decide +kernel
theorem dX7_takeNumber_122 : decode cX7_takeNumber 122 = .ok (.if_icmp .le 15, 3) := by decide +kernel
theorem dX7_takeNumber_125 : decode cX7_takeNumber 125 = .ok (.aload_n 0, 1) := by decide +kernel
theorem dX7_takeNumber_126 : decode cX7_takeNumber 126 = .ok (.aload_n 0, 1) := by decide +kernel
theorem dX7_takeNumber_127 : decode cX7_takeNumber 127 = .ok (.getfield 25, 3) := by decide +kernel
theorem dX7_takeNumber_130 : decode cX7_takeNumber 130 = .ok (.iconst 1, 1) := by decide +kernel
theorem dX7_takeNumber_131 : decode cX7_takeNumber 131 = .ok (.invokevirtual 48, 3) := by decide +kernel
theorem dX7_takeNumber_134 : decode cX7_takeNumber 134 = .ok (.pop, 1) := by decide +kernel
theorem dX7_takeNumber_135 : decode cX7_takeNumber 135 = .ok (.iconst (-1), 1) := by decide +kernel
theorem dX7_takeNumber_136 : decode cX7_takeNumber 136 = .ok (.ireturn, 1) := by decide +kernel
theorem dX7_takeNumber_137 : decode cX7_takeNumber 137 = .ok (.iload_n 3, 1) := by decide +kernel
theorem dX7_takeNumber_138 : decode cX7_takeNumber 138 = .ok (.ireturn, 1) := by decide +kernel
set_option maxRecDepth 20000 in
theorem ggX7_takeSignOf_X7_skipBlanks : GoodIn wsX7_takeSignOf wsX7_skipBlanks := goodIn_r _ [7, 1, 8, 9, 63, 64, 65, 66, 67] (by decide +kernel) (by decide +kernel)
set_option maxRecDepth 20000 in
theorem gX7_takeSignOf_X7_skipBlanks : GoodIn wsX7_takeSignOf (wsV RX7 28 RX7 yX7_skipBlanks wsX7_skipBlanks) := goodIn_app (goodIn_of _ (by decide +kernel)) ggX7_takeSignOf_X7_skipBlanks
set_option maxRecDepth 20000 in
theorem ggX7_takeSignOf_J0_length_8abf5 : GoodIn wsX7_takeSignOf wsJ0_length_8abf5 := goodIn_r _ [14, 15, 16, 17, 18, 13, 19, 20, 21] (by decide +kernel) (by decide +kernel)
set_option maxRecDepth 20000 in
theorem gX7_takeSignOf_J0_length_8abf5 : GoodIn wsX7_takeSignOf (wsV RX7 31 RJ0 yJ0_length_8abf5 wsJ0_length_8abf5) := goodIn_app (goodIn_of _ (by decide +kernel)) ggX7_takeSignOf_J0_length_8abf5
set_option maxRecDepth 20000 in
theorem ggX7_takeSignOf_X7_byteAt : GoodIn wsX7_takeSignOf wsX7_byteAt := goodIn_r _ [25, 8, 9, 63, 64, 65, 66, 67] (by decide +kernel) (by decide +kernel)
set_option maxRecDepth 20000 in
theorem gX7_takeSignOf_X7_byteAt : GoodIn wsX7_takeSignOf (wsV RX7 44 RX7 yX7_byteAt wsX7_byteAt) := goodIn_app (goodIn_of _ (by decide +kernel)) ggX7_takeSignOf_X7_byteAt
set_option maxRecDepth 20000 in
theorem ggX7_takeSignOf_J0_charAt_5068e : GoodIn wsX7_takeSignOf wsJ0_charAt_5068e := goodIn_r _ [29, 15, 30, 31, 32, 13, 33, 20, 21, 34, 35, 36, 37, 38, 39, 40, 41, 42, 43, 44, 45, 46, 47, 48, 49, 50, 51, 52, 53, 54, 55, 56, 57, 58, 59, 60, 61, 62] (by decide +kernel) (by decide +kernel)
set_option maxRecDepth 20000 in
theorem gX7_takeSignOf_J0_charAt_5068e : GoodIn wsX7_takeSignOf (wsV RX7 36 RJ0 yJ0_charAt_5068e wsJ0_charAt_5068e) := goodIn_app (goodIn_of _ (by decide +kernel)) ggX7_takeSignOf_J0_charAt_5068e
theorem dX7_takeSignOf_0 : decode cX7_takeSignOf 0 = .ok (.aload_n 0, 1) := by decide +kernel
theorem dX7_takeSignOf_1 : decode cX7_takeSignOf 1 = .ok (.invokevirtual 28, 3) := by decide +kernel
theorem dX7_takeSignOf_4 : decode cX7_takeSignOf 4 = .ok (.iconst 0, 1) := by decide +kernel
theorem dX7_takeSignOf_5 : decode cX7_takeSignOf 5 = .ok (.istore_n 2, 1) := by decide +kernel
theorem dX7_takeSignOf_6 : decode cX7_takeSignOf 6 = .ok (.iload_n 2, 1) := by decide +kernel
theorem dX7_takeSignOf_7 : decode cX7_takeSignOf 7 = .ok (.aload_n 1, 1) := by decide +kernel
theorem dX7_takeSignOf_8 : decode cX7_takeSignOf 8 = .ok (.invokevirtual 31, 3) := by decide +kernel
theorem dX7_takeSignOf_11 : decode cX7_takeSignOf 11 = .ok (.if_icmp .ge 45, 3) := by decide +kernel
theorem dX7_takeSignOf_14 : decode cX7_takeSignOf 14 = .ok (.aload_n 0, 1) := by decide +kernel
theorem dX7_takeSignOf_15 : decode cX7_takeSignOf 15 = .ok (.aload_n 0, 1) := by decide +kernel
theorem dX7_takeSignOf_16 : decode cX7_takeSignOf 16 = .ok (.getfield 19, 3) := by decide +kernel
theorem dX7_takeSignOf_19 : decode cX7_takeSignOf 19 = .ok (.invokevirtual 44, 3) := by decide +kernel
theorem dX7_takeSignOf_22 : decode cX7_takeSignOf 22 = .ok (.aload_n 1, 1) := by decide +kernel
theorem dX7_takeSignOf_23 : decode cX7_takeSignOf 23 = .ok (.iload_n 2, 1) := by decide +kernel
theorem dX7_takeSignOf_24 : decode cX7_takeSignOf 24 = .ok (.invokevirtual 36, 3) := by decide +kernel
theorem dX7_takeSignOf_27 : decode cX7_takeSignOf 27 = .ok (.if_icmp .ne 23, 3) := by decide +kernel
theorem dX7_takeSignOf_30 : decode cX7_takeSignOf 30 = .ok (.aload_n 0, 1) := by decide +kernel
theorem dX7_takeSignOf_31 : decode cX7_takeSignOf 31 = .ok (.aload_n 0, 1) := by decide +kernel
theorem dX7_takeSignOf_32 : decode cX7_takeSignOf 32 = .ok (.getfield 19, 3) := by decide +kernel
theorem dX7_takeSignOf_35 : decode cX7_takeSignOf 35 = .ok (.putfield 25, 3) := by decide +kernel
theorem dX7_takeSignOf_38 : decode cX7_takeSignOf 38 = .ok (.aload_n 0, 1) := by decide +kernel
theorem dX7_takeSignOf_39 : decode cX7_takeSignOf 39 = .ok (.dup, 1) := by decide +kernel
theorem dX7_takeSignOf_40 : decode cX7_takeSignOf 40 = .ok (.getfield 19, 3) := by decide +kernel
theorem dX7_takeSignOf_43 : decode cX7_takeSignOf 43 = .ok (.iconst 1, 1) := by decide +kernel
theorem dX7_takeSignOf_44 : decode cX7_takeSignOf 44 = .ok (.iadd, 1) := by decide +kernel
theorem dX7_takeSignOf_45 : decode cX7_takeSignOf 45 = .ok (.putfield 19, 3) := by decide +kernel
theorem dX7_takeSignOf_48 : decode cX7_takeSignOf 48 = .ok (.iload_n 2, 1) := by decide +kernel
theorem dX7_takeSignOf_49 : decode cX7_takeSignOf 49 = .ok (.ireturn, 1) := by decide +kernel
theorem dX7_takeSignOf_50 : decode cX7_takeSignOf 50 = .ok (.iinc 2 1, 3) := by decide +kernel
theorem dX7_takeSignOf_53 : decode cX7_takeSignOf 53 = .ok (.goto (-47), 3) := by decide +kernel
theorem dX7_takeSignOf_56 : decode cX7_takeSignOf 56 = .ok (.iconst (-1), 1) := by decide +kernel
theorem dX7_takeSignOf_57 : decode cX7_takeSignOf 57 = .ok (.ireturn, 1) := by decide +kernel
set_option maxRecDepth 20000 in
theorem ggX7_needSign_X7_takeSignOf : GoodIn wsX7_needSign wsX7_takeSignOf := goodIn_r _ [6, 1, 7, 8, 9, 10, 5, 11, 12, 13, 14, 15, 16, 17, 18, 19, 20, 21, 22, 23, 24, 25, 26, 27, 28, 29, 30, 31, 32, 33, 34, 35, 36, 37, 38, 39, 40, 41, 42, 43, 44, 45, 46, 47, 48, 49, 50, 51, 52, 53, 54, 55, 56, 57, 58, 59, 60, 61, 62, 63, 64, 65, 66, 72, 73, 74, 75, 76] (by decide +kernel) (by decide +kernel)
set_option maxRecDepth 20000 in
theorem gX7_needSign_X7_takeSignOf : GoodIn wsX7_needSign (wsV RX7 52 RX7 yX7_takeSignOf wsX7_takeSignOf) := goodIn_app (goodIn_of _ (by decide +kernel)) ggX7_needSign_X7_takeSignOf
set_option maxRecDepth 20000 in
theorem ggX7_needSign_X7_blame : GoodIn wsX7_needSign wsX7_blame := goodIn_r _ [70, 71, 72, 73, 74, 75, 76] (by decide +kernel) (by decide +kernel)
set_option maxRecDepth 20000 in
theorem gX7_needSign_X7_blame : GoodIn wsX7_needSign (wsV RX7 48 RX7 yX7_blame wsX7_blame) := goodIn_app (goodIn_of _ (by decide +kernel)) ggX7_needSign_X7_blame
theorem dX7_needSign_0 : decode cX7_needSign 0 = .ok (.aload_n 0, 1) := by decide +kernel
theorem dX7_needSign_1 : decode cX7_needSign 1 = .ok (.aload_n 1, 1) := by decide +kernel
theorem dX7_needSign_2 : decode cX7_needSign 2 = .ok (.invokevirtual 52, 3) := by decide +kernel
theorem dX7_needSign_5 : decode cX7_needSign 5 = .ok (.iconst (-1), 1) := by decide +kernel
theorem dX7_needSign_6 : decode cX7_needSign 6 = .ok (.if_icmp .ne 15, 3) := by decide +kernel
theorem dX7_needSign_9 : decode cX7_needSign 9 = .ok (.aload_n 0, 1) := by decide +kernel
theorem dX7_needSign_10 : decode cX7_needSign 10 = .ok (.aload_n 0, 1) := by decide +kernel
theorem dX7_needSign_11 : decode cX7_needSign 11 = .ok (.getfield 19, 3) := by decide +kernel
theorem dX7_needSign_14 : decode cX7_needSign 14 = .ok (.iconst 0, 1) := by decide +kernel
theorem dX7_needSign_15 : decode cX7_needSign 15 = .ok (.invokevirtual 48, 3) := by decide +kernel
theorem dX7_needSign_18 : decode cX7_needSign 18 = .ok (.ifCond .eq 7, 3) := by decide +kernel
theorem dX7_needSign_21 : decode cX7_needSign 21 = .ok (.iconst 1, 1) := by decide +kernel
theorem dX7_needSign_22 : decode cX7_needSign 22 = .ok (.goto 4, 3) := by decide +kernel
theorem dX7_needSign_25 : decode cX7_needSign 25 = .ok (.iconst 0, 1) := by decide +kernel
theorem dX7_needSign_26 : decode cX7_needSign 26 = .ok (.ireturn, 1) := by decide +kernel
set_option maxRecDepth 20000 in
theorem ggX8_init_J7_fill_53178 : GoodIn wsX8_init wsJ7_fill_53178 := goodIn_r _ [19] (by decide +kernel) (by decide +kernel)
set_option maxRecDepth 20000 in
theorem gX8_init_J7_fill_53178 : GoodIn wsX8_init (va_wsS RX8 46 yJ7_fill_53178 wsJ7_fill_53178) := goodIn_app (goodIn_of _ (by decide +kernel)) ggX8_init_J7_fill_53178
theorem dX8_init_0 : decode cX8_init 0 = .ok (.aload_n 0, 1) := by decide +kernel
theorem dX8_init_1 : decode cX8_init 1 = .ok (.invokespecial 3, 3) := by decide +kernel
theorem dX8_init_4 : decode cX8_init 4 = .ok (.aload_n 0, 1) := by decide +kernel
theorem dX8_init_5 : decode cX8_init 5 = .ok (.iconst 0, 1) := by decide +kernel
theorem dX8_init_6 : decode cX8_init 6 = .ok (.putfield 9, 3) := by decide +kernel
theorem dX8_init_9 : decode cX8_init 9 = .ok (.aload_n 0, 1) := by decide +kernel
theorem dX8_init_10 : decode cX8_init 10 = .ok (.iconst 0, 1) := by decide +kernel
theorem dX8_init_11 : decode cX8_init 11 = .ok (.putfield 15, 3) := by decide +kernel
theorem dX8_init_14 : decode cX8_init 14 = .ok (.aload_n 0, 1) := by decide +kernel
theorem dX8_init_15 : decode cX8_init 15 = .ok (.iconst 0, 1) := by decide +kernel
theorem dX8_init_16 : decode cX8_init 16 = .ok (.putfield 18, 3) := by decide +kernel
theorem dX8_init_19 : decode cX8_init 19 = .ok (.aload_n 0, 1) := by decide +kernel
theorem dX8_init_20 : decode cX8_init 20 = .ok (.iconst 0, 1) := by decide +kernel
theorem dX8_init_21 : decode cX8_init 21 = .ok (.putfield 21, 3) := by decide +kernel
theorem dX8_init_24 : decode cX8_init 24 = .ok (.aload_n 0, 1) := by decide +kernel
theorem dX8_init_25 : decode cX8_init 25 = .ok (.iconst 0, 1) := by decide +kernel
theorem dX8_init_26 : decode cX8_init 26 = .ok (.putfield 24, 3) := by decide +kernel
theorem dX8_init_29 : decode cX8_init 29 = .ok (.aload_n 0, 1) := by decide +kernel
theorem dX8_init_30 : decode cX8_init 30 = .ok (.iconst 0, 1) := by decide +kernel
theorem dX8_init_31 : decode cX8_init 31 = .ok (.putfield 27, 3) := by decide +kernel
theorem dX8_init_34 : decode cX8_init 34 = .ok (.aload_n 0, 1) := by decide +kernel
theorem dX8_init_35 : decode cX8_init 35 = .ok (.iconst 0, 1) := by decide +kernel
theorem dX8_init_36 : decode cX8_init 36 = .ok (.putfield 30, 3) := by decide +kernel
theorem dX8_init_39 : decode cX8_init 39 = .ok (.aload_n 0, 1) := by decide +kernel
theorem dX8_init_40 : decode cX8_init 40 = .ok (.iconst 0, 1) := by decide +kernel
theorem dX8_init_41 : decode cX8_init 41 = .ok (.putfield 33, 3) := by decide +kernel
theorem dX8_init_44 : decode cX8_init 44 = .ok (.aload_n 0, 1) := by decide +kernel
theorem dX8_init_45 : decode cX8_init 45 = .ok (.bipush 10, 2) := by decide +kernel
theorem dX8_init_47 : decode cX8_init 47 = .ok (.newarray .int, 2) := by decide +kernel
theorem dX8_init_49 : decode cX8_init 49 = .ok (.putfield 36, 3) := by decide +kernel
theorem dX8_init_52 : decode cX8_init 52 = .ok (.aload_n 0, 1) := by decide +kernel
theorem dX8_init_53 : decode cX8_init 53 = .ok (.bipush 120, 2) := by decide +kernel
theorem dX8_init_55 : decode cX8_init 55 = .ok (.newarray .int, 2) := by decide +kernel
theorem dX8_init_57 : decode cX8_init 57 = .ok (.putfield 40, 3) := by decide +kernel
theorem dX8_init_60 : decode cX8_init 60 = .ok (.aload_n 0, 1) := by decide +kernel
theorem dX8_init_61 : decode cX8_init 61 = .ok (.bipush 72, 2) := by decide +kernel
theorem dX8_init_63 : decode cX8_init 63 = .ok (.newarray .int, 2) := by decide +kernel
theorem dX8_init_65 : decode cX8_init 65 = .ok (.putfield 43, 3) := by decide +kernel
theorem dX8_init_68 : decode cX8_init 68 = .ok (.aload_n 0, 1) := by decide +kernel
theorem dX8_init_69 : decode cX8_init 69 = .ok (.getfield 40, 3) := by decide +kernel
theorem dX8_init_72 : decode cX8_init 72 = .ok (.bipush 99, 2) := by decide +kernel
theorem dX8_init_74 : decode cX8_init 74 = .ok (.invokestatic 46, 3) := by decide +kernel
theorem dX8_init_77 : decode cX8_init 77 = .ok (.return_, 1) := by decide +kernel
set_option maxRecDepth 20000 in
theorem ggX8_clear_J7_fill_53178 : GoodIn wsX8_clear wsJ7_fill_53178 := goodIn_r _ [15] (by decide +kernel) (by decide +kernel)
set_option maxRecDepth 20000 in
theorem gX8_clear_J7_fill_53178 : GoodIn wsX8_clear (va_wsS RX8 46 yJ7_fill_53178 wsJ7_fill_53178) := goodIn_app (goodIn_of _ (by decide +kernel)) ggX8_clear_J7_fill_53178
theorem dX8_clear_0 : decode cX8_clear 0 = .ok (.aload_n 0, 1) := by decide +kernel
theorem dX8_clear_1 : decode cX8_clear 1 = .ok (.iconst 0, 1) := by decide +kernel
theorem dX8_clear_2 : decode cX8_clear 2 = .ok (.putfield 9, 3) := by decide +kernel
theorem dX8_clear_5 : decode cX8_clear 5 = .ok (.aload_n 0, 1) := by decide +kernel
theorem dX8_clear_6 : decode cX8_clear 6 = .ok (.iconst 0, 1) := by decide +kernel
theorem dX8_clear_7 : decode cX8_clear 7 = .ok (.putfield 15, 3) := by decide +kernel
theorem dX8_clear_10 : decode cX8_clear 10 = .ok (.aload_n 0, 1) := by decide +kernel
theorem dX8_clear_11 : decode cX8_clear 11 = .ok (.iconst 0, 1) := by decide +kernel
theorem dX8_clear_12 : decode cX8_clear 12 = .ok (.putfield 18, 3) := by decide +kernel
theorem dX8_clear_15 : decode cX8_clear 15 = .ok (.aload_n 0, 1) := by decide +kernel
theorem dX8_clear_16 : decode cX8_clear 16 = .ok (.iconst 0, 1) := by decide +kernel
theorem dX8_clear_17 : decode cX8_clear 17 = .ok (.putfield 21, 3) := by decide +kernel
theorem dX8_clear_20 : decode cX8_clear 20 = .ok (.aload_n 0, 1) := by decide +kernel
theorem dX8_clear_21 : decode cX8_clear 21 = .ok (.iconst 0, 1) := by decide +kernel
theorem dX8_clear_22 : decode cX8_clear 22 = .ok (.putfield 24, 3) := by decide +kernel
theorem dX8_clear_25 : decode cX8_clear 25 = .ok (.aload_n 0, 1) := by decide +kernel
theorem dX8_clear_26 : decode cX8_clear 26 = .ok (.iconst 0, 1) := by decide +kernel
theorem dX8_clear_27 : decode cX8_clear 27 = .ok (.putfield 27, 3) := by decide +kernel
theorem dX8_clear_30 : decode cX8_clear 30 = .ok (.aload_n 0, 1) := by decide +kernel
theorem dX8_clear_31 : decode cX8_clear 31 = .ok (.iconst 0, 1) := by decide +kernel
theorem dX8_clear_32 : decode cX8_clear 32 = .ok (.putfield 30, 3) := by decide +kernel
theorem dX8_clear_35 : decode cX8_clear 35 = .ok (.aload_n 0, 1) := by decide +kernel
theorem dX8_clear_36 : decode cX8_clear 36 = .ok (.iconst 0, 1) := by decide +kernel
theorem dX8_clear_37 : decode cX8_clear 37 = .ok (.putfield 33, 3) := by decide +kernel
theorem dX8_clear_40 : decode cX8_clear 40 = .ok (.aload_n 0, 1) := by decide +kernel
theorem dX8_clear_41 : decode cX8_clear 41 = .ok (.getfield 36, 3) := by decide +kernel
theorem dX8_clear_44 : decode cX8_clear 44 = .ok (.iconst 0, 1) := by decide +kernel
theorem dX8_clear_45 : decode cX8_clear 45 = .ok (.invokestatic 46, 3) := by decide +kernel
theorem dX8_clear_48 : decode cX8_clear 48 = .ok (.aload_n 0, 1) := by decide +kernel
theorem dX8_clear_49 : decode cX8_clear 49 = .ok (.getfield 40, 3) := by decide +kernel
theorem dX8_clear_52 : decode cX8_clear 52 = .ok (.bipush 99, 2) := by decide +kernel
theorem dX8_clear_54 : decode cX8_clear 54 = .ok (.invokestatic 46, 3) := by decide +kernel
theorem dX8_clear_57 : decode cX8_clear 57 = .ok (.aload_n 0, 1) := by decide +kernel
theorem dX8_clear_58 : decode cX8_clear 58 = .ok (.getfield 43, 3) := by decide +kernel
theorem dX8_clear_61 : decode cX8_clear 61 = .ok (.iconst 0, 1) := by decide +kernel
theorem dX8_clear_62 : decode cX8_clear 62 = .ok (.invokestatic 46, 3) := by decide +kernel
theorem dX8_clear_65 : decode cX8_clear 65 = .ok (.return_, 1) := by decide +kernel
theorem dX8_copyFrom_0 : decode cX8_copyFrom 0 = .ok (.aload_n 0, 1) := by decide +kernel
theorem dX8_copyFrom_1 : decode cX8_copyFrom 1 = .ok (.aload_n 1, 1) := by decide +kernel
theorem dX8_copyFrom_2 : decode cX8_copyFrom 2 = .ok (.getfield 9, 3) := by decide +kernel
theorem dX8_copyFrom_5 : decode cX8_copyFrom 5 = .ok (.putfield 9, 3) := by decide +kernel
theorem dX8_copyFrom_8 : decode cX8_copyFrom 8 = .ok (.aload_n 0, 1) := by decide +kernel
theorem dX8_copyFrom_9 : decode cX8_copyFrom 9 = .ok (.aload_n 1, 1) := by decide +kernel
theorem dX8_copyFrom_10 : decode cX8_copyFrom 10 = .ok (.getfield 15, 3) := by decide +kernel
theorem dX8_copyFrom_13 : decode cX8_copyFrom 13 = .ok (.putfield 15, 3) := by decide +kernel
theorem dX8_copyFrom_16 : decode cX8_copyFrom 16 = .ok (.aload_n 0, 1) := by decide +kernel
theorem dX8_copyFrom_17 : decode cX8_copyFrom 17 = .ok (.aload_n 1, 1) := by decide +kernel
theorem dX8_copyFrom_18 : decode cX8_copyFrom 18 = .ok (.getfield 18, 3) := by decide +kernel
theorem dX8_copyFrom_21 : decode cX8_copyFrom 21 = .ok (.putfield 18, 3) := by decide +kernel
theorem dX8_copyFrom_24 : decode cX8_copyFrom 24 = .ok (.aload_n 0, 1) := by decide +kernel
theorem dX8_copyFrom_25 : decode cX8_copyFrom 25 = .ok (.aload_n 1, 1) := by decide +kernel
theorem dX8_copyFrom_26 : decode cX8_copyFrom 26 = .ok (.getfield 21, 3) := by decide +kernel
theorem dX8_copyFrom_29 : decode cX8_copyFrom 29 = .ok (.putfield 21, 3) := by decide +kernel
theorem dX8_copyFrom_32 : decode cX8_copyFrom 32 = .ok (.aload_n 0, 1) := by decide +kernel
theorem dX8_copyFrom_33 : decode cX8_copyFrom 33 = .ok (.aload_n 1, 1) := by decide +kernel
theorem dX8_copyFrom_34 : decode cX8_copyFrom 34 = .ok (.getfield 24, 3) := by decide +kernel
theorem dX8_copyFrom_37 : decode cX8_copyFrom 37 = .ok (.putfield 24, 3) := by decide +kernel
theorem dX8_copyFrom_40 : decode cX8_copyFrom 40 = .ok (.aload_n 0, 1) := by decide +kernel
theorem dX8_copyFrom_41 : decode cX8_copyFrom 41 = .ok (.aload_n 1, 1) := by decide +kernel
theorem dX8_copyFrom_42 : decode cX8_copyFrom 42 = .ok (.getfield 27, 3) := by decide +kernel
theorem dX8_copyFrom_45 : decode cX8_copyFrom 45 = .ok (.putfield 27, 3) := by decide +kernel
theorem dX8_copyFrom_48 : decode cX8_copyFrom 48 = .ok (.aload_n 0, 1) := by decide +kernel
theorem dX8_copyFrom_49 : decode cX8_copyFrom 49 = .ok (.aload_n 1, 1) := by decide +kernel
theorem dX8_copyFrom_50 : decode cX8_copyFrom 50 = .ok (.getfield 30, 3) := by decide +kernel
theorem dX8_copyFrom_53 : decode cX8_copyFrom 53 = .ok (.putfield 30, 3) := by decide +kernel
theorem dX8_copyFrom_56 : decode cX8_copyFrom 56 = .ok (.aload_n 0, 1) := by decide +kernel
theorem dX8_copyFrom_57 : decode cX8_copyFrom 57 = .ok (.aload_n 1, 1) := by decide +kernel
theorem dX8_copyFrom_58 : decode cX8_copyFrom 58 = .ok (.getfield 33, 3) := by decide +kernel
theorem dX8_copyFrom_61 : decode cX8_copyFrom 61 = .ok (.putfield 33, 3) := by decide +kernel
theorem dX8_copyFrom_64 : decode cX8_copyFrom 64 = .ok (.aload_n 1, 1) := by decide +kernel
theorem dX8_copyFrom_65 : decode cX8_copyFrom 65 = .ok (.getfield 36, 3) := by decide +kernel
theorem dX8_copyFrom_68 : decode cX8_copyFrom 68 = .ok (.iconst 0, 1) := by decide +kernel
theorem dX8_copyFrom_69 : decode cX8_copyFrom 69 = .ok (.aload_n 0, 1) := by decide +kernel
theorem dX8_copyFrom_70 : decode cX8_copyFrom 70 = .ok (.getfield 36, 3) := by decide +kernel
theorem dX8_copyFrom_73 : decode cX8_copyFrom 73 = .ok (.iconst 0, 1) := by decide +kernel
theorem dX8_copyFrom_74 : decode cX8_copyFrom 74 = .ok (.aload_n 0, 1) := by decide +kernel
theorem dX8_copyFrom_75 : decode cX8_copyFrom 75 = .ok (.getfield 36, 3) := by decide +kernel
theorem dX8_copyFrom_78 : decode cX8_copyFrom 78 = .ok (.arraylength, 1) := by decide +kernel
theorem dX8_copyFrom_79 : decode cX8_copyFrom 79 = .ok (.invokestatic 52, 3) := by decide +kernel
theorem dX8_copyFrom_82 : decode cX8_copyFrom 82 = .ok (.aload_n 1, 1) := by decide +kernel
theorem dX8_copyFrom_83 : decode cX8_copyFrom 83 = .ok (.getfield 40, 3) := by decide +kernel
theorem dX8_copyFrom_86 : decode cX8_copyFrom 86 = .ok (.iconst 0, 1) := by decide +kernel
theorem dX8_copyFrom_87 : decode cX8_copyFrom 87 = .ok (.aload_n 0, 1) := by decide +kernel
theorem dX8_copyFrom_88 : decode cX8_copyFrom 88 = .ok (.getfield 40, 3) := by decide +kernel
theorem dX8_copyFrom_91 : decode cX8_copyFrom 91 = .ok (.iconst 0, 1) := by decide +kernel
theorem dX8_copyFrom_92 : decode cX8_copyFrom 92 = .ok (.aload_n 0, 1) := by decide +kernel
theorem dX8_copyFrom_93 : decode cX8_copyFrom 93 = .ok (.getfield 40, 3) := by decide +kernel
theorem dX8_copyFrom_96 : decode cX8_copyFrom 96 = .ok (.arraylength, 1) := by decide +kernel
theorem dX8_copyFrom_97 : decode cX8_copyFrom 97 = .ok (.invokestatic 52, 3) := by decide +kernel
theorem dX8_copyFrom_100 : decode cX8_copyFrom 100 = .ok (.aload_n 1, 1) := by decide +kernel
theorem dX8_copyFrom_101 : decode cX8_copyFrom 101 = .ok (.getfield 43, 3) := by decide +kernel
theorem dX8_copyFrom_104 : decode cX8_copyFrom 104 = .ok (.iconst 0, 1) := by decide +kernel
theorem dX8_copyFrom_105 : decode cX8_copyFrom 105 = .ok (.aload_n 0, 1) := by decide +kernel
theorem dX8_copyFrom_106 : decode cX8_copyFrom 106 = .ok (.getfield 43, 3) := by decide +kernel
theorem dX8_copyFrom_109 : decode cX8_copyFrom 109 = .ok (.iconst 0, 1) := by decide +kernel
theorem dX8_copyFrom_110 : decode cX8_copyFrom 110 = .ok (.aload_n 0, 1) := by decide +kernel
theorem dX8_copyFrom_111 : decode cX8_copyFrom 111 = .ok (.getfield 43, 3) := by decide +kernel
theorem dX8_copyFrom_114 : decode cX8_copyFrom 114 = .ok (.arraylength, 1) := by decide +kernel
theorem dX8_copyFrom_115 : decode cX8_copyFrom 115 = .ok (.invokestatic 52, 3) := by decide +kernel
theorem dX8_copyFrom_118 : decode cX8_copyFrom 118 = .ok (.return_, 1) := by decide +kernel
theorem dX8_isGate_0 : decode cX8_isGate 0 = .ok (.iload_n 1, 1) := by decide +kernel
theorem dX8_isGate_1 : decode cX8_isGate 1 = .ok (.ifCond .lt 21, 3) := by decide +kernel
theorem dX8_isGate_4 : decode cX8_isGate 4 = .ok (.iload_n 1, 1) := by decide +kernel
theorem dX8_isGate_5 : decode cX8_isGate 5 = .ok (.aload_n 0, 1) := by decide +kernel
theorem dX8_isGate_6 : decode cX8_isGate 6 = .ok (.getfield 9, 3) := by decide +kernel
theorem dX8_isGate_9 : decode cX8_isGate 9 = .ok (.if_icmp .ge 13, 3) := by decide +kernel
theorem dX8_isGate_12 : decode cX8_isGate 12 = .ok (.iload_n 1, 1) := by decide +kernel
theorem dX8_isGate_13 : decode cX8_isGate 13 = .ok (.bipush 6, 2) := by decide +kernel
theorem dX8_isGate_15 : decode cX8_isGate 15 = .ok (.if_icmp .ge 7, 3) := by decide +kernel
theorem dX8_isGate_18 : decode cX8_isGate 18 = .ok (.iconst 1, 1) := by decide +kernel
theorem dX8_isGate_19 : decode cX8_isGate 19 = .ok (.goto 4, 3) := by decide +kernel
theorem dX8_isGate_22 : decode cX8_isGate 22 = .ok (.iconst 0, 1) := by decide +kernel
theorem dX8_isGate_23 : decode cX8_isGate 23 = .ok (.ireturn, 1) := by decide +kernel
set_option maxRecDepth 20000 in
theorem ggX8_isPlace_X8_isGate : GoodIn wsX8_isPlace wsX8_isGate := goodIn_r _ [5, 6, 7, 8, 9, 10, 11, 12, 13, 14, 15, 16, 17] (by decide +kernel) (by decide +kernel)
set_option maxRecDepth 20000 in
theorem gX8_isPlace_X8_isGate : GoodIn wsX8_isPlace (wsV RX8 58 RX8 yX8_isGate wsX8_isGate) := goodIn_app (goodIn_of _ (by decide +kernel)) ggX8_isPlace_X8_isGate
theorem dX8_isPlace_0 : decode cX8_isPlace 0 = .ok (.iload_n 1, 1) := by decide +kernel
theorem dX8_isPlace_1 : decode cX8_isPlace 1 = .ok (.bipush 99, 2) := by decide +kernel
theorem dX8_isPlace_3 : decode cX8_isPlace 3 = .ok (.if_icmp .eq 11, 3) := by decide +kernel
theorem dX8_isPlace_6 : decode cX8_isPlace 6 = .ok (.aload_n 0, 1) := by decide +kernel
theorem dX8_isPlace_7 : decode cX8_isPlace 7 = .ok (.iload_n 1, 1) := by decide +kernel
theorem dX8_isPlace_8 : decode cX8_isPlace 8 = .ok (.invokevirtual 58, 3) := by decide +kernel
theorem dX8_isPlace_11 : decode cX8_isPlace 11 = .ok (.ifCond .eq 7, 3) := by decide +kernel
theorem dX8_isPlace_14 : decode cX8_isPlace 14 = .ok (.iconst 1, 1) := by decide +kernel
theorem dX8_isPlace_15 : decode cX8_isPlace 15 = .ok (.goto 4, 3) := by decide +kernel
theorem dX8_isPlace_18 : decode cX8_isPlace 18 = .ok (.iconst 0, 1) := by decide +kernel
theorem dX8_isPlace_19 : decode cX8_isPlace 19 = .ok (.ireturn, 1) := by decide +kernel
theorem dX8_isHour_0 : decode cX8_isHour 0 = .ok (.iload_n 1, 1) := by decide +kernel
theorem dX8_isHour_1 : decode cX8_isHour 1 = .ok (.ifCond .lt 21, 3) := by decide +kernel
theorem dX8_isHour_4 : decode cX8_isHour 4 = .ok (.iload_n 1, 1) := by decide +kernel
theorem dX8_isHour_5 : decode cX8_isHour 5 = .ok (.aload_n 0, 1) := by decide +kernel
theorem dX8_isHour_6 : decode cX8_isHour 6 = .ok (.getfield 15, 3) := by decide +kernel
theorem dX8_isHour_9 : decode cX8_isHour 9 = .ok (.if_icmp .ge 13, 3) := by decide +kernel
theorem dX8_isHour_12 : decode cX8_isHour 12 = .ok (.iload_n 1, 1) := by decide +kernel
theorem dX8_isHour_13 : decode cX8_isHour 13 = .ok (.bipush 12, 2) := by decide +kernel
theorem dX8_isHour_15 : decode cX8_isHour 15 = .ok (.if_icmp .ge 7, 3) := by decide +kernel
theorem dX8_isHour_18 : decode cX8_isHour 18 = .ok (.iconst 1, 1) := by decide +kernel
theorem dX8_isHour_19 : decode cX8_isHour 19 = .ok (.goto 4, 3) := by decide +kernel
theorem dX8_isHour_22 : decode cX8_isHour 22 = .ok (.iconst 0, 1) := by decide +kernel
theorem dX8_isHour_23 : decode cX8_isHour 23 = .ok (.ireturn, 1) := by decide +kernel
theorem dX8_isPerson_0 : decode cX8_isPerson 0 = .ok (.iload_n 1, 1) := by decide +kernel
theorem dX8_isPerson_1 : decode cX8_isPerson 1 = .ok (.ifCond .lt 21, 3) := by decide +kernel
theorem dX8_isPerson_4 : decode cX8_isPerson 4 = .ok (.iload_n 1, 1) := by decide +kernel
theorem dX8_isPerson_5 : decode cX8_isPerson 5 = .ok (.aload_n 0, 1) := by decide +kernel
theorem dX8_isPerson_6 : decode cX8_isPerson 6 = .ok (.getfield 18, 3) := by decide +kernel
theorem dX8_isPerson_9 : decode cX8_isPerson 9 = .ok (.if_icmp .ge 13, 3) := by decide +kernel
theorem dX8_isPerson_12 : decode cX8_isPerson 12 = .ok (.iload_n 1, 1) := by decide +kernel
theorem dX8_isPerson_13 : decode cX8_isPerson 13 = .ok (.bipush 10, 2) := by decide +kernel
theorem dX8_isPerson_15 : decode cX8_isPerson 15 = .ok (.if_icmp .ge 7, 3) := by decide +kernel
theorem dX8_isPerson_18 : decode cX8_isPerson 18 = .ok (.iconst 1, 1) := by decide +kernel
theorem dX8_isPerson_19 : decode cX8_isPerson 19 = .ok (.goto 4, 3) := by decide +kernel
theorem dX8_isPerson_22 : decode cX8_isPerson 22 = .ok (.iconst 0, 1) := by decide +kernel
theorem dX8_isPerson_23 : decode cX8_isPerson 23 = .ok (.ireturn, 1) := by decide +kernel
set_option maxRecDepth 20000 in
theorem ggX8_placeOf_X8_isPerson : GoodIn wsX8_placeOf wsX8_isPerson := goodIn_r _ [6, 7, 13, 14, 15, 16, 17, 18, 19, 20, 21, 22, 23] (by decide +kernel) (by decide +kernel)
set_option maxRecDepth 20000 in
theorem gX8_placeOf_X8_isPerson : GoodIn wsX8_placeOf (wsV RX8 62 RX8 yX8_isPerson wsX8_isPerson) := goodIn_app (goodIn_of _ (by decide +kernel)) ggX8_placeOf_X8_isPerson
set_option maxRecDepth 20000 in
theorem ggX8_placeOf_X8_isHour : GoodIn wsX8_placeOf wsX8_isHour := goodIn_r _ [11, 12, 13, 14, 15, 16, 17, 18, 19, 20, 21, 22, 23] (by decide +kernel) (by decide +kernel)
set_option maxRecDepth 20000 in
theorem gX8_placeOf_X8_isHour : GoodIn wsX8_placeOf (wsV RX8 65 RX8 yX8_isHour wsX8_isHour) := goodIn_app (goodIn_of _ (by decide +kernel)) ggX8_placeOf_X8_isHour
theorem dX8_placeOf_0 : decode cX8_placeOf 0 = .ok (.aload_n 0, 1) := by decide +kernel
theorem dX8_placeOf_1 : decode cX8_placeOf 1 = .ok (.iload_n 1, 1) := by decide +kernel
theorem dX8_placeOf_2 : decode cX8_placeOf 2 = .ok (.invokevirtual 62, 3) := by decide +kernel
theorem dX8_placeOf_5 : decode cX8_placeOf 5 = .ok (.ifCond .eq 25, 3) := by decide +kernel
theorem dX8_placeOf_8 : decode cX8_placeOf 8 = .ok (.aload_n 0, 1) := by decide +kernel
theorem dX8_placeOf_9 : decode cX8_placeOf 9 = .ok (.iload_n 2, 1) := by decide +kernel
theorem dX8_placeOf_10 : decode cX8_placeOf 10 = .ok (.invokevirtual 65, 3) := by decide +kernel
theorem dX8_placeOf_13 : decode cX8_placeOf 13 = .ok (.ifCond .eq 17, 3) := by decide +kernel
theorem dX8_placeOf_16 : decode cX8_placeOf 16 = .ok (.aload_n 0, 1) := by decide +kernel
theorem dX8_placeOf_17 : decode cX8_placeOf 17 = .ok (.getfield 40, 3) := by decide +kernel
theorem dX8_placeOf_20 : decode cX8_placeOf 20 = .ok (.iload_n 1, 1) := by decide +kernel
theorem dX8_placeOf_21 : decode cX8_placeOf 21 = .ok (.bipush 12, 2) := by decide +kernel
theorem dX8_placeOf_23 : decode cX8_placeOf 23 = .ok (.imul, 1) := by decide +kernel
theorem dX8_placeOf_24 : decode cX8_placeOf 24 = .ok (.iload_n 2, 1) := by decide +kernel
theorem dX8_placeOf_25 : decode cX8_placeOf 25 = .ok (.iadd, 1) := by decide +kernel
theorem dX8_placeOf_26 : decode cX8_placeOf 26 = .ok (.iaload, 1) := by decide +kernel
theorem dX8_placeOf_27 : decode cX8_placeOf 27 = .ok (.goto 5, 3) := by decide +kernel
theorem dX8_placeOf_30 : decode cX8_placeOf 30 = .ok (.bipush 99, 2) := by decide +kernel
theorem dX8_placeOf_32 : decode cX8_placeOf 32 = .ok (.ireturn, 1) := by decide +kernel
set_option maxRecDepth 20000 in
theorem ggX8_those_X8_isGate : GoodIn wsX8_those wsX8_isGate := goodIn_r _ [6, 7, 13, 14, 15, 16, 17, 18, 19, 20, 21, 22, 23] (by decide +kernel) (by decide +kernel)
set_option maxRecDepth 20000 in
theorem gX8_those_X8_isGate : GoodIn wsX8_those (wsV RX8 58 RX8 yX8_isGate wsX8_isGate) := goodIn_app (goodIn_of _ (by decide +kernel)) ggX8_those_X8_isGate
set_option maxRecDepth 20000 in
theorem ggX8_those_X8_isHour : GoodIn wsX8_those wsX8_isHour := goodIn_r _ [11, 12, 13, 14, 15, 16, 17, 18, 19, 20, 21, 22, 23] (by decide +kernel) (by decide +kernel)
set_option maxRecDepth 20000 in
theorem gX8_those_X8_isHour : GoodIn wsX8_those (wsV RX8 65 RX8 yX8_isHour wsX8_isHour) := goodIn_app (goodIn_of _ (by decide +kernel)) ggX8_those_X8_isHour
theorem dX8_those_0 : decode cX8_those 0 = .ok (.aload_n 0, 1) := by decide +kernel
theorem dX8_those_1 : decode cX8_those 1 = .ok (.iload_n 1, 1) := by decide +kernel
theorem dX8_those_2 : decode cX8_those 2 = .ok (.invokevirtual 58, 3) := by decide +kernel
theorem dX8_those_5 : decode cX8_those 5 = .ok (.ifCond .eq 25, 3) := by decide +kernel
theorem dX8_those_8 : decode cX8_those 8 = .ok (.aload_n 0, 1) := by decide +kernel
theorem dX8_those_9 : decode cX8_those 9 = .ok (.iload_n 2, 1) := by decide +kernel
theorem dX8_those_10 : decode cX8_those 10 = .ok (.invokevirtual 65, 3) := by decide +kernel
theorem dX8_those_13 : decode cX8_those 13 = .ok (.ifCond .eq 17, 3) := by decide +kernel
theorem dX8_those_16 : decode cX8_those 16 = .ok (.aload_n 0, 1) := by decide +kernel
theorem dX8_those_17 : decode cX8_those 17 = .ok (.getfield 43, 3) := by decide +kernel
theorem dX8_those_20 : decode cX8_those 20 = .ok (.iload_n 2, 1) := by decide +kernel
theorem dX8_those_21 : decode cX8_those 21 = .ok (.bipush 6, 2) := by decide +kernel
theorem dX8_those_23 : decode cX8_those 23 = .ok (.imul, 1) := by decide +kernel
theorem dX8_those_24 : decode cX8_those 24 = .ok (.iload_n 1, 1) := by decide +kernel
theorem dX8_those_25 : decode cX8_those 25 = .ok (.iadd, 1) := by decide +kernel
theorem dX8_those_26 : decode cX8_those 26 = .ok (.iaload, 1) := by decide +kernel
theorem dX8_those_27 : decode cX8_those 27 = .ok (.goto 4, 3) := by decide +kernel
theorem dX8_those_30 : decode cX8_those 30 = .ok (.iconst 0, 1) := by decide +kernel
theorem dX8_those_31 : decode cX8_those 31 = .ok (.ireturn, 1) := by decide +kernel
set_option maxRecDepth 20000 in
theorem ggX8_moveTo_X8_isPerson : GoodIn wsX8_moveTo wsX8_isPerson := goodIn_r _ [7, 8, 23, 24, 25, 26, 27, 28, 29, 30, 31, 32, 33] (by decide +kernel) (by decide +kernel)
set_option maxRecDepth 20000 in
theorem gX8_moveTo_X8_isPerson : GoodIn wsX8_moveTo (wsV RX8 62 RX8 yX8_isPerson wsX8_isPerson) := goodIn_app (goodIn_of _ (by decide +kernel)) ggX8_moveTo_X8_isPerson
set_option maxRecDepth 20000 in
theorem ggX8_moveTo_X8_isHour : GoodIn wsX8_moveTo wsX8_isHour := goodIn_r _ [12, 13, 23, 24, 25, 26, 27, 28, 29, 30, 31, 32, 33] (by decide +kernel) (by decide +kernel)
set_option maxRecDepth 20000 in
theorem gX8_moveTo_X8_isHour : GoodIn wsX8_moveTo (wsV RX8 65 RX8 yX8_isHour wsX8_isHour) := goodIn_app (goodIn_of _ (by decide +kernel)) ggX8_moveTo_X8_isHour
set_option maxRecDepth 20000 in
theorem ggX8_moveTo_X8_isPlace : GoodIn wsX8_moveTo wsX8_isPlace := goodIn_r _ [17, 18, 19, 20, 6, 21, 22, 23, 24, 25, 26, 27, 28, 29, 30, 31, 32, 33] (by decide +kernel) (by decide +kernel)
set_option maxRecDepth 20000 in
theorem gX8_moveTo_X8_isPlace : GoodIn wsX8_moveTo (wsV RX8 68 RX8 yX8_isPlace wsX8_isPlace) := goodIn_app (goodIn_of _ (by decide +kernel)) ggX8_moveTo_X8_isPlace
set_option maxRecDepth 20000 in
theorem ggX8_moveTo_X8_isGate : GoodIn wsX8_moveTo wsX8_isGate := goodIn_r _ [21, 22, 23, 24, 25, 26, 27, 28, 29, 30, 31, 32, 33] (by decide +kernel) (by decide +kernel)
set_option maxRecDepth 20000 in
theorem gX8_moveTo_X8_isGate : GoodIn wsX8_moveTo (wsV RX8 58 RX8 yX8_isGate wsX8_isGate) := goodIn_app (goodIn_of _ (by decide +kernel)) ggX8_moveTo_X8_isGate
theorem dX8_moveTo_0 : decode cX8_moveTo 0 = .ok (.aload_n 0, 1) := by decide +kernel
theorem dX8_moveTo_1 : decode cX8_moveTo 1 = .ok (.iload_n 1, 1) := by decide +kernel
theorem dX8_moveTo_2 : decode cX8_moveTo 2 = .ok (.invokevirtual 62, 3) := by decide +kernel
theorem dX8_moveTo_5 : decode cX8_moveTo 5 = .ok (.ifCond .eq 19, 3) := by decide +kernel
theorem dX8_moveTo_8 : decode cX8_moveTo 8 = .ok (.aload_n 0, 1) := by decide +kernel
theorem dX8_moveTo_9 : decode cX8_moveTo 9 = .ok (.iload_n 2, 1) := by decide +kernel
theorem dX8_moveTo_10 : decode cX8_moveTo 10 = .ok (.invokevirtual 65, 3) := by decide +kernel
theorem dX8_moveTo_13 : decode cX8_moveTo 13 = .ok (.ifCond .eq 11, 3) := by decide +kernel
theorem dX8_moveTo_16 : decode cX8_moveTo 16 = .ok (.aload_n 0, 1) := by decide +kernel
theorem dX8_moveTo_17 : decode cX8_moveTo 17 = .ok (.iload_n 3, 1) := by decide +kernel
theorem dX8_moveTo_18 : decode cX8_moveTo 18 = .ok (.invokevirtual 68, 3) := by decide +kernel
theorem dX8_moveTo_21 : decode cX8_moveTo 21 = .ok (.ifCond .ne 4, 3) := by decide +kernel
theorem dX8_moveTo_24 : decode cX8_moveTo 24 = .ok (.return_, 1) := by decide +kernel
theorem dX8_moveTo_25 : decode cX8_moveTo 25 = .ok (.aload_n 0, 1) := by decide +kernel
theorem dX8_moveTo_26 : decode cX8_moveTo 26 = .ok (.getfield 40, 3) := by decide +kernel
theorem dX8_moveTo_29 : decode cX8_moveTo 29 = .ok (.iload_n 1, 1) := by decide +kernel
theorem dX8_moveTo_30 : decode cX8_moveTo 30 = .ok (.bipush 12, 2) := by decide +kernel
theorem dX8_moveTo_32 : decode cX8_moveTo 32 = .ok (.imul, 1) := by decide +kernel
theorem dX8_moveTo_33 : decode cX8_moveTo 33 = .ok (.iload_n 2, 1) := by decide +kernel
theorem dX8_moveTo_34 : decode cX8_moveTo 34 = .ok (.iadd, 1) := by decide +kernel
