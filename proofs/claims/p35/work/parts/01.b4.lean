set_option maxRecDepth 20000 in
theorem ggX12_person_X12_in : GoodIn wsX12_person wsX12_in := goodIn_r _ [10] (by decide +kernel) (by decide +kernel)
set_option maxRecDepth 20000 in
theorem gX12_person_X12_in : GoodIn wsX12_person (va_wsS RX12 127 yX12_in wsX12_in) := goodIn_app (goodIn_of _ (by decide +kernel)) ggX12_person_X12_in
set_option maxRecDepth 20000 in
theorem ggX12_person_X12_personOf : GoodIn wsX12_person wsX12_personOf := goodIn_r _ [14, 7, 31, 32, 33, 34, 35, 36, 37, 38, 39, 40, 41, 42, 43, 44, 45, 46, 47, 48, 49, 50, 51, 52, 53, 54, 55, 56, 57, 58, 59, 60, 61, 62, 63, 64, 65, 66, 67, 68, 69, 70, 71, 72, 73, 74] (by decide +kernel) (by decide +kernel)
set_option maxRecDepth 20000 in
theorem gX12_person_X12_personOf : GoodIn wsX12_person (wsV RX12 305 RX12 yX12_personOf wsX12_personOf) := goodIn_app (goodIn_of _ (by decide +kernel)) ggX12_person_X12_personOf
set_option maxRecDepth 20000 in
theorem ggX12_person_X12_meetsOf : GoodIn wsX12_person wsX12_meetsOf := goodIn_r _ [18, 7, 19, 20, 21, 5, 22, 23, 24, 25, 26, 27, 28, 29, 30, 31, 32, 33, 34, 35, 36, 37, 38, 39, 40, 41, 42, 43, 44, 45, 46, 47, 48, 49, 50, 51, 52, 53, 54, 55, 56, 57, 58, 59, 60, 61, 62, 63, 64, 65, 66, 67, 68, 69, 70, 71, 72, 73, 74] (by decide +kernel) (by decide +kernel)
set_option maxRecDepth 20000 in
theorem gX12_person_X12_meetsOf : GoodIn wsX12_person (wsV RX12 350 RX12 yX12_meetsOf wsX12_meetsOf) := goodIn_app (goodIn_of _ (by decide +kernel)) ggX12_person_X12_meetsOf
theorem dX12_person_0 : decode cX12_person 0 = .ok (.aload_n 0, 1) := by decide +kernel
theorem dX12_person_1 : decode cX12_person 1 = .ok (.iload_n 1, 1) := by decide +kernel
theorem dX12_person_2 : decode cX12_person 2 = .ok (.invokevirtual 339, 3) := by decide +kernel
theorem dX12_person_5 : decode cX12_person 5 = .ok (.ifCond .eq 15, 3) := by decide +kernel
theorem dX12_person_8 : decode cX12_person 8 = .ok (.iload_n 2, 1) := by decide +kernel
theorem dX12_person_9 : decode cX12_person 9 = .ok (.i2l, 1) := by decide +kernel
theorem dX12_person_10 : decode cX12_person 10 = .ok (.lconst 0, 1) := by decide +kernel
theorem dX12_person_11 : decode cX12_person 11 = .ok (.ldc2_w 348, 3) := by decide +kernel
theorem dX12_person_14 : decode cX12_person 14 = .ok (.invokestatic 127, 3) := by decide +kernel
theorem dX12_person_17 : decode cX12_person 17 = .ok (.ifCond .ne 5, 3) := by decide +kernel
theorem dX12_person_20 : decode cX12_person 20 = .ok (.iconst (-1), 1) := by decide +kernel
theorem dX12_person_21 : decode cX12_person 21 = .ok (.ireturn, 1) := by decide +kernel
theorem dX12_person_22 : decode cX12_person 22 = .ok (.iload_n 2, 1) := by decide +kernel
theorem dX12_person_23 : decode cX12_person 23 = .ok (.iconst 4, 1) := by decide +kernel
theorem dX12_person_24 : decode cX12_person 24 = .ok (.if_icmp .ge 12, 3) := by decide +kernel
theorem dX12_person_27 : decode cX12_person 27 = .ok (.aload_n 0, 1) := by decide +kernel
theorem dX12_person_28 : decode cX12_person 28 = .ok (.iload_n 1, 1) := by decide +kernel
theorem dX12_person_29 : decode cX12_person 29 = .ok (.iload_n 2, 1) := by decide +kernel
theorem dX12_person_30 : decode cX12_person 30 = .ok (.invokevirtual 305, 3) := by decide +kernel
theorem dX12_person_33 : decode cX12_person 33 = .ok (.goto 8, 3) := by decide +kernel
theorem dX12_person_36 : decode cX12_person 36 = .ok (.aload_n 0, 1) := by decide +kernel
theorem dX12_person_37 : decode cX12_person 37 = .ok (.iload_n 1, 1) := by decide +kernel
theorem dX12_person_38 : decode cX12_person 38 = .ok (.invokevirtual 350, 3) := by decide +kernel
theorem dX12_person_41 : decode cX12_person 41 = .ok (.ireturn, 1) := by decide +kernel
set_option maxRecDepth 20000 in
theorem ggX12_crowd_X12_isGate : GoodIn wsX12_crowd wsX12_isGate := goodIn_r _ [5, 6, 26, 27, 28, 29, 30, 31, 32, 33, 34, 35, 36, 37, 38, 39, 40, 41, 42, 43, 44, 45, 46, 47, 48, 49, 50, 51, 52, 53, 54, 55, 56, 57, 58, 59, 60, 61, 62, 63, 64, 65, 66, 67, 68, 69] (by decide +kernel) (by decide +kernel)
set_option maxRecDepth 20000 in
theorem gX12_crowd_X12_isGate : GoodIn wsX12_crowd (wsV RX12 353 RX12 yX12_isGate wsX12_isGate) := goodIn_app (goodIn_of _ (by decide +kernel)) ggX12_crowd_X12_isGate
set_option maxRecDepth 20000 in
theorem ggX12_crowd_X12_isHour : GoodIn wsX12_crowd wsX12_isHour := goodIn_r _ [10, 6, 26, 27, 28, 29, 30, 31, 32, 33, 34, 35, 36, 37, 38, 39, 40, 41, 42, 43, 44, 45, 46, 47, 48, 49, 50, 51, 52, 53, 54, 55, 56, 57, 58, 59, 60, 61, 62, 63, 64, 65, 66, 67, 68, 69] (by decide +kernel) (by decide +kernel)
set_option maxRecDepth 20000 in
theorem gX12_crowd_X12_isHour : GoodIn wsX12_crowd (wsV RX12 342 RX12 yX12_isHour wsX12_isHour) := goodIn_app (goodIn_of _ (by decide +kernel)) ggX12_crowd_X12_isHour
set_option maxRecDepth 20000 in
theorem ggX12_crowd_X12_everybody : GoodIn wsX12_crowd wsX12_everybody := goodIn_r _ [14, 6, 26, 27, 28, 29, 30, 31, 32, 33, 34, 35, 36, 37, 38, 39, 40, 41, 42, 43, 44, 45, 46, 47, 48, 49, 50, 51, 52, 53, 54, 55, 56, 57, 58, 59, 60, 61, 62, 63, 64, 65, 66, 67, 68, 69] (by decide +kernel) (by decide +kernel)
set_option maxRecDepth 20000 in
theorem gX12_crowd_X12_everybody : GoodIn wsX12_crowd (wsV RX12 333 RX12 yX12_everybody wsX12_everybody) := goodIn_app (goodIn_of _ (by decide +kernel)) ggX12_crowd_X12_everybody
set_option maxRecDepth 20000 in
theorem ggX12_crowd_X12_crowdOf : GoodIn wsX12_crowd wsX12_crowdOf := goodIn_r _ [18, 6, 19, 20, 4, 21, 22, 23, 24, 25, 26, 27, 28, 29, 30, 31, 32, 33, 34, 35, 36, 37, 38, 39, 40, 41, 42, 43, 44, 45, 46, 47, 48, 49, 50, 51, 52, 53, 54, 55, 56, 57, 58, 59, 60, 61, 62, 63, 64, 65, 66, 67, 68, 69] (by decide +kernel) (by decide +kernel)
set_option maxRecDepth 20000 in
theorem gX12_crowd_X12_crowdOf : GoodIn wsX12_crowd (wsV RX12 323 RX12 yX12_crowdOf wsX12_crowdOf) := goodIn_app (goodIn_of _ (by decide +kernel)) ggX12_crowd_X12_crowdOf
theorem dX12_crowd_0 : decode cX12_crowd 0 = .ok (.aload_n 0, 1) := by decide +kernel
theorem dX12_crowd_1 : decode cX12_crowd 1 = .ok (.iload_n 1, 1) := by decide +kernel
theorem dX12_crowd_2 : decode cX12_crowd 2 = .ok (.invokevirtual 353, 3) := by decide +kernel
theorem dX12_crowd_5 : decode cX12_crowd 5 = .ok (.ifCond .eq 24, 3) := by decide +kernel
theorem dX12_crowd_8 : decode cX12_crowd 8 = .ok (.aload_n 0, 1) := by decide +kernel
theorem dX12_crowd_9 : decode cX12_crowd 9 = .ok (.iload_n 2, 1) := by decide +kernel
theorem dX12_crowd_10 : decode cX12_crowd 10 = .ok (.invokevirtual 342, 3) := by decide +kernel
theorem dX12_crowd_13 : decode cX12_crowd 13 = .ok (.ifCond .eq 16, 3) := by decide +kernel
theorem dX12_crowd_16 : decode cX12_crowd 16 = .ok (.aload_n 0, 1) := by decide +kernel
theorem dX12_crowd_17 : decode cX12_crowd 17 = .ok (.aload_n 0, 1) := by decide +kernel
theorem dX12_crowd_18 : decode cX12_crowd 18 = .ok (.invokevirtual 333, 3) := by decide +kernel
theorem dX12_crowd_21 : decode cX12_crowd 21 = .ok (.iload_n 1, 1) := by decide +kernel
theorem dX12_crowd_22 : decode cX12_crowd 22 = .ok (.iload_n 2, 1) := by decide +kernel
theorem dX12_crowd_23 : decode cX12_crowd 23 = .ok (.invokevirtual 323, 3) := by decide +kernel
theorem dX12_crowd_26 : decode cX12_crowd 26 = .ok (.goto 4, 3) := by decide +kernel
theorem dX12_crowd_29 : decode cX12_crowd 29 = .ok (.iconst (-1), 1) := by decide +kernel
theorem dX12_crowd_30 : decode cX12_crowd 30 = .ok (.ireturn, 1) := by decide +kernel
set_option maxRecDepth 20000 in
theorem ggX12_shake_X12_isPerson : GoodIn wsX12_shake wsX12_isPerson := goodIn_r _ [5, 6, 73, 74, 75, 76, 77, 78, 79, 80, 81, 82, 83, 84, 85, 86, 87, 88, 89, 90, 91, 92, 93, 94, 95, 96, 97, 98, 99, 100, 101, 102, 103, 104, 105, 106, 107, 108, 109, 110, 111, 112, 113, 114, 115, 116] (by decide +kernel) (by decide +kernel)
set_option maxRecDepth 20000 in
theorem gX12_shake_X12_isPerson : GoodIn wsX12_shake (wsV RX12 339 RX12 yX12_isPerson wsX12_isPerson) := goodIn_app (goodIn_of _ (by decide +kernel)) ggX12_shake_X12_isPerson
set_option maxRecDepth 20000 in
theorem ggX12_shake_X12_isHour : GoodIn wsX12_shake wsX12_isHour := goodIn_r _ [10, 6, 73, 74, 75, 76, 77, 78, 79, 80, 81, 82, 83, 84, 85, 86, 87, 88, 89, 90, 91, 92, 93, 94, 95, 96, 97, 98, 99, 100, 101, 102, 103, 104, 105, 106, 107, 108, 109, 110, 111, 112, 113, 114, 115, 116] (by decide +kernel) (by decide +kernel)
set_option maxRecDepth 20000 in
theorem gX12_shake_X12_isHour : GoodIn wsX12_shake (wsV RX12 342 RX12 yX12_isHour wsX12_isHour) := goodIn_app (goodIn_of _ (by decide +kernel)) ggX12_shake_X12_isHour
set_option maxRecDepth 20000 in
theorem ggX12_shake_X12_meetIn : GoodIn wsX12_shake wsX12_meetIn := goodIn_r _ [14, 15, 16, 17, 4, 18, 6, 73, 74, 75, 76, 77, 78, 79, 80, 81, 82, 83, 84, 85, 86, 87, 88, 89, 90, 91, 92, 93, 94, 95, 96, 97, 98, 99, 100, 101, 102, 103, 104, 105, 106, 107, 108, 109, 110, 111, 112, 113, 114, 115, 116] (by decide +kernel) (by decide +kernel)
set_option maxRecDepth 20000 in
theorem gX12_shake_X12_meetIn : GoodIn wsX12_shake (wsV RX12 295 RX12 yX12_meetIn wsX12_meetIn) := goodIn_app (goodIn_of _ (by decide +kernel)) ggX12_shake_X12_meetIn
set_option maxRecDepth 20000 in
theorem ggX12_shake_X12_everybody : GoodIn wsX12_shake wsX12_everybody := goodIn_r _ [22, 6, 73, 74, 75, 76, 77, 78, 79, 80, 81, 82, 83, 84, 85, 86, 87, 88, 89, 90, 91, 92, 93, 94, 95, 96, 97, 98, 99, 100, 101, 102, 103, 104, 105, 106, 107, 108, 109, 110, 111, 112, 113, 114, 115, 116] (by decide +kernel) (by decide +kernel)
set_option maxRecDepth 20000 in
theorem gX12_shake_X12_everybody : GoodIn wsX12_shake (wsV RX12 333 RX12 yX12_everybody wsX12_everybody) := goodIn_app (goodIn_of _ (by decide +kernel)) ggX12_shake_X12_everybody
set_option maxRecDepth 20000 in
theorem ggX12_shake_X12_placeOf : GoodIn wsX12_shake wsX12_placeOf := goodIn_r _ [18, 6, 73, 74, 75, 76, 77, 78, 79, 80, 81, 82, 83, 84, 85, 86, 87, 88, 89, 90, 91, 92, 93, 94, 95, 96, 97, 98, 99, 100, 101, 102, 103, 104, 105, 106, 107, 108, 109, 110, 111, 112, 113, 114, 115, 116] (by decide +kernel) (by decide +kernel)
set_option maxRecDepth 20000 in
theorem gX12_shake_X12_placeOf : GoodIn wsX12_shake (wsV RX12 291 RX12 yX12_placeOf wsX12_placeOf) := goodIn_app (goodIn_of _ (by decide +kernel)) ggX12_shake_X12_placeOf
set_option maxRecDepth 20000 in
theorem ggX12_shake_X12_crowdOf : GoodIn wsX12_shake wsX12_crowdOf := goodIn_r _ [26, 6, 27, 28, 4, 29, 15, 16, 17, 18, 73, 74, 75, 76, 77, 78, 79, 80, 81, 82, 83, 84, 85, 86, 87, 88, 89, 90, 91, 92, 93, 94, 95, 96, 97, 98, 99, 100, 101, 102, 103, 104, 105, 106, 107, 108, 109, 110, 111, 112, 113, 114, 115, 116] (by decide +kernel) (by decide +kernel)
set_option maxRecDepth 20000 in
theorem gX12_shake_X12_crowdOf : GoodIn wsX12_shake (wsV RX12 323 RX12 yX12_crowdOf wsX12_crowdOf) := goodIn_app (goodIn_of _ (by decide +kernel)) ggX12_shake_X12_crowdOf
set_option maxRecDepth 20000 in
theorem ggX12_shake_X12_bits : GoodIn wsX12_shake wsX12_bits := goodIn_r _ [32] (by decide +kernel) (by decide +kernel)
set_option maxRecDepth 20000 in
theorem gX12_shake_X12_bits : GoodIn wsX12_shake (va_wsS RX12 326 yX12_bits wsX12_bits) := goodIn_app (goodIn_of _ (by decide +kernel)) ggX12_shake_X12_bits
set_option maxRecDepth 20000 in
theorem ggX12_shake_X12_shakeOf : GoodIn wsX12_shake wsX12_shakeOf := goodIn_r _ [36, 37, 38, 6, 39, 40, 41, 42, 43, 44, 45, 4, 46, 11, 12, 13, 14, 15, 16, 17, 18, 47, 48, 49, 50, 27, 28, 29, 51, 52, 53, 54, 55, 56, 57, 58, 59, 60, 61, 62, 63, 64, 65, 66, 67, 68, 69, 70, 71, 72, 73, 74, 75, 76, 77, 78, 79, 80, 81, 82, 83, 84, 85, 86, 87, 88, 89, 90, 91, 92, 93, 94, 95, 96, 97, 98, 99, 100, 101, 102, 103, 104, 105, 106, 107, 108, 109, 110, 111, 112, 113, 114, 115, 116] (by decide +kernel) (by decide +kernel)
set_option maxRecDepth 20000 in
theorem gX12_shake_X12_shakeOf : GoodIn wsX12_shake (wsV RX12 329 RX12 yX12_shakeOf wsX12_shakeOf) := goodIn_app (goodIn_of _ (by decide +kernel)) ggX12_shake_X12_shakeOf
theorem dX12_shake_0 : decode cX12_shake 0 = .ok (.aload_n 0, 1) := by decide +kernel
theorem dX12_shake_1 : decode cX12_shake 1 = .ok (.iload_n 1, 1) := by decide +kernel
theorem dX12_shake_2 : decode cX12_shake 2 = .ok (.invokevirtual 339, 3) := by decide +kernel
theorem dX12_shake_5 : decode cX12_shake 5 = .ok (.ifCond .eq 34, 3) := by decide +kernel
theorem dX12_shake_8 : decode cX12_shake 8 = .ok (.aload_n 0, 1) := by decide +kernel
theorem dX12_shake_9 : decode cX12_shake 9 = .ok (.iload_n 2, 1) := by decide +kernel
theorem dX12_shake_10 : decode cX12_shake 10 = .ok (.invokevirtual 339, 3) := by decide +kernel
theorem dX12_shake_13 : decode cX12_shake 13 = .ok (.ifCond .eq 26, 3) := by decide +kernel
theorem dX12_shake_16 : decode cX12_shake 16 = .ok (.iload_n 1, 1) := by decide +kernel
theorem dX12_shake_17 : decode cX12_shake 17 = .ok (.iload_n 2, 1) := by decide +kernel
theorem dX12_shake_18 : decode cX12_shake 18 = .ok (.if_icmp .eq 21, 3) := by decide +kernel
theorem dX12_shake_21 : decode cX12_shake 21 = .ok (.aload_n 0, 1) := by decide +kernel
theorem dX12_shake_22 : decode cX12_shake 22 = .ok (.iload_n 3, 1) := by decide +kernel
theorem dX12_shake_23 : decode cX12_shake 23 = .ok (.invokevirtual 342, 3) := by decide +kernel
theorem dX12_shake_26 : decode cX12_shake 26 = .ok (.ifCond .eq 13, 3) := by decide +kernel
theorem dX12_shake_29 : decode cX12_shake 29 = .ok (.aload_n 0, 1) := by decide +kernel
theorem dX12_shake_30 : decode cX12_shake 30 = .ok (.iload_n 1, 1) := by decide +kernel
theorem dX12_shake_31 : decode cX12_shake 31 = .ok (.iload_n 2, 1) := by decide +kernel
theorem dX12_shake_32 : decode cX12_shake 32 = .ok (.iload_n 3, 1) := by decide +kernel
theorem dX12_shake_33 : decode cX12_shake 33 = .ok (.invokevirtual 295, 3) := by decide +kernel
theorem dX12_shake_36 : decode cX12_shake 36 = .ok (.ifCond .ne 7, 3) := by decide +kernel
theorem dX12_shake_39 : decode cX12_shake 39 = .ok (.sipush (-1000), 3) := by decide +kernel
theorem dX12_shake_42 : decode cX12_shake 42 = .ok (.ireturn, 1) := by decide +kernel
theorem dX12_shake_43 : decode cX12_shake 43 = .ok (.aload_n 0, 1) := by decide +kernel
theorem dX12_shake_44 : decode cX12_shake 44 = .ok (.aload_n 0, 1) := by decide +kernel
theorem dX12_shake_45 : decode cX12_shake 45 = .ok (.invokevirtual 333, 3) := by decide +kernel
theorem dX12_shake_48 : decode cX12_shake 48 = .ok (.aload_n 0, 1) := by decide +kernel
theorem dX12_shake_49 : decode cX12_shake 49 = .ok (.iload_n 1, 1) := by decide +kernel
theorem dX12_shake_50 : decode cX12_shake 50 = .ok (.iload_n 3, 1) := by decide +kernel
theorem dX12_shake_51 : decode cX12_shake 51 = .ok (.invokevirtual 291, 3) := by decide +kernel
theorem dX12_shake_54 : decode cX12_shake 54 = .ok (.iload_n 3, 1) := by decide +kernel
theorem dX12_shake_55 : decode cX12_shake 55 = .ok (.invokevirtual 323, 3) := by decide +kernel
theorem dX12_shake_58 : decode cX12_shake 58 = .ok (.invokestatic 326, 3) := by decide +kernel
theorem dX12_shake_61 : decode cX12_shake 61 = .ok (.istore 4, 2) := by decide +kernel
theorem dX12_shake_63 : decode cX12_shake 63 = .ok (.iload_n 1, 1) := by decide +kernel
theorem dX12_shake_64 : decode cX12_shake 64 = .ok (.iload_n 2, 1) := by decide +kernel
theorem dX12_shake_65 : decode cX12_shake 65 = .ok (.if_icmp .ge 15, 3) := by decide +kernel
theorem dX12_shake_68 : decode cX12_shake 68 = .ok (.aload_n 0, 1) := by decide +kernel
theorem dX12_shake_69 : decode cX12_shake 69 = .ok (.iload_n 1, 1) := by decide +kernel
theorem dX12_shake_70 : decode cX12_shake 70 = .ok (.iload_n 2, 1) := by decide +kernel
theorem dX12_shake_71 : decode cX12_shake 71 = .ok (.iload_n 3, 1) := by decide +kernel
theorem dX12_shake_72 : decode cX12_shake 72 = .ok (.iload 4, 2) := by decide +kernel
theorem dX12_shake_74 : decode cX12_shake 74 = .ok (.invokevirtual 329, 3) := by decide +kernel
theorem dX12_shake_77 : decode cX12_shake 77 = .ok (.goto 12, 3) := by decide +kernel
theorem dX12_shake_80 : decode cX12_shake 80 = .ok (.aload_n 0, 1) := by decide +kernel
theorem dX12_shake_81 : decode cX12_shake 81 = .ok (.iload_n 2, 1) := by decide +kernel
theorem dX12_shake_82 : decode cX12_shake 82 = .ok (.iload_n 1, 1) := by decide +kernel
theorem dX12_shake_83 : decode cX12_shake 83 = .ok (.iload_n 3, 1) := by decide +kernel
theorem dX12_shake_84 : decode cX12_shake 84 = .ok (.iload 4, 2) := by decide +kernel
theorem dX12_shake_86 : decode cX12_shake 86 = .ok (.invokevirtual 329, 3) := by decide +kernel
theorem dX12_shake_89 : decode cX12_shake 89 = .ok (.ireturn, 1) := by decide +kernel
set_option maxRecDepth 20000 in
theorem ggX12_sum_X12_isGate : GoodIn wsX12_sum wsX12_isGate := goodIn_r _ [6, 7, 78, 79, 80, 81, 82, 83, 84, 85, 86, 87, 88, 89, 90, 91, 92, 93, 94, 95, 96, 97, 98, 99, 100, 101, 102, 103, 104, 105, 106, 107, 108, 109, 110, 111, 112, 113, 114, 115, 116, 117, 118, 119, 120, 121] (by decide +kernel) (by decide +kernel)
set_option maxRecDepth 20000 in
theorem gX12_sum_X12_isGate : GoodIn wsX12_sum (wsV RX12 353 RX12 yX12_isGate wsX12_isGate) := goodIn_app (goodIn_of _ (by decide +kernel)) ggX12_sum_X12_isGate
set_option maxRecDepth 20000 in
theorem ggX12_sum_X12_isHour : GoodIn wsX12_sum wsX12_isHour := goodIn_r _ [11, 7, 78, 79, 80, 81, 82, 83, 84, 85, 86, 87, 88, 89, 90, 91, 92, 93, 94, 95, 96, 97, 98, 99, 100, 101, 102, 103, 104, 105, 106, 107, 108, 109, 110, 111, 112, 113, 114, 115, 116, 117, 118, 119, 120, 121] (by decide +kernel) (by decide +kernel)
set_option maxRecDepth 20000 in
theorem gX12_sum_X12_isHour : GoodIn wsX12_sum (wsV RX12 342 RX12 yX12_isHour wsX12_isHour) := goodIn_app (goodIn_of _ (by decide +kernel)) ggX12_sum_X12_isHour
set_option maxRecDepth 20000 in
theorem ggX12_sum_X12_everybody : GoodIn wsX12_sum wsX12_everybody := goodIn_r _ [15, 7, 78, 79, 80, 81, 82, 83, 84, 85, 86, 87, 88, 89, 90, 91, 92, 93, 94, 95, 96, 97, 98, 99, 100, 101, 102, 103, 104, 105, 106, 107, 108, 109, 110, 111, 112, 113, 114, 115, 116, 117, 118, 119, 120, 121] (by decide +kernel) (by decide +kernel)
set_option maxRecDepth 20000 in
theorem gX12_sum_X12_everybody : GoodIn wsX12_sum (wsV RX12 333 RX12 yX12_everybody wsX12_everybody) := goodIn_app (goodIn_of _ (by decide +kernel)) ggX12_sum_X12_everybody
set_option maxRecDepth 20000 in
theorem ggX12_sum_X12_sumOf : GoodIn wsX12_sum wsX12_sumOf := goodIn_r _ [19, 7, 20, 21, 22, 5, 23, 24, 25, 26, 27, 28, 29, 30, 31, 32, 33, 34, 35, 36, 37, 38, 39, 40, 41, 42, 43, 44, 45, 46, 47, 48, 49, 50, 51, 52, 53, 54, 55, 56, 57, 58, 59, 60, 61, 62, 63, 64, 65, 66, 67, 68, 69, 70, 71, 72, 73, 74, 75, 76, 77, 78, 79, 80, 81, 82, 83, 84, 85, 86, 87, 88, 89, 90, 91, 92, 93, 94, 95, 96, 97, 98, 99, 100, 101, 102, 103, 104, 105, 106, 107, 108, 109, 110, 111, 112, 113, 114, 115, 116, 117, 118, 119, 120, 121] (by decide +kernel) (by decide +kernel)
set_option maxRecDepth 20000 in
theorem gX12_sum_X12_sumOf : GoodIn wsX12_sum (wsV RX12 336 RX12 yX12_sumOf wsX12_sumOf) := goodIn_app (goodIn_of _ (by decide +kernel)) ggX12_sum_X12_sumOf
theorem dX12_sum_0 : decode cX12_sum 0 = .ok (.aload_n 0, 1) := by decide +kernel
theorem dX12_sum_1 : decode cX12_sum 1 = .ok (.iload_n 1, 1) := by decide +kernel
theorem dX12_sum_2 : decode cX12_sum 2 = .ok (.invokevirtual 353, 3) := by decide +kernel
theorem dX12_sum_5 : decode cX12_sum 5 = .ok (.ifCond .eq 24, 3) := by decide +kernel
theorem dX12_sum_8 : decode cX12_sum 8 = .ok (.aload_n 0, 1) := by decide +kernel
theorem dX12_sum_9 : decode cX12_sum 9 = .ok (.iload_n 2, 1) := by decide +kernel
theorem dX12_sum_10 : decode cX12_sum 10 = .ok (.invokevirtual 342, 3) := by decide +kernel
theorem dX12_sum_13 : decode cX12_sum 13 = .ok (.ifCond .eq 16, 3) := by decide +kernel
theorem dX12_sum_16 : decode cX12_sum 16 = .ok (.aload_n 0, 1) := by decide +kernel
theorem dX12_sum_17 : decode cX12_sum 17 = .ok (.aload_n 0, 1) := by decide +kernel
theorem dX12_sum_18 : decode cX12_sum 18 = .ok (.invokevirtual 333, 3) := by decide +kernel
theorem dX12_sum_21 : decode cX12_sum 21 = .ok (.iload_n 1, 1) := by decide +kernel
theorem dX12_sum_22 : decode cX12_sum 22 = .ok (.iload_n 2, 1) := by decide +kernel
theorem dX12_sum_23 : decode cX12_sum 23 = .ok (.invokevirtual 336, 3) := by decide +kernel
theorem dX12_sum_26 : decode cX12_sum 26 = .ok (.goto 6, 3) := by decide +kernel
theorem dX12_sum_29 : decode cX12_sum 29 = .ok (.ldc_w 356, 3) := by decide +kernel
theorem dX12_sum_32 : decode cX12_sum 32 = .ok (.ireturn, 1) := by decide +kernel
set_option maxRecDepth 20000 in
theorem ggX12_heard_X12_isGate : GoodIn wsX12_heard wsX12_isGate := goodIn_r _ [7, 1, 78, 79, 80, 81, 82, 83, 84, 85, 86, 87, 88, 89, 90, 91, 92, 93, 94, 95, 96, 97, 98, 99, 100, 101, 102, 103, 104, 105, 106, 107, 108, 109, 110, 111, 112, 113, 114, 115, 116, 117, 118, 119, 120, 121] (by decide +kernel) (by decide +kernel)
set_option maxRecDepth 20000 in
theorem gX12_heard_X12_isGate : GoodIn wsX12_heard (wsV RX12 353 RX12 yX12_isGate wsX12_isGate) := goodIn_app (goodIn_of _ (by decide +kernel)) ggX12_heard_X12_isGate
set_option maxRecDepth 20000 in
theorem ggX12_heard_X12_isHour : GoodIn wsX12_heard wsX12_isHour := goodIn_r _ [11, 1, 78, 79, 80, 81, 82, 83, 84, 85, 86, 87, 88, 89, 90, 91, 92, 93, 94, 95, 96, 97, 98, 99, 100, 101, 102, 103, 104, 105, 106, 107, 108, 109, 110, 111, 112, 113, 114, 115, 116, 117, 118, 119, 120, 121] (by decide +kernel) (by decide +kernel)
set_option maxRecDepth 20000 in
theorem gX12_heard_X12_isHour : GoodIn wsX12_heard (wsV RX12 342 RX12 yX12_isHour wsX12_isHour) := goodIn_app (goodIn_of _ (by decide +kernel)) ggX12_heard_X12_isHour
set_option maxRecDepth 20000 in
theorem ggX12_heard_X12_isOf : GoodIn wsX12_heard wsX12_isOf := goodIn_r _ [14] (by decide +kernel) (by decide +kernel)
set_option maxRecDepth 20000 in
theorem gX12_heard_X12_isOf : GoodIn wsX12_heard (va_wsS RX12 299 yX12_isOf wsX12_isOf) := goodIn_app (goodIn_of _ (by decide +kernel)) ggX12_heard_X12_isOf
set_option maxRecDepth 20000 in
theorem ggX12_heard_X12_everybody : GoodIn wsX12_heard wsX12_everybody := goodIn_r _ [18, 1, 78, 79, 80, 81, 82, 83, 84, 85, 86, 87, 88, 89, 90, 91, 92, 93, 94, 95, 96, 97, 98, 99, 100, 101, 102, 103, 104, 105, 106, 107, 108, 109, 110, 111, 112, 113, 114, 115, 116, 117, 118, 119, 120, 121] (by decide +kernel) (by decide +kernel)
set_option maxRecDepth 20000 in
theorem gX12_heard_X12_everybody : GoodIn wsX12_heard (wsV RX12 333 RX12 yX12_everybody wsX12_everybody) := goodIn_app (goodIn_of _ (by decide +kernel)) ggX12_heard_X12_everybody
set_option maxRecDepth 20000 in
theorem ggX12_heard_X12_sumOf : GoodIn wsX12_heard wsX12_sumOf := goodIn_r _ [22, 1, 23, 24, 25, 6, 26, 12, 13, 14, 27, 28, 29, 30, 31, 32, 33, 34, 35, 36, 37, 38, 39, 40, 41, 42, 43, 44, 45, 46, 47, 48, 49, 50, 51, 52, 53, 54, 55, 56, 57, 58, 59, 60, 61, 62, 63, 64, 65, 66, 67, 68, 69, 70, 71, 72, 73, 74, 75, 76, 77, 78, 79, 80, 81, 82, 83, 84, 85, 86, 87, 88, 89, 90, 91, 92, 93, 94, 95, 96, 97, 98, 99, 100, 101, 102, 103, 104, 105, 106, 107, 108, 109, 110, 111, 112, 113, 114, 115, 116, 117, 118, 119, 120, 121] (by decide +kernel) (by decide +kernel)
set_option maxRecDepth 20000 in
theorem gX12_heard_X12_sumOf : GoodIn wsX12_heard (wsV RX12 336 RX12 yX12_sumOf wsX12_sumOf) := goodIn_app (goodIn_of _ (by decide +kernel)) ggX12_heard_X12_sumOf
theorem dX12_heard_0 : decode cX12_heard 0 = .ok (.aload_n 0, 1) := by decide +kernel
theorem dX12_heard_1 : decode cX12_heard 1 = .ok (.iload_n 1, 1) := by decide +kernel
theorem dX12_heard_2 : decode cX12_heard 2 = .ok (.invokevirtual 353, 3) := by decide +kernel
theorem dX12_heard_5 : decode cX12_heard 5 = .ok (.ifCond .eq 37, 3) := by decide +kernel
theorem dX12_heard_8 : decode cX12_heard 8 = .ok (.aload_n 0, 1) := by decide +kernel
theorem dX12_heard_9 : decode cX12_heard 9 = .ok (.iload_n 2, 1) := by decide +kernel
theorem dX12_heard_10 : decode cX12_heard 10 = .ok (.invokevirtual 342, 3) := by decide +kernel
theorem dX12_heard_13 : decode cX12_heard 13 = .ok (.ifCond .eq 29, 3) := by decide +kernel
theorem dX12_heard_16 : decode cX12_heard 16 = .ok (.aload_n 0, 1) := by decide +kernel
theorem dX12_heard_17 : decode cX12_heard 17 = .ok (.getfield 39, 3) := by decide +kernel
theorem dX12_heard_20 : decode cX12_heard 20 = .ok (.iconst 4, 1) := by decide +kernel
theorem dX12_heard_21 : decode cX12_heard 21 = .ok (.iaload, 1) := by decide +kernel
theorem dX12_heard_22 : decode cX12_heard 22 = .ok (.iload_n 1, 1) := by decide +kernel
theorem dX12_heard_23 : decode cX12_heard 23 = .ok (.invokestatic 299, 3) := by decide +kernel
theorem dX12_heard_26 : decode cX12_heard 26 = .ok (.ifCond .eq 16, 3) := by decide +kernel
theorem dX12_heard_29 : decode cX12_heard 29 = .ok (.aload_n 0, 1) := by decide +kernel
theorem dX12_heard_30 : decode cX12_heard 30 = .ok (.aload_n 0, 1) := by decide +kernel
theorem dX12_heard_31 : decode cX12_heard 31 = .ok (.invokevirtual 333, 3) := by decide +kernel
theorem dX12_heard_34 : decode cX12_heard 34 = .ok (.iload_n 1, 1) := by decide +kernel
theorem dX12_heard_35 : decode cX12_heard 35 = .ok (.iload_n 2, 1) := by decide +kernel
theorem dX12_heard_36 : decode cX12_heard 36 = .ok (.invokevirtual 336, 3) := by decide +kernel
theorem dX12_heard_39 : decode cX12_heard 39 = .ok (.goto 6, 3) := by decide +kernel
theorem dX12_heard_42 : decode cX12_heard 42 = .ok (.ldc_w 356, 3) := by decide +kernel
theorem dX12_heard_45 : decode cX12_heard 45 = .ok (.ireturn, 1) := by decide +kernel
set_option maxRecDepth 20000 in
theorem ggX12_total_X12_totalOf : GoodIn wsX12_total wsX12_totalOf := goodIn_r _ [5, 6, 7, 8, 9, 4, 10, 11, 12, 13, 14, 15, 16, 17, 18, 19, 20, 21, 22, 23, 24, 25, 26, 27, 28, 29, 30, 31, 32, 33, 34, 35, 36, 37, 38, 39, 40, 41, 42, 43, 44, 45, 46, 47, 48, 49, 50, 51, 52, 53, 54, 55, 56, 57, 58, 59, 60, 61, 62, 63, 64, 65, 66, 67, 68, 69, 70, 71, 72, 73, 74, 75, 76, 77, 78, 79, 80, 81, 82, 83, 84, 85, 86, 87, 88, 89, 90, 91, 92, 93, 94, 95, 96, 97, 98, 99, 100, 101, 102, 103, 104, 105, 106, 107, 108, 109, 110, 111, 112, 113, 114, 115, 116] (by decide +kernel) (by decide +kernel)
set_option maxRecDepth 20000 in
theorem gX12_total_X12_totalOf : GoodIn wsX12_total (wsV RX12 357 RX12 yX12_totalOf wsX12_totalOf) := goodIn_app (goodIn_of _ (by decide +kernel)) ggX12_total_X12_totalOf
theorem dX12_total_0 : decode cX12_total 0 = .ok (.aload_n 0, 1) := by decide +kernel
theorem dX12_total_1 : decode cX12_total 1 = .ok (.invokevirtual 357, 3) := by decide +kernel
theorem dX12_total_4 : decode cX12_total 4 = .ok (.ireturn, 1) := by decide +kernel
set_option maxRecDepth 20000 in
theorem ggX12_street_X12_isTown : GoodIn wsX12_street wsX12_isTown := goodIn_r _ [7, 1, 78, 79, 80, 81, 82, 83, 84, 85, 86, 87, 88, 89, 90, 91, 92, 93, 94, 95, 96, 97, 98, 99, 100, 101, 102, 103, 104, 105, 106, 107, 108, 109, 110, 111, 112, 113, 114, 115, 116, 117, 118, 119, 120, 121] (by decide +kernel) (by decide +kernel)
set_option maxRecDepth 20000 in
theorem gX12_street_X12_isTown : GoodIn wsX12_street (wsV RX12 360 RX12 yX12_isTown wsX12_isTown) := goodIn_app (goodIn_of _ (by decide +kernel)) ggX12_street_X12_isTown
set_option maxRecDepth 20000 in
theorem ggX12_street_X12_isHour : GoodIn wsX12_street wsX12_isHour := goodIn_r _ [11, 1, 78, 79, 80, 81, 82, 83, 84, 85, 86, 87, 88, 89, 90, 91, 92, 93, 94, 95, 96, 97, 98, 99, 100, 101, 102, 103, 104, 105, 106, 107, 108, 109, 110, 111, 112, 113, 114, 115, 116, 117, 118, 119, 120, 121] (by decide +kernel) (by decide +kernel)
set_option maxRecDepth 20000 in
theorem gX12_street_X12_isHour : GoodIn wsX12_street (wsV RX12 342 RX12 yX12_isHour wsX12_isHour) := goodIn_app (goodIn_of _ (by decide +kernel)) ggX12_street_X12_isHour
set_option maxRecDepth 20000 in
theorem ggX12_street_X12_isOf : GoodIn wsX12_street wsX12_isOf := goodIn_r _ [14] (by decide +kernel) (by decide +kernel)
set_option maxRecDepth 20000 in
theorem gX12_street_X12_isOf : GoodIn wsX12_street (va_wsS RX12 299 yX12_isOf wsX12_isOf) := goodIn_app (goodIn_of _ (by decide +kernel)) ggX12_street_X12_isOf
set_option maxRecDepth 20000 in
theorem ggX12_street_X12_everybody : GoodIn wsX12_street wsX12_everybody := goodIn_r _ [18, 1, 78, 79, 80, 81, 82, 83, 84, 85, 86, 87, 88, 89, 90, 91, 92, 93, 94, 95, 96, 97, 98, 99, 100, 101, 102, 103, 104, 105, 106, 107, 108, 109, 110, 111, 112, 113, 114, 115, 116, 117, 118, 119, 120, 121] (by decide +kernel) (by decide +kernel)
set_option maxRecDepth 20000 in
theorem gX12_street_X12_everybody : GoodIn wsX12_street (wsV RX12 333 RX12 yX12_everybody wsX12_everybody) := goodIn_app (goodIn_of _ (by decide +kernel)) ggX12_street_X12_everybody
set_option maxRecDepth 20000 in
theorem ggX12_street_X12_sumOf : GoodIn wsX12_street wsX12_sumOf := goodIn_r _ [22, 1, 23, 24, 25, 6, 26, 12, 13, 14, 27, 28, 29, 30, 31, 32, 33, 34, 35, 36, 37, 38, 39, 40, 41, 42, 43, 44, 45, 46, 47, 48, 49, 50, 51, 52, 53, 54, 55, 56, 57, 58, 59, 60, 61, 62, 63, 64, 65, 66, 67, 68, 69, 70, 71, 72, 73, 74, 75, 76, 77, 78, 79, 80, 81, 82, 83, 84, 85, 86, 87, 88, 89, 90, 91, 92, 93, 94, 95, 96, 97, 98, 99, 100, 101, 102, 103, 104, 105, 106, 107, 108, 109, 110, 111, 112, 113, 114, 115, 116, 117, 118, 119, 120, 121] (by decide +kernel) (by decide +kernel)
set_option maxRecDepth 20000 in
theorem gX12_street_X12_sumOf : GoodIn wsX12_street (wsV RX12 336 RX12 yX12_sumOf wsX12_sumOf) := goodIn_app (goodIn_of _ (by decide +kernel)) ggX12_street_X12_sumOf
theorem dX12_street_0 : decode cX12_street 0 = .ok (.aload_n 0, 1) := by decide +kernel
theorem dX12_street_1 : decode cX12_street 1 = .ok (.invokevirtual 360, 3) := by decide +kernel
theorem dX12_street_4 : decode cX12_street 4 = .ok (.ifCond .eq 40, 3) := by decide +kernel
theorem dX12_street_7 : decode cX12_street 7 = .ok (.iload_n 1, 1) := by decide +kernel
theorem dX12_street_8 : decode cX12_street 8 = .ok (.ifCond .lt 36, 3) := by decide +kernel
theorem dX12_street_11 : decode cX12_street 11 = .ok (.iload_n 1, 1) := by decide +kernel
theorem dX12_street_12 : decode cX12_street 12 = .ok (.iconst 1, 1) := by decide +kernel
theorem dX12_street_13 : decode cX12_street 13 = .ok (.aload_n 0, 1) := by decide +kernel
theorem dX12_street_14 : decode cX12_street 14 = .ok (.getfield 39, 3) := by decide +kernel
theorem dX12_street_17 : decode cX12_street 17 = .ok (.iconst 0, 1) := by decide +kernel
theorem dX12_street_18 : decode cX12_street 18 = .ok (.iaload, 1) := by decide +kernel
theorem dX12_street_19 : decode cX12_street 19 = .ok (.ishl, 1) := by decide +kernel
theorem dX12_street_20 : decode cX12_street 20 = .ok (.if_icmp .ge 24, 3) := by decide +kernel
theorem dX12_street_23 : decode cX12_street 23 = .ok (.aload_n 0, 1) := by decide +kernel
theorem dX12_street_24 : decode cX12_street 24 = .ok (.iload_n 2, 1) := by decide +kernel
theorem dX12_street_25 : decode cX12_street 25 = .ok (.invokevirtual 342, 3) := by decide +kernel
theorem dX12_street_28 : decode cX12_street 28 = .ok (.ifCond .eq 16, 3) := by decide +kernel
theorem dX12_street_31 : decode cX12_street 31 = .ok (.aload_n 0, 1) := by decide +kernel
theorem dX12_street_32 : decode cX12_street 32 = .ok (.iload_n 3, 1) := by decide +kernel
theorem dX12_street_33 : decode cX12_street 33 = .ok (.invokevirtual 342, 3) := by decide +kernel
theorem dX12_street_36 : decode cX12_street 36 = .ok (.ifCond .eq 8, 3) := by decide +kernel
theorem dX12_street_39 : decode cX12_street 39 = .ok (.iload_n 3, 1) := by decide +kernel
theorem dX12_street_40 : decode cX12_street 40 = .ok (.iload_n 2, 1) := by decide +kernel
theorem dX12_street_41 : decode cX12_street 41 = .ok (.if_icmp .ge 7, 3) := by decide +kernel
theorem dX12_street_44 : decode cX12_street 44 = .ok (.ldc_w 356, 3) := by decide +kernel
theorem dX12_street_47 : decode cX12_street 47 = .ok (.ireturn, 1) := by decide +kernel
theorem dX12_street_48 : decode cX12_street 48 = .ok (.iconst 0, 1) := by decide +kernel
theorem dX12_street_49 : decode cX12_street 49 = .ok (.istore 4, 2) := by decide +kernel
theorem dX12_street_51 : decode cX12_street 51 = .ok (.iload_n 2, 1) := by decide +kernel
theorem dX12_street_52 : decode cX12_street 52 = .ok (.istore 5, 2) := by decide +kernel
theorem dX12_street_54 : decode cX12_street 54 = .ok (.iload 5, 2) := by decide +kernel
theorem dX12_street_56 : decode cX12_street 56 = .ok (.iload_n 3, 1) := by decide +kernel
theorem dX12_street_57 : decode cX12_street 57 = .ok (.if_icmp .gt 59, 3) := by decide +kernel
theorem dX12_street_60 : decode cX12_street 60 = .ok (.iconst 0, 1) := by decide +kernel
theorem dX12_street_61 : decode cX12_street 61 = .ok (.istore 6, 2) := by decide +kernel
theorem dX12_street_63 : decode cX12_street 63 = .ok (.iload 6, 2) := by decide +kernel
theorem dX12_street_65 : decode cX12_street 65 = .ok (.aload_n 0, 1) := by decide +kernel
theorem dX12_street_66 : decode cX12_street 66 = .ok (.getfield 39, 3) := by decide +kernel
theorem dX12_street_69 : decode cX12_street 69 = .ok (.iconst 0, 1) := by decide +kernel
theorem dX12_street_70 : decode cX12_street 70 = .ok (.iaload, 1) := by decide +kernel
theorem dX12_street_71 : decode cX12_street 71 = .ok (.if_icmp .ge 39, 3) := by decide +kernel
theorem dX12_street_74 : decode cX12_street 74 = .ok (.iload 4, 2) := by decide +kernel
theorem dX12_street_76 : decode cX12_street 76 = .ok (.iload_n 1, 1) := by decide +kernel
theorem dX12_street_77 : decode cX12_street 77 = .ok (.iload 6, 2) := by decide +kernel
theorem dX12_street_79 : decode cX12_street 79 = .ok (.invokestatic 299, 3) := by decide +kernel
theorem dX12_street_82 : decode cX12_street 82 = .ok (.ifCond .eq 18, 3) := by decide +kernel
theorem dX12_street_85 : decode cX12_street 85 = .ok (.aload_n 0, 1) := by decide +kernel
theorem dX12_street_86 : decode cX12_street 86 = .ok (.aload_n 0, 1) := by decide +kernel
theorem dX12_street_87 : decode cX12_street 87 = .ok (.invokevirtual 333, 3) := by decide +kernel
theorem dX12_street_90 : decode cX12_street 90 = .ok (.iload 6, 2) := by decide +kernel
theorem dX12_street_92 : decode cX12_street 92 = .ok (.iload 5, 2) := by decide +kernel
theorem dX12_street_94 : decode cX12_street 94 = .ok (.invokevirtual 336, 3) := by decide +kernel
theorem dX12_street_97 : decode cX12_street 97 = .ok (.goto 4, 3) := by decide +kernel
theorem dX12_street_100 : decode cX12_street 100 = .ok (.iconst 0, 1) := by decide +kernel
theorem dX12_street_101 : decode cX12_street 101 = .ok (.iadd, 1) := by decide +kernel
theorem dX12_street_102 : decode cX12_street 102 = .ok (.istore 4, 2) := by decide +kernel
theorem dX12_street_104 : decode cX12_street 104 = .ok (.iinc 6 1, 3) := by decide +kernel
theorem dX12_street_107 : decode cX12_street 107 = .ok (.goto (-44), 3) := by decide +kernel
theorem dX12_street_110 : decode cX12_street 110 = .ok (.iinc 5 1, 3) := by decide +kernel
theorem dX12_street_113 : decode cX12_street 113 = .ok (.goto (-59), 3) := by decide +kernel
theorem dX12_street_116 : decode cX12_street 116 = .ok (.iload 4, 2) := by decide +kernel
theorem dX12_street_118 : decode cX12_street 118 = .ok (.ireturn, 1) := by decide +kernel
set_option maxRecDepth 20000 in
theorem ggX12_busy_X12_isTown : GoodIn wsX12_busy wsX12_isTown := goodIn_r _ [6, 1, 76, 77, 78, 79, 80, 81, 82, 83, 84, 85, 86, 87, 88, 89, 90, 91, 92, 93, 94, 95, 96, 97, 98, 99, 100, 101, 102, 103, 104, 105, 106, 107, 108, 109, 110, 111, 112, 113, 114, 115, 116, 117, 118, 119] (by decide +kernel) (by decide +kernel)
set_option maxRecDepth 20000 in
theorem gX12_busy_X12_isTown : GoodIn wsX12_busy (wsV RX12 360 RX12 yX12_isTown wsX12_isTown) := goodIn_app (goodIn_of _ (by decide +kernel)) ggX12_busy_X12_isTown
set_option maxRecDepth 20000 in
theorem ggX12_busy_X12_in : GoodIn wsX12_busy wsX12_in := goodIn_r _ [9] (by decide +kernel) (by decide +kernel)
set_option maxRecDepth 20000 in
theorem gX12_busy_X12_in : GoodIn wsX12_busy (va_wsS RX12 127 yX12_in wsX12_in) := goodIn_app (goodIn_of _ (by decide +kernel)) ggX12_busy_X12_in
set_option maxRecDepth 20000 in
theorem ggX12_busy_X12_everybody : GoodIn wsX12_busy wsX12_everybody := goodIn_r _ [13, 1, 76, 77, 78, 79, 80, 81, 82, 83, 84, 85, 86, 87, 88, 89, 90, 91, 92, 93, 94, 95, 96, 97, 98, 99, 100, 101, 102, 103, 104, 105, 106, 107, 108, 109, 110, 111, 112, 113, 114, 115, 116, 117, 118, 119] (by decide +kernel) (by decide +kernel)
set_option maxRecDepth 20000 in
theorem gX12_busy_X12_everybody : GoodIn wsX12_busy (wsV RX12 333 RX12 yX12_everybody wsX12_everybody) := goodIn_app (goodIn_of _ (by decide +kernel)) ggX12_busy_X12_everybody
set_option maxRecDepth 20000 in
theorem ggX12_busy_X12_sumOf : GoodIn wsX12_busy wsX12_sumOf := goodIn_r _ [17, 1, 18, 19, 20, 5, 21, 22, 23, 24, 25, 26, 27, 28, 29, 30, 31, 32, 33, 34, 35, 36, 37, 38, 39, 40, 41, 42, 43, 44, 45, 46, 47, 48, 49, 50, 51, 52, 53, 54, 55, 56, 57, 58, 59, 60, 61, 62, 63, 64, 65, 66, 67, 68, 69, 70, 71, 72, 73, 74, 75, 76, 77, 78, 79, 80, 81, 82, 83, 84, 85, 86, 87, 88, 89, 90, 91, 92, 93, 94, 95, 96, 97, 98, 99, 100, 101, 102, 103, 104, 105, 106, 107, 108, 109, 110, 111, 112, 113, 114, 115, 116, 117, 118, 119] (by decide +kernel) (by decide +kernel)
set_option maxRecDepth 20000 in
theorem gX12_busy_X12_sumOf : GoodIn wsX12_busy (wsV RX12 336 RX12 yX12_sumOf wsX12_sumOf) := goodIn_app (goodIn_of _ (by decide +kernel)) ggX12_busy_X12_sumOf
theorem dX12_busy_0 : decode cX12_busy 0 = .ok (.aload_n 0, 1) := by decide +kernel
theorem dX12_busy_1 : decode cX12_busy 1 = .ok (.invokevirtual 360, 3) := by decide +kernel
theorem dX12_busy_4 : decode cX12_busy 4 = .ok (.ifCond .eq 13, 3) := by decide +kernel
theorem dX12_busy_7 : decode cX12_busy 7 = .ok (.iload_n 1, 1) := by decide +kernel
theorem dX12_busy_8 : decode cX12_busy 8 = .ok (.i2l, 1) := by decide +kernel
theorem dX12_busy_9 : decode cX12_busy 9 = .ok (.lconst 0, 1) := by decide +kernel
theorem dX12_busy_10 : decode cX12_busy 10 = .ok (.lconst 1, 1) := by decide +kernel
theorem dX12_busy_11 : decode cX12_busy 11 = .ok (.invokestatic 127, 3) := by decide +kernel
theorem dX12_busy_14 : decode cX12_busy 14 = .ok (.ifCond .ne 5, 3) := by decide +kernel
theorem dX12_busy_17 : decode cX12_busy 17 = .ok (.iconst (-1), 1) := by decide +kernel
theorem dX12_busy_18 : decode cX12_busy 18 = .ok (.ireturn, 1) := by decide +kernel
theorem dX12_busy_19 : decode cX12_busy 19 = .ok (.iconst (-1), 1) := by decide +kernel
theorem dX12_busy_20 : decode cX12_busy 20 = .ok (.istore_n 2, 1) := by decide +kernel
theorem dX12_busy_21 : decode cX12_busy 21 = .ok (.iconst 0, 1) := by decide +kernel
theorem dX12_busy_22 : decode cX12_busy 22 = .ok (.istore_n 3, 1) := by decide +kernel
theorem dX12_busy_23 : decode cX12_busy 23 = .ok (.iconst 0, 1) := by decide +kernel
theorem dX12_busy_24 : decode cX12_busy 24 = .ok (.istore 4, 2) := by decide +kernel
theorem dX12_busy_26 : decode cX12_busy 26 = .ok (.iload 4, 2) := by decide +kernel
theorem dX12_busy_28 : decode cX12_busy 28 = .ok (.aload_n 0, 1) := by decide +kernel
theorem dX12_busy_29 : decode cX12_busy 29 = .ok (.getfield 39, 3) := by decide +kernel
theorem dX12_busy_32 : decode cX12_busy 32 = .ok (.iconst 1, 1) := by decide +kernel
theorem dX12_busy_33 : decode cX12_busy 33 = .ok (.iaload, 1) := by decide +kernel
theorem dX12_busy_34 : decode cX12_busy 34 = .ok (.if_icmp .ge 68, 3) := by decide +kernel
theorem dX12_busy_37 : decode cX12_busy 37 = .ok (.iconst 0, 1) := by decide +kernel
theorem dX12_busy_38 : decode cX12_busy 38 = .ok (.istore 5, 2) := by decide +kernel
theorem dX12_busy_40 : decode cX12_busy 40 = .ok (.iload 5, 2) := by decide +kernel
theorem dX12_busy_42 : decode cX12_busy 42 = .ok (.aload_n 0, 1) := by decide +kernel
theorem dX12_busy_43 : decode cX12_busy 43 = .ok (.getfield 39, 3) := by decide +kernel
theorem dX12_busy_46 : decode cX12_busy 46 = .ok (.iconst 0, 1) := by decide +kernel
theorem dX12_busy_47 : decode cX12_busy 47 = .ok (.iaload, 1) := by decide +kernel
theorem dX12_busy_48 : decode cX12_busy 48 = .ok (.if_icmp .ge 48, 3) := by decide +kernel
theorem dX12_busy_51 : decode cX12_busy 51 = .ok (.aload_n 0, 1) := by decide +kernel
theorem dX12_busy_52 : decode cX12_busy 52 = .ok (.aload_n 0, 1) := by decide +kernel
theorem dX12_busy_53 : decode cX12_busy 53 = .ok (.invokevirtual 333, 3) := by decide +kernel
theorem dX12_busy_56 : decode cX12_busy 56 = .ok (.iload 5, 2) := by decide +kernel
theorem dX12_busy_58 : decode cX12_busy 58 = .ok (.iload 4, 2) := by decide +kernel
theorem dX12_busy_60 : decode cX12_busy 60 = .ok (.invokevirtual 336, 3) := by decide +kernel
theorem dX12_busy_63 : decode cX12_busy 63 = .ok (.istore 6, 2) := by decide +kernel
theorem dX12_busy_65 : decode cX12_busy 65 = .ok (.iload_n 2, 1) := by decide +kernel
theorem dX12_busy_66 : decode cX12_busy 66 = .ok (.ifCond .lt 12, 3) := by decide +kernel
theorem dX12_busy_69 : decode cX12_busy 69 = .ok (.iload 6, 2) := by decide +kernel
theorem dX12_busy_71 : decode cX12_busy 71 = .ok (.iload_n 3, 1) := by decide +kernel
theorem dX12_busy_72 : decode cX12_busy 72 = .ok (.if_icmp .gt 6, 3) := by decide +kernel
theorem dX12_busy_75 : decode cX12_busy 75 = .ok (.goto 15, 3) := by decide +kernel
theorem dX12_busy_78 : decode cX12_busy 78 = .ok (.bipush 6, 2) := by decide +kernel
theorem dX12_busy_80 : decode cX12_busy 80 = .ok (.iload 4, 2) := by decide +kernel
theorem dX12_busy_82 : decode cX12_busy 82 = .ok (.imul, 1) := by decide +kernel
theorem dX12_busy_83 : decode cX12_busy 83 = .ok (.iload 5, 2) := by decide +kernel
theorem dX12_busy_85 : decode cX12_busy 85 = .ok (.iadd, 1) := by decide +kernel
theorem dX12_busy_86 : decode cX12_busy 86 = .ok (.istore_n 2, 1) := by decide +kernel
theorem dX12_busy_87 : decode cX12_busy 87 = .ok (.iload 6, 2) := by decide +kernel
theorem dX12_busy_89 : decode cX12_busy 89 = .ok (.istore_n 3, 1) := by decide +kernel
theorem dX12_busy_90 : decode cX12_busy 90 = .ok (.iinc 5 1, 3) := by decide +kernel
theorem dX12_busy_93 : decode cX12_busy 93 = .ok (.goto (-53), 3) := by decide +kernel
theorem dX12_busy_96 : decode cX12_busy 96 = .ok (.iinc 4 1, 3) := by decide +kernel
theorem dX12_busy_99 : decode cX12_busy 99 = .ok (.goto (-73), 3) := by decide +kernel
theorem dX12_busy_102 : decode cX12_busy 102 = .ok (.iload_n 1, 1) := by decide +kernel
theorem dX12_busy_103 : decode cX12_busy 103 = .ok (.ifCond .ne 10, 3) := by decide +kernel
theorem dX12_busy_106 : decode cX12_busy 106 = .ok (.iload_n 2, 1) := by decide +kernel
theorem dX12_busy_107 : decode cX12_busy 107 = .ok (.bipush 6, 2) := by decide +kernel
theorem dX12_busy_109 : decode cX12_busy 109 = .ok (.irem, 1) := by decide +kernel
theorem dX12_busy_110 : decode cX12_busy 110 = .ok (.goto 7, 3) := by decide +kernel
theorem dX12_busy_113 : decode cX12_busy 113 = .ok (.iload_n 2, 1) := by decide +kernel
theorem dX12_busy_114 : decode cX12_busy 114 = .ok (.bipush 6, 2) := by decide +kernel
theorem dX12_busy_116 : decode cX12_busy 116 = .ok (.idiv, 1) := by decide +kernel
theorem dX12_busy_117 : decode cX12_busy 117 = .ok (.ireturn, 1) := by decide +kernel
theorem dX12_keepsAct_0 : decode cX12_keepsAct 0 = .ok (.aload_n 0, 1) := by decide +kernel
theorem dX12_keepsAct_1 : decode cX12_keepsAct 1 = .ok (.getfield 273, 3) := by decide +kernel
theorem dX12_keepsAct_4 : decode cX12_keepsAct 4 = .ok (.bipush 20, 2) := by decide +kernel
theorem dX12_keepsAct_6 : decode cX12_keepsAct 6 = .ok (.if_icmp .ne 46, 3) := by decide +kernel
theorem dX12_keepsAct_9 : decode cX12_keepsAct 9 = .ok (.sipush 170, 3) := by decide +kernel
theorem dX12_keepsAct_12 : decode cX12_keepsAct 12 = .ok (.istore_n 1, 1) := by decide +kernel
theorem dX12_keepsAct_13 : decode cX12_keepsAct 13 = .ok (.iload_n 1, 1) := by decide +kernel
theorem dX12_keepsAct_14 : decode cX12_keepsAct 14 = .ok (.sipush 3400, 3) := by decide +kernel
theorem dX12_keepsAct_17 : decode cX12_keepsAct 17 = .ok (.if_icmp .ge 25, 3) := by decide +kernel
theorem dX12_keepsAct_20 : decode cX12_keepsAct 20 = .ok (.aload_n 0, 1) := by decide +kernel
theorem dX12_keepsAct_21 : decode cX12_keepsAct 21 = .ok (.getfield 46, 3) := by decide +kernel
theorem dX12_keepsAct_24 : decode cX12_keepsAct 24 = .ok (.iload_n 1, 1) := by decide +kernel
theorem dX12_keepsAct_25 : decode cX12_keepsAct 25 = .ok (.sipush 170, 3) := by decide +kernel
theorem dX12_keepsAct_28 : decode cX12_keepsAct 28 = .ok (.isub, 1) := by decide +kernel
theorem dX12_keepsAct_29 : decode cX12_keepsAct 29 = .ok (.aload_n 0, 1) := by decide +kernel
theorem dX12_keepsAct_30 : decode cX12_keepsAct 30 = .ok (.getfield 46, 3) := by decide +kernel
theorem dX12_keepsAct_33 : decode cX12_keepsAct 33 = .ok (.iload_n 1, 1) := by decide +kernel
theorem dX12_keepsAct_34 : decode cX12_keepsAct 34 = .ok (.iaload, 1) := by decide +kernel
theorem dX12_keepsAct_35 : decode cX12_keepsAct 35 = .ok (.iastore, 1) := by decide +kernel
theorem dX12_keepsAct_36 : decode cX12_keepsAct 36 = .ok (.iinc 1 1, 3) := by decide +kernel
theorem dX12_keepsAct_39 : decode cX12_keepsAct 39 = .ok (.goto (-26), 3) := by decide +kernel
theorem dX12_keepsAct_42 : decode cX12_keepsAct 42 = .ok (.aload_n 0, 1) := by decide +kernel
theorem dX12_keepsAct_43 : decode cX12_keepsAct 43 = .ok (.dup, 1) := by decide +kernel
theorem dX12_keepsAct_44 : decode cX12_keepsAct 44 = .ok (.getfield 273, 3) := by decide +kernel
theorem dX12_keepsAct_47 : decode cX12_keepsAct 47 = .ok (.iconst 1, 1) := by decide +kernel
theorem dX12_keepsAct_48 : decode cX12_keepsAct 48 = .ok (.isub, 1) := by decide +kernel
theorem dX12_keepsAct_49 : decode cX12_keepsAct 49 = .ok (.putfield 273, 3) := by decide +kernel
theorem dX12_keepsAct_52 : decode cX12_keepsAct 52 = .ok (.iconst 0, 1) := by decide +kernel
theorem dX12_keepsAct_53 : decode cX12_keepsAct 53 = .ok (.istore_n 1, 1) := by decide +kernel
theorem dX12_keepsAct_54 : decode cX12_keepsAct 54 = .ok (.iload_n 1, 1) := by decide +kernel
theorem dX12_keepsAct_55 : decode cX12_keepsAct 55 = .ok (.sipush 170, 3) := by decide +kernel
theorem dX12_keepsAct_58 : decode cX12_keepsAct 58 = .ok (.if_icmp .ge 30, 3) := by decide +kernel
theorem dX12_keepsAct_61 : decode cX12_keepsAct 61 = .ok (.aload_n 0, 1) := by decide +kernel
theorem dX12_keepsAct_62 : decode cX12_keepsAct 62 = .ok (.getfield 46, 3) := by decide +kernel
theorem dX12_keepsAct_65 : decode cX12_keepsAct 65 = .ok (.sipush 170, 3) := by decide +kernel
theorem dX12_keepsAct_68 : decode cX12_keepsAct 68 = .ok (.aload_n 0, 1) := by decide +kernel
theorem dX12_keepsAct_69 : decode cX12_keepsAct 69 = .ok (.getfield 273, 3) := by decide +kernel
theorem dX12_keepsAct_72 : decode cX12_keepsAct 72 = .ok (.imul, 1) := by decide +kernel
theorem dX12_keepsAct_73 : decode cX12_keepsAct 73 = .ok (.iload_n 1, 1) := by decide +kernel
theorem dX12_keepsAct_74 : decode cX12_keepsAct 74 = .ok (.iadd, 1) := by decide +kernel
theorem dX12_keepsAct_75 : decode cX12_keepsAct 75 = .ok (.aload_n 0, 1) := by decide +kernel
theorem dX12_keepsAct_76 : decode cX12_keepsAct 76 = .ok (.getfield 39, 3) := by decide +kernel
theorem dX12_keepsAct_79 : decode cX12_keepsAct 79 = .ok (.iload_n 1, 1) := by decide +kernel
theorem dX12_keepsAct_80 : decode cX12_keepsAct 80 = .ok (.iaload, 1) := by decide +kernel
theorem dX12_keepsAct_81 : decode cX12_keepsAct 81 = .ok (.iastore, 1) := by decide +kernel
theorem dX12_keepsAct_82 : decode cX12_keepsAct 82 = .ok (.iinc 1 1, 3) := by decide +kernel
theorem dX12_keepsAct_85 : decode cX12_keepsAct 85 = .ok (.goto (-31), 3) := by decide +kernel
theorem dX12_keepsAct_88 : decode cX12_keepsAct 88 = .ok (.aload_n 0, 1) := by decide +kernel
theorem dX12_keepsAct_89 : decode cX12_keepsAct 89 = .ok (.dup, 1) := by decide +kernel
theorem dX12_keepsAct_90 : decode cX12_keepsAct 90 = .ok (.getfield 273, 3) := by decide +kernel
theorem dX12_keepsAct_93 : decode cX12_keepsAct 93 = .ok (.iconst 1, 1) := by decide +kernel
theorem dX12_keepsAct_94 : decode cX12_keepsAct 94 = .ok (.iadd, 1) := by decide +kernel
theorem dX12_keepsAct_95 : decode cX12_keepsAct 95 = .ok (.putfield 273, 3) := by decide +kernel
theorem dX12_keepsAct_98 : decode cX12_keepsAct 98 = .ok (.return_, 1) := by decide +kernel
theorem dX12_undo_0 : decode cX12_undo 0 = .ok (.aload_n 0, 1) := by decide +kernel
theorem dX12_undo_1 : decode cX12_undo 1 = .ok (.getfield 273, 3) := by decide +kernel
theorem dX12_undo_4 : decode cX12_undo 4 = .ok (.ifCond .ne 6, 3) := by decide +kernel
theorem dX12_undo_7 : decode cX12_undo 7 = .ok (.bipush (-2), 2) := by decide +kernel
theorem dX12_undo_9 : decode cX12_undo 9 = .ok (.ireturn, 1) := by decide +kernel
theorem dX12_undo_10 : decode cX12_undo 10 = .ok (.aload_n 0, 1) := by decide +kernel
theorem dX12_undo_11 : decode cX12_undo 11 = .ok (.dup, 1) := by decide +kernel
theorem dX12_undo_12 : decode cX12_undo 12 = .ok (.getfield 273, 3) := by decide +kernel
theorem dX12_undo_15 : decode cX12_undo 15 = .ok (.iconst 1, 1) := by decide +kernel
theorem dX12_undo_16 : decode cX12_undo 16 = .ok (.isub, 1) := by decide +kernel
theorem dX12_undo_17 : decode cX12_undo 17 = .ok (.putfield 273, 3) := by decide +kernel
theorem dX12_undo_20 : decode cX12_undo 20 = .ok (.iconst 0, 1) := by decide +kernel
theorem dX12_undo_21 : decode cX12_undo 21 = .ok (.istore_n 1, 1) := by decide +kernel
theorem dX12_undo_22 : decode cX12_undo 22 = .ok (.iload_n 1, 1) := by decide +kernel
theorem dX12_undo_23 : decode cX12_undo 23 = .ok (.sipush 170, 3) := by decide +kernel
theorem dX12_undo_26 : decode cX12_undo 26 = .ok (.if_icmp .ge 30, 3) := by decide +kernel
theorem dX12_undo_29 : decode cX12_undo 29 = .ok (.aload_n 0, 1) := by decide +kernel
theorem dX12_undo_30 : decode cX12_undo 30 = .ok (.getfield 39, 3) := by decide +kernel
theorem dX12_undo_33 : decode cX12_undo 33 = .ok (.iload_n 1, 1) := by decide +kernel
theorem dX12_undo_34 : decode cX12_undo 34 = .ok (.aload_n 0, 1) := by decide +kernel
theorem dX12_undo_35 : decode cX12_undo 35 = .ok (.getfield 46, 3) := by decide +kernel
theorem dX12_undo_38 : decode cX12_undo 38 = .ok (.sipush 170, 3) := by decide +kernel
theorem dX12_undo_41 : decode cX12_undo 41 = .ok (.aload_n 0, 1) := by decide +kernel
theorem dX12_undo_42 : decode cX12_undo 42 = .ok (.getfield 273, 3) := by decide +kernel
theorem dX12_undo_45 : decode cX12_undo 45 = .ok (.imul, 1) := by decide +kernel
theorem dX12_undo_46 : decode cX12_undo 46 = .ok (.iload_n 1, 1) := by decide +kernel
theorem dX12_undo_47 : decode cX12_undo 47 = .ok (.iadd, 1) := by decide +kernel
theorem dX12_undo_48 : decode cX12_undo 48 = .ok (.iaload, 1) := by decide +kernel
theorem dX12_undo_49 : decode cX12_undo 49 = .ok (.iastore, 1) := by decide +kernel
theorem dX12_undo_50 : decode cX12_undo 50 = .ok (.iinc 1 1, 3) := by decide +kernel
theorem dX12_undo_53 : decode cX12_undo 53 = .ok (.goto (-31), 3) := by decide +kernel
theorem dX12_undo_56 : decode cX12_undo 56 = .ok (.aload_n 0, 1) := by decide +kernel
theorem dX12_undo_57 : decode cX12_undo 57 = .ok (.getfield 273, 3) := by decide +kernel
theorem dX12_undo_60 : decode cX12_undo 60 = .ok (.ireturn, 1) := by decide +kernel
set_option maxRecDepth 20000 in
theorem ggX12_go_X12_isPerson : GoodIn wsX12_go wsX12_isPerson := goodIn_r _ [7, 2, 92, 93, 94, 95, 96, 97, 98, 99, 100, 101, 102, 103, 104, 105, 106, 107, 108, 109, 110, 111, 112, 113, 114, 115, 116, 117, 118, 119, 120, 121, 122, 123, 124, 125, 126, 127, 128, 129, 130, 131, 132, 133, 134, 135] (by decide +kernel) (by decide +kernel)
set_option maxRecDepth 20000 in
theorem gX12_go_X12_isPerson : GoodIn wsX12_go (wsV RX12 339 RX12 yX12_isPerson wsX12_isPerson) := goodIn_app (goodIn_of _ (by decide +kernel)) ggX12_go_X12_isPerson
set_option maxRecDepth 20000 in
theorem ggX12_go_X12_isHour : GoodIn wsX12_go wsX12_isHour := goodIn_r _ [11, 2, 92, 93, 94, 95, 96, 97, 98, 99, 100, 101, 102, 103, 104, 105, 106, 107, 108, 109, 110, 111, 112, 113, 114, 115, 116, 117, 118, 119, 120, 121, 122, 123, 124, 125, 126, 127, 128, 129, 130, 131, 132, 133, 134, 135] (by decide +kernel) (by decide +kernel)
set_option maxRecDepth 20000 in
theorem gX12_go_X12_isHour : GoodIn wsX12_go (wsV RX12 342 RX12 yX12_isHour wsX12_isHour) := goodIn_app (goodIn_of _ (by decide +kernel)) ggX12_go_X12_isHour
set_option maxRecDepth 20000 in
theorem ggX12_go_X12_isGate : GoodIn wsX12_go wsX12_isGate := goodIn_r _ [15, 2, 92, 93, 94, 95, 96, 97, 98, 99, 100, 101, 102, 103, 104, 105, 106, 107, 108, 109, 110, 111, 112, 113, 114, 115, 116, 117, 118, 119, 120, 121, 122, 123, 124, 125, 126, 127, 128, 129, 130, 131, 132, 133, 134, 135] (by decide +kernel) (by decide +kernel)
set_option maxRecDepth 20000 in
theorem gX12_go_X12_isGate : GoodIn wsX12_go (wsV RX12 353 RX12 yX12_isGate wsX12_isGate) := goodIn_app (goodIn_of _ (by decide +kernel)) ggX12_go_X12_isGate
set_option maxRecDepth 20000 in
theorem ggX12_go_X12_placeOf : GoodIn wsX12_go wsX12_placeOf := goodIn_r _ [19, 2, 92, 93, 94, 95, 96, 97, 98, 99, 100, 101, 102, 103, 104, 105, 106, 107, 108, 109, 110, 111, 112, 113, 114, 115, 116, 117, 118, 119, 120, 121, 122, 123, 124, 125, 126, 127, 128, 129, 130, 131, 132, 133, 134, 135] (by decide +kernel) (by decide +kernel)
set_option maxRecDepth 20000 in
theorem gX12_go_X12_placeOf : GoodIn wsX12_go (wsV RX12 291 RX12 yX12_placeOf wsX12_placeOf) := goodIn_app (goodIn_of _ (by decide +kernel)) ggX12_go_X12_placeOf
set_option maxRecDepth 20000 in
theorem ggX12_go_X12_keepsAct : GoodIn wsX12_go wsX12_keepsAct := goodIn_r _ [23, 24, 25, 2, 92, 93, 94, 95, 96, 97, 98, 99, 100, 101, 102, 103, 104, 105, 106, 107, 108, 109, 110, 111, 112, 113, 114, 115, 116, 117, 118, 119, 120, 121, 122, 123, 124, 125, 126, 127, 128, 129, 130, 131, 132, 133, 134, 135] (by decide +kernel) (by decide +kernel)
set_option maxRecDepth 20000 in
theorem gX12_go_X12_keepsAct : GoodIn wsX12_go (wsV RX12 363 RX12 yX12_keepsAct wsX12_keepsAct) := goodIn_app (goodIn_of _ (by decide +kernel)) ggX12_go_X12_keepsAct
set_option maxRecDepth 20000 in
theorem ggX12_go_X12_totalOf : GoodIn wsX12_go wsX12_totalOf := goodIn_r _ [29, 2, 30, 31, 32, 6, 33, 34, 35, 36, 37, 38, 39, 40, 41, 42, 43, 44, 16, 17, 18, 19, 45, 46, 47, 48, 49, 50, 51, 52, 53, 54, 55, 56, 57, 58, 59, 60, 61, 62, 63, 64, 65, 66, 67, 68, 69, 70, 71, 72, 73, 74, 75, 76, 77, 78, 79, 80, 81, 82, 83, 84, 85, 86, 87, 88, 89, 90, 91, 92, 93, 94, 95, 96, 97, 98, 99, 100, 101, 102, 103, 104, 105, 106, 107, 108, 109, 110, 111, 112, 113, 114, 115, 116, 117, 118, 119, 120, 121, 122, 123, 124, 125, 126, 127, 128, 129, 130, 131, 132, 133, 134, 135] (by decide +kernel) (by decide +kernel)
set_option maxRecDepth 20000 in
theorem gX12_go_X12_totalOf : GoodIn wsX12_go (wsV RX12 357 RX12 yX12_totalOf wsX12_totalOf) := goodIn_app (goodIn_of _ (by decide +kernel)) ggX12_go_X12_totalOf
theorem dX12_go_0 : decode cX12_go 0 = .ok (.aload_n 0, 1) := by decide +kernel
theorem dX12_go_1 : decode cX12_go 1 = .ok (.iload_n 1, 1) := by decide +kernel
theorem dX12_go_2 : decode cX12_go 2 = .ok (.invokevirtual 339, 3) := by decide +kernel
theorem dX12_go_5 : decode cX12_go 5 = .ok (.ifCond .eq 35, 3) := by decide +kernel
theorem dX12_go_8 : decode cX12_go 8 = .ok (.aload_n 0, 1) := by decide +kernel
theorem dX12_go_9 : decode cX12_go 9 = .ok (.iload_n 2, 1) := by decide +kernel
theorem dX12_go_10 : decode cX12_go 10 = .ok (.invokevirtual 342, 3) := by decide +kernel
theorem dX12_go_13 : decode cX12_go 13 = .ok (.ifCond .eq 27, 3) := by decide +kernel
theorem dX12_go_16 : decode cX12_go 16 = .ok (.iload_n 3, 1) := by decide +kernel
theorem dX12_go_17 : decode cX12_go 17 = .ok (.bipush 99, 2) := by decide +kernel
theorem dX12_go_19 : decode cX12_go 19 = .ok (.if_icmp .eq 11, 3) := by decide +kernel
theorem dX12_go_22 : decode cX12_go 22 = .ok (.aload_n 0, 1) := by decide +kernel
theorem dX12_go_23 : decode cX12_go 23 = .ok (.iload_n 3, 1) := by decide +kernel
theorem dX12_go_24 : decode cX12_go 24 = .ok (.invokevirtual 353, 3) := by decide +kernel
theorem dX12_go_27 : decode cX12_go 27 = .ok (.ifCond .eq 13, 3) := by decide +kernel
theorem dX12_go_30 : decode cX12_go 30 = .ok (.aload_n 0, 1) := by decide +kernel
theorem dX12_go_31 : decode cX12_go 31 = .ok (.iload_n 1, 1) := by decide +kernel
theorem dX12_go_32 : decode cX12_go 32 = .ok (.iload_n 2, 1) := by decide +kernel
theorem dX12_go_33 : decode cX12_go 33 = .ok (.invokevirtual 291, 3) := by decide +kernel
theorem dX12_go_36 : decode cX12_go 36 = .ok (.iload_n 3, 1) := by decide +kernel
theorem dX12_go_37 : decode cX12_go 37 = .ok (.if_icmp .ne 7, 3) := by decide +kernel
theorem dX12_go_40 : decode cX12_go 40 = .ok (.ldc_w 356, 3) := by decide +kernel
theorem dX12_go_43 : decode cX12_go 43 = .ok (.ireturn, 1) := by decide +kernel
theorem dX12_go_44 : decode cX12_go 44 = .ok (.aload_n 0, 1) := by decide +kernel
theorem dX12_go_45 : decode cX12_go 45 = .ok (.invokevirtual 363, 3) := by decide +kernel
theorem dX12_go_48 : decode cX12_go 48 = .ok (.aload_n 0, 1) := by decide +kernel
theorem dX12_go_49 : decode cX12_go 49 = .ok (.getfield 39, 3) := by decide +kernel
theorem dX12_go_52 : decode cX12_go 52 = .ok (.bipush 10, 2) := by decide +kernel
theorem dX12_go_54 : decode cX12_go 54 = .ok (.bipush 12, 2) := by decide +kernel
theorem dX12_go_56 : decode cX12_go 56 = .ok (.iload_n 1, 1) := by decide +kernel
theorem dX12_go_57 : decode cX12_go 57 = .ok (.imul, 1) := by decide +kernel
theorem dX12_go_58 : decode cX12_go 58 = .ok (.iadd, 1) := by decide +kernel
theorem dX12_go_59 : decode cX12_go 59 = .ok (.iload_n 2, 1) := by decide +kernel
theorem dX12_go_60 : decode cX12_go 60 = .ok (.iadd, 1) := by decide +kernel
theorem dX12_go_61 : decode cX12_go 61 = .ok (.iload_n 3, 1) := by decide +kernel
theorem dX12_go_62 : decode cX12_go 62 = .ok (.iastore, 1) := by decide +kernel
theorem dX12_go_63 : decode cX12_go 63 = .ok (.aload_n 0, 1) := by decide +kernel
theorem dX12_go_64 : decode cX12_go 64 = .ok (.invokevirtual 357, 3) := by decide +kernel
theorem dX12_go_67 : decode cX12_go 67 = .ok (.ireturn, 1) := by decide +kernel
set_option maxRecDepth 20000 in
theorem ggX12_glove_X12_isPerson : GoodIn wsX12_glove wsX12_isPerson := goodIn_r _ [6, 1, 17, 18, 19, 20, 21, 22, 23, 24, 25, 26, 27, 28, 29, 30, 31, 32, 33, 34, 35, 36, 37, 38, 39, 40, 41, 42, 43, 44, 45, 46, 47, 48, 49, 50, 51, 52, 53, 54, 55, 56, 57, 58, 59, 60] (by decide +kernel) (by decide +kernel)
set_option maxRecDepth 20000 in
theorem gX12_glove_X12_isPerson : GoodIn wsX12_glove (wsV RX12 339 RX12 yX12_isPerson wsX12_isPerson) := goodIn_app (goodIn_of _ (by decide +kernel)) ggX12_glove_X12_isPerson
set_option maxRecDepth 20000 in
theorem ggX12_glove_X12_personOf : GoodIn wsX12_glove wsX12_personOf := goodIn_r _ [10, 1, 17, 18, 19, 20, 21, 22, 23, 24, 25, 26, 27, 28, 29, 30, 31, 32, 33, 34, 35, 36, 37, 38, 39, 40, 41, 42, 43, 44, 45, 46, 47, 48, 49, 50, 51, 52, 53, 54, 55, 56, 57, 58, 59, 60] (by decide +kernel) (by decide +kernel)
set_option maxRecDepth 20000 in
theorem gX12_glove_X12_personOf : GoodIn wsX12_glove (wsV RX12 305 RX12 yX12_personOf wsX12_personOf) := goodIn_app (goodIn_of _ (by decide +kernel)) ggX12_glove_X12_personOf
set_option maxRecDepth 20000 in
theorem ggX12_glove_X12_keepsAct : GoodIn wsX12_glove wsX12_keepsAct := goodIn_r _ [14, 15, 16, 1, 17, 18, 19, 20, 21, 22, 23, 24, 25, 26, 27, 28, 29, 30, 31, 32, 33, 34, 35, 36, 37, 38, 39, 40, 41, 42, 43, 44, 45, 46, 47, 48, 49, 50, 51, 52, 53, 54, 55, 56, 57, 58, 59, 60] (by decide +kernel) (by decide +kernel)
set_option maxRecDepth 20000 in
theorem gX12_glove_X12_keepsAct : GoodIn wsX12_glove (wsV RX12 363 RX12 yX12_keepsAct wsX12_keepsAct) := goodIn_app (goodIn_of _ (by decide +kernel)) ggX12_glove_X12_keepsAct
theorem dX12_glove_0 : decode cX12_glove 0 = .ok (.aload_n 0, 1) := by decide +kernel
theorem dX12_glove_1 : decode cX12_glove 1 = .ok (.iload_n 1, 1) := by decide +kernel
theorem dX12_glove_2 : decode cX12_glove 2 = .ok (.invokevirtual 339, 3) := by decide +kernel
theorem dX12_glove_5 : decode cX12_glove 5 = .ok (.ifCond .eq 22, 3) := by decide +kernel
theorem dX12_glove_8 : decode cX12_glove 8 = .ok (.aload_n 0, 1) := by decide +kernel
theorem dX12_glove_9 : decode cX12_glove 9 = .ok (.iload_n 1, 1) := by decide +kernel
theorem dX12_glove_10 : decode cX12_glove 10 = .ok (.iconst 1, 1) := by decide +kernel
theorem dX12_glove_11 : decode cX12_glove 11 = .ok (.invokevirtual 305, 3) := by decide +kernel
theorem dX12_glove_14 : decode cX12_glove 14 = .ok (.iconst 1, 1) := by decide +kernel
theorem dX12_glove_15 : decode cX12_glove 15 = .ok (.if_icmp .ne 7, 3) := by decide +kernel
theorem dX12_glove_18 : decode cX12_glove 18 = .ok (.iconst 1, 1) := by decide +kernel
theorem dX12_glove_19 : decode cX12_glove 19 = .ok (.goto 4, 3) := by decide +kernel
theorem dX12_glove_22 : decode cX12_glove 22 = .ok (.iconst 0, 1) := by decide +kernel
theorem dX12_glove_23 : decode cX12_glove 23 = .ok (.iload_n 2, 1) := by decide +kernel
theorem dX12_glove_24 : decode cX12_glove 24 = .ok (.if_icmp .ne 5, 3) := by decide +kernel
theorem dX12_glove_27 : decode cX12_glove 27 = .ok (.iconst 0, 1) := by decide +kernel
theorem dX12_glove_28 : decode cX12_glove 28 = .ok (.ireturn, 1) := by decide +kernel
theorem dX12_glove_29 : decode cX12_glove 29 = .ok (.aload_n 0, 1) := by decide +kernel
theorem dX12_glove_30 : decode cX12_glove 30 = .ok (.invokevirtual 363, 3) := by decide +kernel
theorem dX12_glove_33 : decode cX12_glove 33 = .ok (.aload_n 0, 1) := by decide +kernel
theorem dX12_glove_34 : decode cX12_glove 34 = .ok (.getfield 39, 3) := by decide +kernel
theorem dX12_glove_37 : decode cX12_glove 37 = .ok (.sipush 130, 3) := by decide +kernel
theorem dX12_glove_40 : decode cX12_glove 40 = .ok (.iconst 4, 1) := by decide +kernel
theorem dX12_glove_41 : decode cX12_glove 41 = .ok (.iload_n 1, 1) := by decide +kernel
theorem dX12_glove_42 : decode cX12_glove 42 = .ok (.imul, 1) := by decide +kernel
theorem dX12_glove_43 : decode cX12_glove 43 = .ok (.iadd, 1) := by decide +kernel
theorem dX12_glove_44 : decode cX12_glove 44 = .ok (.iconst 1, 1) := by decide +kernel
theorem dX12_glove_45 : decode cX12_glove 45 = .ok (.iadd, 1) := by decide +kernel
theorem dX12_glove_46 : decode cX12_glove 46 = .ok (.iload_n 2, 1) := by decide +kernel
theorem dX12_glove_47 : decode cX12_glove 47 = .ok (.ifCond .eq 7, 3) := by decide +kernel
theorem dX12_glove_50 : decode cX12_glove 50 = .ok (.iconst 1, 1) := by decide +kernel
theorem dX12_glove_51 : decode cX12_glove 51 = .ok (.goto 4, 3) := by decide +kernel
theorem dX12_glove_54 : decode cX12_glove 54 = .ok (.iconst 0, 1) := by decide +kernel
theorem dX12_glove_55 : decode cX12_glove 55 = .ok (.iastore, 1) := by decide +kernel
theorem dX12_glove_56 : decode cX12_glove 56 = .ok (.iconst 1, 1) := by decide +kernel
theorem dX12_glove_57 : decode cX12_glove 57 = .ok (.ireturn, 1) := by decide +kernel
set_option maxRecDepth 20000 in
theorem ggX12_counter_X12_isGate : GoodIn wsX12_counter wsX12_isGate := goodIn_r _ [6, 1, 16, 17, 18, 19, 20, 21, 22, 23, 24, 25, 26, 27, 28, 29, 30, 31, 32, 33, 34, 35, 36, 37, 38, 39, 40, 41, 42, 43, 44, 45, 46, 47, 48, 49, 50, 51, 52, 53, 54, 55, 56, 57, 58, 59] (by decide +kernel) (by decide +kernel)
set_option maxRecDepth 20000 in
theorem gX12_counter_X12_isGate : GoodIn wsX12_counter (wsV RX12 353 RX12 yX12_isGate wsX12_isGate) := goodIn_app (goodIn_of _ (by decide +kernel)) ggX12_counter_X12_isGate
set_option maxRecDepth 20000 in
theorem ggX12_counter_X12_isOf : GoodIn wsX12_counter wsX12_isOf := goodIn_r _ [9] (by decide +kernel) (by decide +kernel)
set_option maxRecDepth 20000 in
theorem gX12_counter_X12_isOf : GoodIn wsX12_counter (va_wsS RX12 299 yX12_isOf wsX12_isOf) := goodIn_app (goodIn_of _ (by decide +kernel)) ggX12_counter_X12_isOf
set_option maxRecDepth 20000 in
theorem ggX12_counter_X12_keepsAct : GoodIn wsX12_counter wsX12_keepsAct := goodIn_r _ [13, 14, 15, 1, 16, 17, 18, 19, 20, 21, 22, 23, 24, 25, 26, 27, 28, 29, 30, 31, 32, 33, 34, 35, 36, 37, 38, 39, 40, 41, 42, 43, 44, 45, 46, 47, 48, 49, 50, 51, 52, 53, 54, 55, 56, 57, 58, 59] (by decide +kernel) (by decide +kernel)
set_option maxRecDepth 20000 in
theorem gX12_counter_X12_keepsAct : GoodIn wsX12_counter (wsV RX12 363 RX12 yX12_keepsAct wsX12_keepsAct) := goodIn_app (goodIn_of _ (by decide +kernel)) ggX12_counter_X12_keepsAct
theorem dX12_counter_0 : decode cX12_counter 0 = .ok (.aload_n 0, 1) := by decide +kernel
theorem dX12_counter_1 : decode cX12_counter 1 = .ok (.iload_n 1, 1) := by decide +kernel
theorem dX12_counter_2 : decode cX12_counter 2 = .ok (.invokevirtual 353, 3) := by decide +kernel
theorem dX12_counter_5 : decode cX12_counter 5 = .ok (.ifCond .eq 17, 3) := by decide +kernel
theorem dX12_counter_8 : decode cX12_counter 8 = .ok (.aload_n 0, 1) := by decide +kernel
theorem dX12_counter_9 : decode cX12_counter 9 = .ok (.getfield 39, 3) := by decide +kernel
theorem dX12_counter_12 : decode cX12_counter 12 = .ok (.iconst 4, 1) := by decide +kernel
theorem dX12_counter_13 : decode cX12_counter 13 = .ok (.iaload, 1) := by decide +kernel
theorem dX12_counter_14 : decode cX12_counter 14 = .ok (.iload_n 1, 1) := by decide +kernel
theorem dX12_counter_15 : decode cX12_counter 15 = .ok (.invokestatic 299, 3) := by decide +kernel
theorem dX12_counter_18 : decode cX12_counter 18 = .ok (.iload_n 2, 1) := by decide +kernel
theorem dX12_counter_19 : decode cX12_counter 19 = .ok (.if_icmp .ne 5, 3) := by decide +kernel
theorem dX12_counter_22 : decode cX12_counter 22 = .ok (.iconst 0, 1) := by decide +kernel
theorem dX12_counter_23 : decode cX12_counter 23 = .ok (.ireturn, 1) := by decide +kernel
theorem dX12_counter_24 : decode cX12_counter 24 = .ok (.aload_n 0, 1) := by decide +kernel
theorem dX12_counter_25 : decode cX12_counter 25 = .ok (.invokevirtual 363, 3) := by decide +kernel
theorem dX12_counter_28 : decode cX12_counter 28 = .ok (.aload_n 0, 1) := by decide +kernel
theorem dX12_counter_29 : decode cX12_counter 29 = .ok (.getfield 39, 3) := by decide +kernel
theorem dX12_counter_32 : decode cX12_counter 32 = .ok (.iconst 4, 1) := by decide +kernel
theorem dX12_counter_33 : decode cX12_counter 33 = .ok (.dup2, 1) := by decide +kernel
theorem dX12_counter_34 : decode cX12_counter 34 = .ok (.iaload, 1) := by decide +kernel
theorem dX12_counter_35 : decode cX12_counter 35 = .ok (.iconst 1, 1) := by decide +kernel
theorem dX12_counter_36 : decode cX12_counter 36 = .ok (.iload_n 1, 1) := by decide +kernel
theorem dX12_counter_37 : decode cX12_counter 37 = .ok (.ishl, 1) := by decide +kernel
theorem dX12_counter_38 : decode cX12_counter 38 = .ok (.ixor, 1) := by decide +kernel
theorem dX12_counter_39 : decode cX12_counter 39 = .ok (.iastore, 1) := by decide +kernel
theorem dX12_counter_40 : decode cX12_counter 40 = .ok (.iconst 1, 1) := by decide +kernel
theorem dX12_counter_41 : decode cX12_counter 41 = .ok (.ireturn, 1) := by decide +kernel
set_option maxRecDepth 20000 in
theorem ggX12_night_X12_isTown : GoodIn wsX12_night wsX12_isTown := goodIn_r _ [6, 1, 13, 14, 15, 16, 17, 18, 19, 20, 21, 22, 23, 24, 25, 26, 27, 28, 29, 30, 31, 32, 33, 34, 35, 36, 37, 38, 39, 40, 41, 42, 43, 44, 45, 46, 47, 48, 49, 50, 51, 52, 53, 54, 55, 56] (by decide +kernel) (by decide +kernel)
set_option maxRecDepth 20000 in
theorem gX12_night_X12_isTown : GoodIn wsX12_night (wsV RX12 360 RX12 yX12_isTown wsX12_isTown) := goodIn_app (goodIn_of _ (by decide +kernel)) ggX12_night_X12_isTown
set_option maxRecDepth 20000 in
theorem ggX12_night_X12_keepsAct : GoodIn wsX12_night wsX12_keepsAct := goodIn_r _ [10, 11, 12, 1, 13, 14, 15, 16, 17, 18, 19, 20, 21, 22, 23, 24, 25, 26, 27, 28, 29, 30, 31, 32, 33, 34, 35, 36, 37, 38, 39, 40, 41, 42, 43, 44, 45, 46, 47, 48, 49, 50, 51, 52, 53, 54, 55, 56] (by decide +kernel) (by decide +kernel)
set_option maxRecDepth 20000 in
theorem gX12_night_X12_keepsAct : GoodIn wsX12_night (wsV RX12 363 RX12 yX12_keepsAct wsX12_keepsAct) := goodIn_app (goodIn_of _ (by decide +kernel)) ggX12_night_X12_keepsAct
theorem dX12_night_0 : decode cX12_night 0 = .ok (.aload_n 0, 1) := by decide +kernel
theorem dX12_night_1 : decode cX12_night 1 = .ok (.invokevirtual 360, 3) := by decide +kernel
theorem dX12_night_4 : decode cX12_night 4 = .ok (.ifCond .eq 15, 3) := by decide +kernel
theorem dX12_night_7 : decode cX12_night 7 = .ok (.aload_n 0, 1) := by decide +kernel
theorem dX12_night_8 : decode cX12_night 8 = .ok (.getfield 39, 3) := by decide +kernel
theorem dX12_night_11 : decode cX12_night 11 = .ok (.iconst 3, 1) := by decide +kernel
theorem dX12_night_12 : decode cX12_night 12 = .ok (.iaload, 1) := by decide +kernel
theorem dX12_night_13 : decode cX12_night 13 = .ok (.sipush 9999, 3) := by decide +kernel
theorem dX12_night_16 : decode cX12_night 16 = .ok (.if_icmp .ne 5, 3) := by decide +kernel
theorem dX12_night_19 : decode cX12_night 19 = .ok (.iconst (-1), 1) := by decide +kernel
theorem dX12_night_20 : decode cX12_night 20 = .ok (.ireturn, 1) := by decide +kernel
theorem dX12_night_21 : decode cX12_night 21 = .ok (.aload_n 0, 1) := by decide +kernel
theorem dX12_night_22 : decode cX12_night 22 = .ok (.invokevirtual 363, 3) := by decide +kernel
theorem dX12_night_25 : decode cX12_night 25 = .ok (.aload_n 0, 1) := by decide +kernel
theorem dX12_night_26 : decode cX12_night 26 = .ok (.getfield 39, 3) := by decide +kernel
theorem dX12_night_29 : decode cX12_night 29 = .ok (.iconst 3, 1) := by decide +kernel
theorem dX12_night_30 : decode cX12_night 30 = .ok (.dup2, 1) := by decide +kernel
theorem dX12_night_31 : decode cX12_night 31 = .ok (.iaload, 1) := by decide +kernel
theorem dX12_night_32 : decode cX12_night 32 = .ok (.iconst 1, 1) := by decide +kernel
theorem dX12_night_33 : decode cX12_night 33 = .ok (.iadd, 1) := by decide +kernel
theorem dX12_night_34 : decode cX12_night 34 = .ok (.iastore, 1) := by decide +kernel
theorem dX12_night_35 : decode cX12_night 35 = .ok (.aload_n 0, 1) := by decide +kernel
theorem dX12_night_36 : decode cX12_night 36 = .ok (.getfield 39, 3) := by decide +kernel
theorem dX12_night_39 : decode cX12_night 39 = .ok (.iconst 3, 1) := by decide +kernel
theorem dX12_night_40 : decode cX12_night 40 = .ok (.iaload, 1) := by decide +kernel
theorem dX12_night_41 : decode cX12_night 41 = .ok (.ireturn, 1) := by decide +kernel
set_option maxRecDepth 20000 in
theorem ggX12_told_X12_isGate : GoodIn wsX12_told wsX12_isGate := goodIn_r _ [8, 1, 16, 17, 18, 19, 20, 21, 22, 23, 24, 25, 26, 27, 28, 29, 30, 31, 32, 33, 34, 35, 36, 37, 38, 39, 40, 41, 42, 43, 44, 45, 46, 47, 48, 49, 50, 51, 52, 53, 54, 55, 56, 57, 58, 59] (by decide +kernel) (by decide +kernel)
set_option maxRecDepth 20000 in
theorem gX12_told_X12_isGate : GoodIn wsX12_told (wsV RX12 353 RX12 yX12_isGate wsX12_isGate) := goodIn_app (goodIn_of _ (by decide +kernel)) ggX12_told_X12_isGate
set_option maxRecDepth 20000 in
theorem ggX12_told_X12_isHour : GoodIn wsX12_told wsX12_isHour := goodIn_r _ [12, 1, 16, 17, 18, 19, 20, 21, 22, 23, 24, 25, 26, 27, 28, 29, 30, 31, 32, 33, 34, 35, 36, 37, 38, 39, 40, 41, 42, 43, 44, 45, 46, 47, 48, 49, 50, 51, 52, 53, 54, 55, 56, 57, 58, 59] (by decide +kernel) (by decide +kernel)
set_option maxRecDepth 20000 in
theorem gX12_told_X12_isHour : GoodIn wsX12_told (wsV RX12 342 RX12 yX12_isHour wsX12_isHour) := goodIn_app (goodIn_of _ (by decide +kernel)) ggX12_told_X12_isHour
set_option maxRecDepth 20000 in
theorem ggX12_told_X12_in : GoodIn wsX12_told wsX12_in := goodIn_r _ [15] (by decide +kernel) (by decide +kernel)
set_option maxRecDepth 20000 in
theorem gX12_told_X12_in : GoodIn wsX12_told (va_wsS RX12 127 yX12_in wsX12_in) := goodIn_app (goodIn_of _ (by decide +kernel)) ggX12_told_X12_in
theorem dX12_told_0 : decode cX12_told 0 = .ok (.iload_n 1, 1) := by decide +kernel
theorem dX12_told_1 : decode cX12_told 1 = .ok (.iconst (-1), 1) := by decide +kernel
theorem dX12_told_2 : decode cX12_told 2 = .ok (.if_icmp .ne 14, 3) := by decide +kernel
theorem dX12_told_5 : decode cX12_told 5 = .ok (.aload_n 0, 1) := by decide +kernel
theorem dX12_told_6 : decode cX12_told 6 = .ok (.getfield 39, 3) := by decide +kernel
theorem dX12_told_9 : decode cX12_told 9 = .ok (.sipush 210, 3) := by decide +kernel
theorem dX12_told_12 : decode cX12_told 12 = .ok (.iconst 0, 1) := by decide +kernel
theorem dX12_told_13 : decode cX12_told 13 = .ok (.iastore, 1) := by decide +kernel
theorem dX12_told_14 : decode cX12_told 14 = .ok (.iconst 0, 1) := by decide +kernel
theorem dX12_told_15 : decode cX12_told 15 = .ok (.ireturn, 1) := by decide +kernel
theorem dX12_told_16 : decode cX12_told 16 = .ok (.aload_n 0, 1) := by decide +kernel
theorem dX12_told_17 : decode cX12_told 17 = .ok (.iload_n 1, 1) := by decide +kernel
theorem dX12_told_18 : decode cX12_told 18 = .ok (.invokevirtual 353, 3) := by decide +kernel
theorem dX12_told_21 : decode cX12_told 21 = .ok (.ifCond .eq 38, 3) := by decide +kernel
theorem dX12_told_24 : decode cX12_told 24 = .ok (.aload_n 0, 1) := by decide +kernel
theorem dX12_told_25 : decode cX12_told 25 = .ok (.iload_n 2, 1) := by decide +kernel
theorem dX12_told_26 : decode cX12_told 26 = .ok (.invokevirtual 342, 3) := by decide +kernel
theorem dX12_told_29 : decode cX12_told 29 = .ok (.ifCond .eq 30, 3) := by decide +kernel
theorem dX12_told_32 : decode cX12_told 32 = .ok (.iload_n 3, 1) := by decide +kernel
theorem dX12_told_33 : decode cX12_told 33 = .ok (.i2l, 1) := by decide +kernel
theorem dX12_told_34 : decode cX12_told 34 = .ok (.ldc2_w 366, 3) := by decide +kernel
theorem dX12_told_37 : decode cX12_told 37 = .ok (.ldc2_w 368, 3) := by decide +kernel
theorem dX12_told_40 : decode cX12_told 40 = .ok (.invokestatic 127, 3) := by decide +kernel
theorem dX12_told_43 : decode cX12_told 43 = .ok (.ifCond .eq 16, 3) := by decide +kernel
theorem dX12_told_46 : decode cX12_told 46 = .ok (.aload_n 0, 1) := by decide +kernel
theorem dX12_told_47 : decode cX12_told 47 = .ok (.getfield 39, 3) := by decide +kernel
theorem dX12_told_50 : decode cX12_told 50 = .ok (.sipush 210, 3) := by decide +kernel
theorem dX12_told_53 : decode cX12_told 53 = .ok (.iaload, 1) := by decide +kernel
theorem dX12_told_54 : decode cX12_told 54 = .ok (.bipush 10, 2) := by decide +kernel
theorem dX12_told_56 : decode cX12_told 56 = .ok (.if_icmp .ne 6, 3) := by decide +kernel
theorem dX12_told_59 : decode cX12_told 59 = .ok (.bipush (-2), 2) := by decide +kernel
theorem dX12_told_61 : decode cX12_told 61 = .ok (.ireturn, 1) := by decide +kernel
theorem dX12_told_62 : decode cX12_told 62 = .ok (.sipush 170, 3) := by decide +kernel
theorem dX12_told_65 : decode cX12_told 65 = .ok (.iconst 3, 1) := by decide +kernel
theorem dX12_told_66 : decode cX12_told 66 = .ok (.aload_n 0, 1) := by decide +kernel
theorem dX12_told_67 : decode cX12_told 67 = .ok (.getfield 39, 3) := by decide +kernel
theorem dX12_told_70 : decode cX12_told 70 = .ok (.sipush 210, 3) := by decide +kernel
theorem dX12_told_73 : decode cX12_told 73 = .ok (.iaload, 1) := by decide +kernel
theorem dX12_told_74 : decode cX12_told 74 = .ok (.imul, 1) := by decide +kernel
theorem dX12_told_75 : decode cX12_told 75 = .ok (.iadd, 1) := by decide +kernel
theorem dX12_told_76 : decode cX12_told 76 = .ok (.istore 4, 2) := by decide +kernel
theorem dX12_told_78 : decode cX12_told 78 = .ok (.aload_n 0, 1) := by decide +kernel
theorem dX12_told_79 : decode cX12_told 79 = .ok (.getfield 39, 3) := by decide +kernel
theorem dX12_told_82 : decode cX12_told 82 = .ok (.iload 4, 2) := by decide +kernel
theorem dX12_told_84 : decode cX12_told 84 = .ok (.iload_n 1, 1) := by decide +kernel
theorem dX12_told_85 : decode cX12_told 85 = .ok (.iastore, 1) := by decide +kernel
theorem dX12_told_86 : decode cX12_told 86 = .ok (.aload_n 0, 1) := by decide +kernel
theorem dX12_told_87 : decode cX12_told 87 = .ok (.getfield 39, 3) := by decide +kernel
theorem dX12_told_90 : decode cX12_told 90 = .ok (.iload 4, 2) := by decide +kernel
theorem dX12_told_92 : decode cX12_told 92 = .ok (.iconst 1, 1) := by decide +kernel
theorem dX12_told_93 : decode cX12_told 93 = .ok (.iadd, 1) := by decide +kernel
theorem dX12_told_94 : decode cX12_told 94 = .ok (.iload_n 2, 1) := by decide +kernel
theorem dX12_told_95 : decode cX12_told 95 = .ok (.iastore, 1) := by decide +kernel
theorem dX12_told_96 : decode cX12_told 96 = .ok (.aload_n 0, 1) := by decide +kernel
theorem dX12_told_97 : decode cX12_told 97 = .ok (.getfield 39, 3) := by decide +kernel
theorem dX12_told_100 : decode cX12_told 100 = .ok (.iload 4, 2) := by decide +kernel
theorem dX12_told_102 : decode cX12_told 102 = .ok (.iconst 2, 1) := by decide +kernel
theorem dX12_told_103 : decode cX12_told 103 = .ok (.iadd, 1) := by decide +kernel
theorem dX12_told_104 : decode cX12_told 104 = .ok (.iload_n 3, 1) := by decide +kernel
theorem dX12_told_105 : decode cX12_told 105 = .ok (.iastore, 1) := by decide +kernel
theorem dX12_told_106 : decode cX12_told 106 = .ok (.aload_n 0, 1) := by decide +kernel
theorem dX12_told_107 : decode cX12_told 107 = .ok (.getfield 39, 3) := by decide +kernel
theorem dX12_told_110 : decode cX12_told 110 = .ok (.sipush 210, 3) := by decide +kernel
theorem dX12_told_113 : decode cX12_told 113 = .ok (.dup2, 1) := by decide +kernel
theorem dX12_told_114 : decode cX12_told 114 = .ok (.iaload, 1) := by decide +kernel
theorem dX12_told_115 : decode cX12_told 115 = .ok (.iconst 1, 1) := by decide +kernel
theorem dX12_told_116 : decode cX12_told 116 = .ok (.iadd, 1) := by decide +kernel
theorem dX12_told_117 : decode cX12_told 117 = .ok (.iastore, 1) := by decide +kernel
theorem dX12_told_118 : decode cX12_told 118 = .ok (.aload_n 0, 1) := by decide +kernel
theorem dX12_told_119 : decode cX12_told 119 = .ok (.getfield 39, 3) := by decide +kernel
theorem dX12_told_122 : decode cX12_told 122 = .ok (.sipush 210, 3) := by decide +kernel
theorem dX12_told_125 : decode cX12_told 125 = .ok (.iaload, 1) := by decide +kernel
theorem dX12_told_126 : decode cX12_told 126 = .ok (.ireturn, 1) := by decide +kernel
set_option maxRecDepth 20000 in
theorem ggX12_fits_X12_sumOf : GoodIn wsX12_fits wsX12_sumOf := goodIn_r _ [6, 1, 7, 8, 9, 5, 10, 11, 12, 13, 14, 15, 16, 17, 18, 19, 20, 21, 22, 23, 24, 25, 26, 27, 28, 29, 30, 31, 32, 33, 34, 35, 36, 37, 38, 39, 40, 41, 42, 43, 44, 45, 46, 47, 48, 49, 50, 51, 52, 53, 54, 55, 56, 57, 58, 59, 60, 61, 62, 63, 64, 65, 66, 67, 68, 69, 70, 71, 72, 73, 74, 75, 76, 77, 78, 79, 80, 81, 82, 83, 84, 85, 86, 87, 88, 89, 90, 91, 92, 93, 94, 95, 96, 97, 98, 99, 100, 101, 102, 103, 104, 105, 106, 107, 108] (by decide +kernel) (by decide +kernel)
set_option maxRecDepth 20000 in
theorem gX12_fits_X12_sumOf : GoodIn wsX12_fits (wsV RX12 336 RX12 yX12_sumOf wsX12_sumOf) := goodIn_app (goodIn_of _ (by decide +kernel)) ggX12_fits_X12_sumOf
theorem dX12_fits_0 : decode cX12_fits 0 = .ok (.iconst 0, 1) := by decide +kernel
theorem dX12_fits_1 : decode cX12_fits 1 = .ok (.istore_n 2, 1) := by decide +kernel
theorem dX12_fits_2 : decode cX12_fits 2 = .ok (.iload_n 2, 1) := by decide +kernel
theorem dX12_fits_3 : decode cX12_fits 3 = .ok (.aload_n 0, 1) := by decide +kernel
theorem dX12_fits_4 : decode cX12_fits 4 = .ok (.getfield 39, 3) := by decide +kernel
theorem dX12_fits_7 : decode cX12_fits 7 = .ok (.sipush 210, 3) := by decide +kernel
theorem dX12_fits_10 : decode cX12_fits 10 = .ok (.iaload, 1) := by decide +kernel
theorem dX12_fits_11 : decode cX12_fits 11 = .ok (.if_icmp .ge 49, 3) := by decide +kernel
theorem dX12_fits_14 : decode cX12_fits 14 = .ok (.sipush 170, 3) := by decide +kernel
theorem dX12_fits_17 : decode cX12_fits 17 = .ok (.iconst 3, 1) := by decide +kernel
theorem dX12_fits_18 : decode cX12_fits 18 = .ok (.iload_n 2, 1) := by decide +kernel
theorem dX12_fits_19 : decode cX12_fits 19 = .ok (.imul, 1) := by decide +kernel
theorem dX12_fits_20 : decode cX12_fits 20 = .ok (.iadd, 1) := by decide +kernel
theorem dX12_fits_21 : decode cX12_fits 21 = .ok (.istore_n 3, 1) := by decide +kernel
theorem dX12_fits_22 : decode cX12_fits 22 = .ok (.aload_n 0, 1) := by decide +kernel
theorem dX12_fits_23 : decode cX12_fits 23 = .ok (.iload_n 1, 1) := by decide +kernel
theorem dX12_fits_24 : decode cX12_fits 24 = .ok (.aload_n 0, 1) := by decide +kernel
theorem dX12_fits_25 : decode cX12_fits 25 = .ok (.getfield 39, 3) := by decide +kernel
theorem dX12_fits_28 : decode cX12_fits 28 = .ok (.iload_n 3, 1) := by decide +kernel
theorem dX12_fits_29 : decode cX12_fits 29 = .ok (.iaload, 1) := by decide +kernel
theorem dX12_fits_30 : decode cX12_fits 30 = .ok (.aload_n 0, 1) := by decide +kernel
theorem dX12_fits_31 : decode cX12_fits 31 = .ok (.getfield 39, 3) := by decide +kernel
theorem dX12_fits_34 : decode cX12_fits 34 = .ok (.iload_n 3, 1) := by decide +kernel
theorem dX12_fits_35 : decode cX12_fits 35 = .ok (.iconst 1, 1) := by decide +kernel
theorem dX12_fits_36 : decode cX12_fits 36 = .ok (.iadd, 1) := by decide +kernel
theorem dX12_fits_37 : decode cX12_fits 37 = .ok (.iaload, 1) := by decide +kernel
theorem dX12_fits_38 : decode cX12_fits 38 = .ok (.invokevirtual 336, 3) := by decide +kernel
theorem dX12_fits_41 : decode cX12_fits 41 = .ok (.aload_n 0, 1) := by decide +kernel
theorem dX12_fits_42 : decode cX12_fits 42 = .ok (.getfield 39, 3) := by decide +kernel
theorem dX12_fits_45 : decode cX12_fits 45 = .ok (.iload_n 3, 1) := by decide +kernel
theorem dX12_fits_46 : decode cX12_fits 46 = .ok (.iconst 2, 1) := by decide +kernel
theorem dX12_fits_47 : decode cX12_fits 47 = .ok (.iadd, 1) := by decide +kernel
theorem dX12_fits_48 : decode cX12_fits 48 = .ok (.iaload, 1) := by decide +kernel
theorem dX12_fits_49 : decode cX12_fits 49 = .ok (.if_icmp .eq 5, 3) := by decide +kernel
theorem dX12_fits_52 : decode cX12_fits 52 = .ok (.iconst 0, 1) := by decide +kernel
theorem dX12_fits_53 : decode cX12_fits 53 = .ok (.ireturn, 1) := by decide +kernel
theorem dX12_fits_54 : decode cX12_fits 54 = .ok (.iinc 2 1, 3) := by decide +kernel
theorem dX12_fits_57 : decode cX12_fits 57 = .ok (.goto (-55), 3) := by decide +kernel
theorem dX12_fits_60 : decode cX12_fits 60 = .ok (.iconst 1, 1) := by decide +kernel
theorem dX12_fits_61 : decode cX12_fits 61 = .ok (.ireturn, 1) := by decide +kernel
set_option maxRecDepth 20000 in
theorem ggX12_gathersFitting_X12_everybody : GoodIn wsX12_gathersFitting wsX12_everybody := goodIn_r _ [7, 8, 75, 76, 77, 78, 79, 80, 81, 82, 83, 84, 85, 86, 87, 88, 89, 90, 91, 92, 93, 94, 95, 96, 97, 98, 99, 100, 101, 102, 103, 104, 105, 106, 107, 108, 109, 110, 111, 112, 113, 114, 115, 116, 117, 118] (by decide +kernel) (by decide +kernel)
set_option maxRecDepth 20000 in
theorem gX12_gathersFitting_X12_everybody : GoodIn wsX12_gathersFitting (wsV RX12 333 RX12 yX12_everybody wsX12_everybody) := goodIn_app (goodIn_of _ (by decide +kernel)) ggX12_gathersFitting_X12_everybody
set_option maxRecDepth 20000 in
theorem ggX12_gathersFitting_X12_fits : GoodIn wsX12_gathersFitting wsX12_fits := goodIn_r _ [12, 8, 13, 14, 15, 6, 16, 17, 18, 19, 20, 21, 22, 23, 24, 25, 26, 27, 28, 29, 30, 31, 32, 33, 34, 35, 36, 37, 38, 39, 40, 41, 42, 43, 44, 45, 46, 47, 48, 49, 50, 51, 52, 53, 54, 55, 56, 57, 58, 59, 60, 61, 62, 63, 64, 65, 66, 67, 68, 69, 70, 71, 72, 73, 74, 75, 76, 77, 78, 79, 80, 81, 82, 83, 84, 85, 86, 87, 88, 89, 90, 91, 92, 93, 94, 95, 96, 97, 98, 99, 100, 101, 102, 103, 104, 105, 106, 107, 108, 109, 110, 111, 112, 113, 114, 115, 116, 117, 118] (by decide +kernel) (by decide +kernel)
set_option maxRecDepth 20000 in
theorem gX12_gathersFitting_X12_fits : GoodIn wsX12_gathersFitting (wsV RX12 373 RX12 yX12_fits wsX12_fits) := goodIn_app (goodIn_of _ (by decide +kernel)) ggX12_gathersFitting_X12_fits
theorem dX12_gathersFitting_0 : decode cX12_gathersFitting 0 = .ok (.aload_n 0, 1) := by decide +kernel
theorem dX12_gathersFitting_1 : decode cX12_gathersFitting 1 = .ok (.iconst 0, 1) := by decide +kernel
theorem dX12_gathersFitting_2 : decode cX12_gathersFitting 2 = .ok (.putfield 370, 3) := by decide +kernel
theorem dX12_gathersFitting_5 : decode cX12_gathersFitting 5 = .ok (.iconst 0, 1) := by decide +kernel
theorem dX12_gathersFitting_6 : decode cX12_gathersFitting 6 = .ok (.istore_n 1, 1) := by decide +kernel
theorem dX12_gathersFitting_7 : decode cX12_gathersFitting 7 = .ok (.iload_n 1, 1) := by decide +kernel
theorem dX12_gathersFitting_8 : decode cX12_gathersFitting 8 = .ok (.aload_n 0, 1) := by decide +kernel
theorem dX12_gathersFitting_9 : decode cX12_gathersFitting 9 = .ok (.invokevirtual 333, 3) := by decide +kernel
theorem dX12_gathersFitting_12 : decode cX12_gathersFitting 12 = .ok (.if_icmp .gt 40, 3) := by decide +kernel
theorem dX12_gathersFitting_15 : decode cX12_gathersFitting 15 = .ok (.aload_n 0, 1) := by decide +kernel
theorem dX12_gathersFitting_16 : decode cX12_gathersFitting 16 = .ok (.iload_n 1, 1) := by decide +kernel
theorem dX12_gathersFitting_17 : decode cX12_gathersFitting 17 = .ok (.invokevirtual 373, 3) := by decide +kernel
theorem dX12_gathersFitting_20 : decode cX12_gathersFitting 20 = .ok (.ifCond .ne 6, 3) := by decide +kernel
theorem dX12_gathersFitting_23 : decode cX12_gathersFitting 23 = .ok (.goto 23, 3) := by decide +kernel
theorem dX12_gathersFitting_26 : decode cX12_gathersFitting 26 = .ok (.aload_n 0, 1) := by decide +kernel
theorem dX12_gathersFitting_27 : decode cX12_gathersFitting 27 = .ok (.getfield 49, 3) := by decide +kernel
theorem dX12_gathersFitting_30 : decode cX12_gathersFitting 30 = .ok (.aload_n 0, 1) := by decide +kernel
theorem dX12_gathersFitting_31 : decode cX12_gathersFitting 31 = .ok (.getfield 370, 3) := by decide +kernel
theorem dX12_gathersFitting_34 : decode cX12_gathersFitting 34 = .ok (.iload_n 1, 1) := by decide +kernel
theorem dX12_gathersFitting_35 : decode cX12_gathersFitting 35 = .ok (.iastore, 1) := by decide +kernel
theorem dX12_gathersFitting_36 : decode cX12_gathersFitting 36 = .ok (.aload_n 0, 1) := by decide +kernel
theorem dX12_gathersFitting_37 : decode cX12_gathersFitting 37 = .ok (.dup, 1) := by decide +kernel
theorem dX12_gathersFitting_38 : decode cX12_gathersFitting 38 = .ok (.getfield 370, 3) := by decide +kernel
theorem dX12_gathersFitting_41 : decode cX12_gathersFitting 41 = .ok (.iconst 1, 1) := by decide +kernel
theorem dX12_gathersFitting_42 : decode cX12_gathersFitting 42 = .ok (.iadd, 1) := by decide +kernel
theorem dX12_gathersFitting_43 : decode cX12_gathersFitting 43 = .ok (.putfield 370, 3) := by decide +kernel
theorem dX12_gathersFitting_46 : decode cX12_gathersFitting 46 = .ok (.iinc 1 1, 3) := by decide +kernel
theorem dX12_gathersFitting_49 : decode cX12_gathersFitting 49 = .ok (.goto (-42), 3) := by decide +kernel
theorem dX12_gathersFitting_52 : decode cX12_gathersFitting 52 = .ok (.return_, 1) := by decide +kernel
set_option maxRecDepth 20000 in
theorem ggX12_worlds_X12_isTown : GoodIn wsX12_worlds wsX12_isTown := goodIn_r _ [8, 9, 87, 88, 89, 90, 91, 92, 93, 94, 95, 96, 97, 98, 99, 100, 101, 102, 103, 104, 105, 106, 107, 108, 109, 110, 111, 112, 113, 114, 115, 116, 117, 118, 119, 120, 121, 122, 123, 124, 125, 126, 127, 128, 129, 130] (by decide +kernel) (by decide +kernel)
set_option maxRecDepth 20000 in
theorem gX12_worlds_X12_isTown : GoodIn wsX12_worlds (wsV RX12 360 RX12 yX12_isTown wsX12_isTown) := goodIn_app (goodIn_of _ (by decide +kernel)) ggX12_worlds_X12_isTown
set_option maxRecDepth 20000 in
theorem ggX12_worlds_X12_in : GoodIn wsX12_worlds wsX12_in := goodIn_r _ [12] (by decide +kernel) (by decide +kernel)
set_option maxRecDepth 20000 in
theorem gX12_worlds_X12_in : GoodIn wsX12_worlds (va_wsS RX12 127 yX12_in wsX12_in) := goodIn_app (goodIn_of _ (by decide +kernel)) ggX12_worlds_X12_in
set_option maxRecDepth 20000 in
theorem ggX12_worlds_X12_gathersFitting : GoodIn wsX12_worlds wsX12_gathersFitting := goodIn_r _ [16, 2, 3, 17, 18, 19, 7, 20, 9, 21, 22, 23, 24, 25, 26, 27, 28, 29, 30, 31, 32, 33, 34, 35, 36, 37, 38, 39, 40, 41, 42, 43, 44, 45, 46, 47, 48, 49, 50, 51, 52, 53, 54, 55, 56, 57, 58, 59, 60, 61, 62, 63, 64, 65, 66, 67, 68, 69, 70, 71, 72, 73, 74, 75, 76, 77, 78, 79, 80, 81, 82, 83, 84, 85, 86, 87, 88, 89, 90, 91, 92, 93, 94, 95, 96, 97, 98, 99, 100, 101, 102, 103, 104, 105, 106, 107, 108, 109, 110, 111, 112, 113, 114, 115, 116, 117, 118, 119, 120, 121, 122, 123, 124, 125, 126, 127, 128, 129, 130] (by decide +kernel) (by decide +kernel)
set_option maxRecDepth 20000 in
theorem gX12_worlds_X12_gathersFitting : GoodIn wsX12_worlds (wsV RX12 376 RX12 yX12_gathersFitting wsX12_gathersFitting) := goodIn_app (goodIn_of _ (by decide +kernel)) ggX12_worlds_X12_gathersFitting
set_option maxRecDepth 20000 in
theorem ggX12_worlds_X12_everybody : GoodIn wsX12_worlds wsX12_everybody := goodIn_r _ [20, 9, 87, 88, 89, 90, 91, 92, 93, 94, 95, 96, 97, 98, 99, 100, 101, 102, 103, 104, 105, 106, 107, 108, 109, 110, 111, 112, 113, 114, 115, 116, 117, 118, 119, 120, 121, 122, 123, 124, 125, 126, 127, 128, 129, 130] (by decide +kernel) (by decide +kernel)
set_option maxRecDepth 20000 in
theorem gX12_worlds_X12_everybody : GoodIn wsX12_worlds (wsV RX12 333 RX12 yX12_everybody wsX12_everybody) := goodIn_app (goodIn_of _ (by decide +kernel)) ggX12_worlds_X12_everybody
set_option maxRecDepth 20000 in
theorem ggX12_worlds_X12_bits : GoodIn wsX12_worlds wsX12_bits := goodIn_r _ [42] (by decide +kernel) (by decide +kernel)
set_option maxRecDepth 20000 in
theorem gX12_worlds_X12_bits : GoodIn wsX12_worlds (va_wsS RX12 326 yX12_bits wsX12_bits) := goodIn_app (goodIn_of _ (by decide +kernel)) ggX12_worlds_X12_bits
theorem dX12_worlds_0 : decode cX12_worlds 0 = .ok (.aload_n 0, 1) := by decide +kernel
theorem dX12_worlds_1 : decode cX12_worlds 1 = .ok (.invokevirtual 360, 3) := by decide +kernel
theorem dX12_worlds_4 : decode cX12_worlds 4 = .ok (.ifCond .eq 15, 3) := by decide +kernel
theorem dX12_worlds_7 : decode cX12_worlds 7 = .ok (.iload_n 1, 1) := by decide +kernel
theorem dX12_worlds_8 : decode cX12_worlds 8 = .ok (.i2l, 1) := by decide +kernel
theorem dX12_worlds_9 : decode cX12_worlds 9 = .ok (.lconst 0, 1) := by decide +kernel
theorem dX12_worlds_10 : decode cX12_worlds 10 = .ok (.ldc2_w 348, 3) := by decide +kernel
theorem dX12_worlds_13 : decode cX12_worlds 13 = .ok (.invokestatic 127, 3) := by decide +kernel
theorem dX12_worlds_16 : decode cX12_worlds 16 = .ok (.ifCond .ne 5, 3) := by decide +kernel
theorem dX12_worlds_19 : decode cX12_worlds 19 = .ok (.iconst (-1), 1) := by decide +kernel
theorem dX12_worlds_20 : decode cX12_worlds 20 = .ok (.ireturn, 1) := by decide +kernel
theorem dX12_worlds_21 : decode cX12_worlds 21 = .ok (.aload_n 0, 1) := by decide +kernel
theorem dX12_worlds_22 : decode cX12_worlds 22 = .ok (.invokevirtual 376, 3) := by decide +kernel
theorem dX12_worlds_25 : decode cX12_worlds 25 = .ok (.iload_n 1, 1) := by decide +kernel
theorem dX12_worlds_26 : decode cX12_worlds 26 = .ok (.ifCond .ne 8, 3) := by decide +kernel
theorem dX12_worlds_29 : decode cX12_worlds 29 = .ok (.aload_n 0, 1) := by decide +kernel
theorem dX12_worlds_30 : decode cX12_worlds 30 = .ok (.getfield 370, 3) := by decide +kernel
theorem dX12_worlds_33 : decode cX12_worlds 33 = .ok (.ireturn, 1) := by decide +kernel
theorem dX12_worlds_34 : decode cX12_worlds 34 = .ok (.aload_n 0, 1) := by decide +kernel
theorem dX12_worlds_35 : decode cX12_worlds 35 = .ok (.getfield 370, 3) := by decide +kernel
theorem dX12_worlds_38 : decode cX12_worlds 38 = .ok (.ifCond .ne 15, 3) := by decide +kernel
theorem dX12_worlds_41 : decode cX12_worlds 41 = .ok (.iload_n 1, 1) := by decide +kernel
theorem dX12_worlds_42 : decode cX12_worlds 42 = .ok (.iconst 3, 1) := by decide +kernel
theorem dX12_worlds_43 : decode cX12_worlds 43 = .ok (.if_icmp .ge 8, 3) := by decide +kernel
theorem dX12_worlds_46 : decode cX12_worlds 46 = .ok (.bipush (-2), 2) := by decide +kernel
theorem dX12_worlds_48 : decode cX12_worlds 48 = .ok (.goto 4, 3) := by decide +kernel
theorem dX12_worlds_51 : decode cX12_worlds 51 = .ok (.iconst 0, 1) := by decide +kernel
theorem dX12_worlds_52 : decode cX12_worlds 52 = .ok (.ireturn, 1) := by decide +kernel
theorem dX12_worlds_53 : decode cX12_worlds 53 = .ok (.bipush 10, 2) := by decide +kernel
theorem dX12_worlds_55 : decode cX12_worlds 55 = .ok (.istore_n 2, 1) := by decide +kernel
theorem dX12_worlds_56 : decode cX12_worlds 56 = .ok (.iconst 0, 1) := by decide +kernel
theorem dX12_worlds_57 : decode cX12_worlds 57 = .ok (.istore_n 3, 1) := by decide +kernel
theorem dX12_worlds_58 : decode cX12_worlds 58 = .ok (.aload_n 0, 1) := by decide +kernel
theorem dX12_worlds_59 : decode cX12_worlds 59 = .ok (.invokevirtual 333, 3) := by decide +kernel
theorem dX12_worlds_62 : decode cX12_worlds 62 = .ok (.istore 4, 2) := by decide +kernel
theorem dX12_worlds_64 : decode cX12_worlds 64 = .ok (.iconst 0, 1) := by decide +kernel
theorem dX12_worlds_65 : decode cX12_worlds 65 = .ok (.istore 5, 2) := by decide +kernel
theorem dX12_worlds_67 : decode cX12_worlds 67 = .ok (.iconst 0, 1) := by decide +kernel
theorem dX12_worlds_68 : decode cX12_worlds 68 = .ok (.istore 6, 2) := by decide +kernel
theorem dX12_worlds_70 : decode cX12_worlds 70 = .ok (.iload 6, 2) := by decide +kernel
theorem dX12_worlds_72 : decode cX12_worlds 72 = .ok (.aload_n 0, 1) := by decide +kernel
theorem dX12_worlds_73 : decode cX12_worlds 73 = .ok (.getfield 370, 3) := by decide +kernel
theorem dX12_worlds_76 : decode cX12_worlds 76 = .ok (.if_icmp .ge 71, 3) := by decide +kernel
theorem dX12_worlds_79 : decode cX12_worlds 79 = .ok (.aload_n 0, 1) := by decide +kernel
theorem dX12_worlds_80 : decode cX12_worlds 80 = .ok (.getfield 49, 3) := by decide +kernel
theorem dX12_worlds_83 : decode cX12_worlds 83 = .ok (.iload 6, 2) := by decide +kernel
theorem dX12_worlds_85 : decode cX12_worlds 85 = .ok (.iaload, 1) := by decide +kernel
theorem dX12_worlds_86 : decode cX12_worlds 86 = .ok (.invokestatic 326, 3) := by decide +kernel
theorem dX12_worlds_89 : decode cX12_worlds 89 = .ok (.istore 7, 2) := by decide +kernel
theorem dX12_worlds_91 : decode cX12_worlds 91 = .ok (.iload 7, 2) := by decide +kernel
theorem dX12_worlds_93 : decode cX12_worlds 93 = .ok (.iload_n 2, 1) := by decide +kernel
theorem dX12_worlds_94 : decode cX12_worlds 94 = .ok (.if_icmp .ge 8, 3) := by decide +kernel
theorem dX12_worlds_97 : decode cX12_worlds 97 = .ok (.iload 7, 2) := by decide +kernel
theorem dX12_worlds_99 : decode cX12_worlds 99 = .ok (.goto 4, 3) := by decide +kernel
theorem dX12_worlds_102 : decode cX12_worlds 102 = .ok (.iload_n 2, 1) := by decide +kernel
theorem dX12_worlds_103 : decode cX12_worlds 103 = .ok (.istore_n 2, 1) := by decide +kernel
theorem dX12_worlds_104 : decode cX12_worlds 104 = .ok (.iload 7, 2) := by decide +kernel
theorem dX12_worlds_106 : decode cX12_worlds 106 = .ok (.iload_n 3, 1) := by decide +kernel
theorem dX12_worlds_107 : decode cX12_worlds 107 = .ok (.if_icmp .le 8, 3) := by decide +kernel
theorem dX12_worlds_110 : decode cX12_worlds 110 = .ok (.iload 7, 2) := by decide +kernel
theorem dX12_worlds_112 : decode cX12_worlds 112 = .ok (.goto 4, 3) := by decide +kernel
theorem dX12_worlds_115 : decode cX12_worlds 115 = .ok (.iload_n 3, 1) := by decide +kernel
theorem dX12_worlds_116 : decode cX12_worlds 116 = .ok (.istore_n 3, 1) := by decide +kernel
theorem dX12_worlds_117 : decode cX12_worlds 117 = .ok (.iload 4, 2) := by decide +kernel
theorem dX12_worlds_119 : decode cX12_worlds 119 = .ok (.aload_n 0, 1) := by decide +kernel
theorem dX12_worlds_120 : decode cX12_worlds 120 = .ok (.getfield 49, 3) := by decide +kernel
theorem dX12_worlds_123 : decode cX12_worlds 123 = .ok (.iload 6, 2) := by decide +kernel
theorem dX12_worlds_125 : decode cX12_worlds 125 = .ok (.iaload, 1) := by decide +kernel
theorem dX12_worlds_126 : decode cX12_worlds 126 = .ok (.iand, 1) := by decide +kernel
theorem dX12_worlds_127 : decode cX12_worlds 127 = .ok (.istore 4, 2) := by decide +kernel
theorem dX12_worlds_129 : decode cX12_worlds 129 = .ok (.iload 5, 2) := by decide +kernel
theorem dX12_worlds_131 : decode cX12_worlds 131 = .ok (.aload_n 0, 1) := by decide +kernel
theorem dX12_worlds_132 : decode cX12_worlds 132 = .ok (.getfield 49, 3) := by decide +kernel
theorem dX12_worlds_135 : decode cX12_worlds 135 = .ok (.iload 6, 2) := by decide +kernel
theorem dX12_worlds_137 : decode cX12_worlds 137 = .ok (.iaload, 1) := by decide +kernel
theorem dX12_worlds_138 : decode cX12_worlds 138 = .ok (.ior, 1) := by decide +kernel
theorem dX12_worlds_139 : decode cX12_worlds 139 = .ok (.istore 5, 2) := by decide +kernel
theorem dX12_worlds_141 : decode cX12_worlds 141 = .ok (.iinc 6 1, 3) := by decide +kernel
theorem dX12_worlds_144 : decode cX12_worlds 144 = .ok (.goto (-74), 3) := by decide +kernel
theorem dX12_worlds_147 : decode cX12_worlds 147 = .ok (.iload_n 1, 1) := by decide +kernel
theorem dX12_worlds_148 : decode cX12_worlds 148 = .ok (.iconst 1, 1) := by decide +kernel
theorem dX12_worlds_149 : decode cX12_worlds 149 = .ok (.if_icmp .ne 7, 3) := by decide +kernel
theorem dX12_worlds_152 : decode cX12_worlds 152 = .ok (.iload_n 2, 1) := by decide +kernel
theorem dX12_worlds_153 : decode cX12_worlds 153 = .ok (.goto 31, 3) := by decide +kernel
theorem dX12_worlds_156 : decode cX12_worlds 156 = .ok (.iload_n 1, 1) := by decide +kernel
theorem dX12_worlds_157 : decode cX12_worlds 157 = .ok (.iconst 2, 1) := by decide +kernel
theorem dX12_worlds_158 : decode cX12_worlds 158 = .ok (.if_icmp .ne 7, 3) := by decide +kernel
theorem dX12_worlds_161 : decode cX12_worlds 161 = .ok (.iload_n 3, 1) := by decide +kernel
theorem dX12_worlds_162 : decode cX12_worlds 162 = .ok (.goto 22, 3) := by decide +kernel
theorem dX12_worlds_165 : decode cX12_worlds 165 = .ok (.iload_n 1, 1) := by decide +kernel
theorem dX12_worlds_166 : decode cX12_worlds 166 = .ok (.iconst 3, 1) := by decide +kernel
theorem dX12_worlds_167 : decode cX12_worlds 167 = .ok (.if_icmp .ne 8, 3) := by decide +kernel
theorem dX12_worlds_170 : decode cX12_worlds 170 = .ok (.iload 4, 2) := by decide +kernel
theorem dX12_worlds_172 : decode cX12_worlds 172 = .ok (.goto 12, 3) := by decide +kernel
theorem dX12_worlds_175 : decode cX12_worlds 175 = .ok (.aload_n 0, 1) := by decide +kernel
theorem dX12_worlds_176 : decode cX12_worlds 176 = .ok (.invokevirtual 333, 3) := by decide +kernel
theorem dX12_worlds_179 : decode cX12_worlds 179 = .ok (.iload 5, 2) := by decide +kernel
theorem dX12_worlds_181 : decode cX12_worlds 181 = .ok (.iconst (-1), 1) := by decide +kernel
theorem dX12_worlds_182 : decode cX12_worlds 182 = .ok (.ixor, 1) := by decide +kernel
theorem dX12_worlds_183 : decode cX12_worlds 183 = .ok (.iand, 1) := by decide +kernel
theorem dX12_worlds_184 : decode cX12_worlds 184 = .ok (.ireturn, 1) := by decide +kernel
set_option maxRecDepth 20000 in
theorem ggX12_mostAlike_X12_sumOf : GoodIn wsX12_mostAlike wsX12_sumOf := goodIn_r _ [8, 9, 10, 11, 12, 7, 13, 14, 15, 16, 17, 18, 19, 20, 21, 22, 23, 24, 25, 26, 27, 28, 29, 30, 31, 32, 33, 34, 35, 36, 37, 38, 39, 40, 41, 42, 43, 44, 45, 46, 47, 48, 49, 50, 51, 52, 53, 54, 55, 56, 57, 58, 59, 60, 61, 62, 63, 64, 65, 66, 67, 68, 69, 70, 71, 72, 73, 74, 75, 76, 77, 78, 79, 80, 81, 82, 83, 84, 85, 86, 87, 88, 89, 90, 91, 92, 93, 94, 95, 96, 97, 98, 99, 100, 101, 102, 103, 104, 105, 106, 107, 108, 109, 110, 111] (by decide +kernel) (by decide +kernel)
set_option maxRecDepth 20000 in
theorem gX12_mostAlike_X12_sumOf : GoodIn wsX12_mostAlike (wsV RX12 336 RX12 yX12_sumOf wsX12_sumOf) := goodIn_app (goodIn_of _ (by decide +kernel)) ggX12_mostAlike_X12_sumOf
theorem dX12_mostAlike_0 : decode cX12_mostAlike 0 = .ok (.iconst 0, 1) := by decide +kernel
theorem dX12_mostAlike_1 : decode cX12_mostAlike 1 = .ok (.istore_n 3, 1) := by decide +kernel
theorem dX12_mostAlike_2 : decode cX12_mostAlike 2 = .ok (.iconst 0, 1) := by decide +kernel
theorem dX12_mostAlike_3 : decode cX12_mostAlike 3 = .ok (.istore 4, 2) := by decide +kernel
theorem dX12_mostAlike_5 : decode cX12_mostAlike 5 = .ok (.iload 4, 2) := by decide +kernel
theorem dX12_mostAlike_7 : decode cX12_mostAlike 7 = .ok (.aload_n 0, 1) := by decide +kernel
theorem dX12_mostAlike_8 : decode cX12_mostAlike 8 = .ok (.getfield 370, 3) := by decide +kernel
theorem dX12_mostAlike_11 : decode cX12_mostAlike 11 = .ok (.if_icmp .ge 29, 3) := by decide +kernel
theorem dX12_mostAlike_14 : decode cX12_mostAlike 14 = .ok (.aload_n 0, 1) := by decide +kernel
theorem dX12_mostAlike_15 : decode cX12_mostAlike 15 = .ok (.getfield 52, 3) := by decide +kernel
theorem dX12_mostAlike_18 : decode cX12_mostAlike 18 = .ok (.iload 4, 2) := by decide +kernel
theorem dX12_mostAlike_20 : decode cX12_mostAlike 20 = .ok (.aload_n 0, 1) := by decide +kernel
theorem dX12_mostAlike_21 : decode cX12_mostAlike 21 = .ok (.aload_n 0, 1) := by decide +kernel
theorem dX12_mostAlike_22 : decode cX12_mostAlike 22 = .ok (.getfield 49, 3) := by decide +kernel
theorem dX12_mostAlike_25 : decode cX12_mostAlike 25 = .ok (.iload 4, 2) := by decide +kernel
theorem dX12_mostAlike_27 : decode cX12_mostAlike 27 = .ok (.iaload, 1) := by decide +kernel
theorem dX12_mostAlike_28 : decode cX12_mostAlike 28 = .ok (.iload_n 1, 1) := by decide +kernel
theorem dX12_mostAlike_29 : decode cX12_mostAlike 29 = .ok (.iload_n 2, 1) := by decide +kernel
theorem dX12_mostAlike_30 : decode cX12_mostAlike 30 = .ok (.invokevirtual 336, 3) := by decide +kernel
theorem dX12_mostAlike_33 : decode cX12_mostAlike 33 = .ok (.iastore, 1) := by decide +kernel
theorem dX12_mostAlike_34 : decode cX12_mostAlike 34 = .ok (.iinc 4 1, 3) := by decide +kernel
theorem dX12_mostAlike_37 : decode cX12_mostAlike 37 = .ok (.goto (-32), 3) := by decide +kernel
theorem dX12_mostAlike_40 : decode cX12_mostAlike 40 = .ok (.iconst 0, 1) := by decide +kernel
theorem dX12_mostAlike_41 : decode cX12_mostAlike 41 = .ok (.istore 4, 2) := by decide +kernel
theorem dX12_mostAlike_43 : decode cX12_mostAlike 43 = .ok (.iload 4, 2) := by decide +kernel
theorem dX12_mostAlike_45 : decode cX12_mostAlike 45 = .ok (.aload_n 0, 1) := by decide +kernel
theorem dX12_mostAlike_46 : decode cX12_mostAlike 46 = .ok (.getfield 370, 3) := by decide +kernel
theorem dX12_mostAlike_49 : decode cX12_mostAlike 49 = .ok (.if_icmp .ge 70, 3) := by decide +kernel
theorem dX12_mostAlike_52 : decode cX12_mostAlike 52 = .ok (.iconst 0, 1) := by decide +kernel
theorem dX12_mostAlike_53 : decode cX12_mostAlike 53 = .ok (.istore 5, 2) := by decide +kernel
theorem dX12_mostAlike_55 : decode cX12_mostAlike 55 = .ok (.iconst 0, 1) := by decide +kernel
theorem dX12_mostAlike_56 : decode cX12_mostAlike 56 = .ok (.istore 6, 2) := by decide +kernel
theorem dX12_mostAlike_58 : decode cX12_mostAlike 58 = .ok (.iload 6, 2) := by decide +kernel
theorem dX12_mostAlike_60 : decode cX12_mostAlike 60 = .ok (.aload_n 0, 1) := by decide +kernel
theorem dX12_mostAlike_61 : decode cX12_mostAlike 61 = .ok (.getfield 370, 3) := by decide +kernel
theorem dX12_mostAlike_64 : decode cX12_mostAlike 64 = .ok (.if_icmp .ge 36, 3) := by decide +kernel
theorem dX12_mostAlike_67 : decode cX12_mostAlike 67 = .ok (.iload 5, 2) := by decide +kernel
theorem dX12_mostAlike_69 : decode cX12_mostAlike 69 = .ok (.aload_n 0, 1) := by decide +kernel
theorem dX12_mostAlike_70 : decode cX12_mostAlike 70 = .ok (.getfield 52, 3) := by decide +kernel
theorem dX12_mostAlike_73 : decode cX12_mostAlike 73 = .ok (.iload 6, 2) := by decide +kernel
theorem dX12_mostAlike_75 : decode cX12_mostAlike 75 = .ok (.iaload, 1) := by decide +kernel
theorem dX12_mostAlike_76 : decode cX12_mostAlike 76 = .ok (.aload_n 0, 1) := by decide +kernel
theorem dX12_mostAlike_77 : decode cX12_mostAlike 77 = .ok (.getfield 52, 3) := by decide +kernel
theorem dX12_mostAlike_80 : decode cX12_mostAlike 80 = .ok (.iload 4, 2) := by decide +kernel
theorem dX12_mostAlike_82 : decode cX12_mostAlike 82 = .ok (.iaload, 1) := by decide +kernel
theorem dX12_mostAlike_83 : decode cX12_mostAlike 83 = .ok (.if_icmp .ne 7, 3) := by decide +kernel
theorem dX12_mostAlike_86 : decode cX12_mostAlike 86 = .ok (.iconst 1, 1) := by decide +kernel
theorem dX12_mostAlike_87 : decode cX12_mostAlike 87 = .ok (.goto 4, 3) := by decide +kernel
theorem dX12_mostAlike_90 : decode cX12_mostAlike 90 = .ok (.iconst 0, 1) := by decide +kernel
theorem dX12_mostAlike_91 : decode cX12_mostAlike 91 = .ok (.iadd, 1) := by decide +kernel
theorem dX12_mostAlike_92 : decode cX12_mostAlike 92 = .ok (.istore 5, 2) := by decide +kernel
theorem dX12_mostAlike_94 : decode cX12_mostAlike 94 = .ok (.iinc 6 1, 3) := by decide +kernel
theorem dX12_mostAlike_97 : decode cX12_mostAlike 97 = .ok (.goto (-39), 3) := by decide +kernel
theorem dX12_mostAlike_100 : decode cX12_mostAlike 100 = .ok (.iload 5, 2) := by decide +kernel
theorem dX12_mostAlike_102 : decode cX12_mostAlike 102 = .ok (.iload_n 3, 1) := by decide +kernel
theorem dX12_mostAlike_103 : decode cX12_mostAlike 103 = .ok (.if_icmp .le 8, 3) := by decide +kernel
theorem dX12_mostAlike_106 : decode cX12_mostAlike 106 = .ok (.iload 5, 2) := by decide +kernel
theorem dX12_mostAlike_108 : decode cX12_mostAlike 108 = .ok (.goto 4, 3) := by decide +kernel
theorem dX12_mostAlike_111 : decode cX12_mostAlike 111 = .ok (.iload_n 3, 1) := by decide +kernel
theorem dX12_mostAlike_112 : decode cX12_mostAlike 112 = .ok (.istore_n 3, 1) := by decide +kernel
theorem dX12_mostAlike_113 : decode cX12_mostAlike 113 = .ok (.iinc 4 1, 3) := by decide +kernel
theorem dX12_mostAlike_116 : decode cX12_mostAlike 116 = .ok (.goto (-73), 3) := by decide +kernel
theorem dX12_mostAlike_119 : decode cX12_mostAlike 119 = .ok (.iload_n 3, 1) := by decide +kernel
theorem dX12_mostAlike_120 : decode cX12_mostAlike 120 = .ok (.ireturn, 1) := by decide +kernel
set_option maxRecDepth 20000 in
theorem ggX12_ask_X12_isTown : GoodIn wsX12_ask wsX12_isTown := goodIn_r _ [8, 3, 92, 93, 94, 95, 96, 97, 98, 99, 100, 101, 102, 103, 104, 105, 106, 107, 108, 109, 110, 111, 112, 113, 114, 115, 116, 117, 118, 119, 120, 121, 122, 123, 124, 125, 126, 127, 128, 129, 130, 131, 132, 133, 134, 135] (by decide +kernel) (by decide +kernel)
set_option maxRecDepth 20000 in
theorem gX12_ask_X12_isTown : GoodIn wsX12_ask (wsV RX12 360 RX12 yX12_isTown wsX12_isTown) := goodIn_app (goodIn_of _ (by decide +kernel)) ggX12_ask_X12_isTown
set_option maxRecDepth 20000 in
theorem ggX12_ask_X12_in : GoodIn wsX12_ask wsX12_in := goodIn_r _ [11] (by decide +kernel) (by decide +kernel)
set_option maxRecDepth 20000 in
theorem gX12_ask_X12_in : GoodIn wsX12_ask (va_wsS RX12 127 yX12_in wsX12_in) := goodIn_app (goodIn_of _ (by decide +kernel)) ggX12_ask_X12_in
set_option maxRecDepth 20000 in
theorem ggX12_ask_X12_gathersFitting : GoodIn wsX12_ask wsX12_gathersFitting := goodIn_r _ [15, 2, 16, 17, 18, 19, 7, 20, 3, 21, 22, 23, 24, 25, 26, 27, 28, 29, 30, 31, 32, 33, 34, 35, 36, 37, 38, 39, 40, 41, 42, 43, 44, 45, 46, 47, 48, 49, 50, 51, 52, 53, 54, 55, 56, 57, 58, 59, 60, 61, 62, 63, 64, 65, 66, 67, 68, 69, 70, 71, 72, 73, 74, 75, 76, 77, 78, 79, 80, 81, 82, 83, 84, 85, 86, 92, 93, 94, 95, 96, 97, 98, 99, 100, 101, 102, 103, 104, 105, 106, 107, 108, 109, 110, 111, 112, 113, 114, 115, 116, 117, 118, 119, 120, 121, 122, 123, 124, 125, 126, 127, 128, 129, 130, 131, 132, 133, 134, 135] (by decide +kernel) (by decide +kernel)
set_option maxRecDepth 20000 in
theorem gX12_ask_X12_gathersFitting : GoodIn wsX12_ask (wsV RX12 376 RX12 yX12_gathersFitting wsX12_gathersFitting) := goodIn_app (goodIn_of _ (by decide +kernel)) ggX12_ask_X12_gathersFitting
set_option maxRecDepth 20000 in
theorem ggX12_ask_X12_mostAlike : GoodIn wsX12_ask wsX12_mostAlike := goodIn_r _ [90, 2, 91, 16, 25, 26, 27, 7, 28, 3, 29, 30, 31, 32, 33, 34, 35, 36, 37, 38, 39, 40, 41, 42, 43, 44, 45, 46, 47, 48, 49, 50, 51, 52, 53, 54, 55, 56, 57, 58, 59, 60, 61, 62, 63, 64, 65, 66, 67, 68, 69, 70, 71, 72, 73, 74, 75, 76, 77, 78, 79, 80, 81, 82, 83, 84, 85, 86, 92, 93, 94, 95, 96, 97, 98, 99, 100, 101, 102, 103, 104, 105, 106, 107, 108, 109, 110, 111, 112, 113, 114, 115, 116, 117, 118, 119, 120, 121, 122, 123, 124, 125, 126, 127, 128, 129, 130, 131, 132, 133, 134, 135] (by decide +kernel) (by decide +kernel)
set_option maxRecDepth 20000 in
theorem gX12_ask_X12_mostAlike : GoodIn wsX12_ask (wsV RX12 381 RX12 yX12_mostAlike wsX12_mostAlike) := goodIn_app (goodIn_of _ (by decide +kernel)) ggX12_ask_X12_mostAlike
theorem dX12_ask_0 : decode cX12_ask 0 = .ok (.aload_n 0, 1) := by decide +kernel
theorem dX12_ask_1 : decode cX12_ask 1 = .ok (.invokevirtual 360, 3) := by decide +kernel
theorem dX12_ask_4 : decode cX12_ask 4 = .ok (.ifCond .eq 15, 3) := by decide +kernel
theorem dX12_ask_7 : decode cX12_ask 7 = .ok (.iload_n 1, 1) := by decide +kernel
theorem dX12_ask_8 : decode cX12_ask 8 = .ok (.i2l, 1) := by decide +kernel
theorem dX12_ask_9 : decode cX12_ask 9 = .ok (.lconst 0, 1) := by decide +kernel
theorem dX12_ask_10 : decode cX12_ask 10 = .ok (.ldc2_w 379, 3) := by decide +kernel
theorem dX12_ask_13 : decode cX12_ask 13 = .ok (.invokestatic 127, 3) := by decide +kernel
theorem dX12_ask_16 : decode cX12_ask 16 = .ok (.ifCond .ne 5, 3) := by decide +kernel
theorem dX12_ask_19 : decode cX12_ask 19 = .ok (.iconst (-1), 1) := by decide +kernel
theorem dX12_ask_20 : decode cX12_ask 20 = .ok (.ireturn, 1) := by decide +kernel
theorem dX12_ask_21 : decode cX12_ask 21 = .ok (.aload_n 0, 1) := by decide +kernel
theorem dX12_ask_22 : decode cX12_ask 22 = .ok (.invokevirtual 376, 3) := by decide +kernel
theorem dX12_ask_25 : decode cX12_ask 25 = .ok (.aload_n 0, 1) := by decide +kernel
theorem dX12_ask_26 : decode cX12_ask 26 = .ok (.getfield 370, 3) := by decide +kernel
theorem dX12_ask_29 : decode cX12_ask 29 = .ok (.ifCond .ne 6, 3) := by decide +kernel
theorem dX12_ask_32 : decode cX12_ask 32 = .ok (.bipush (-2), 2) := by decide +kernel
theorem dX12_ask_34 : decode cX12_ask 34 = .ok (.ireturn, 1) := by decide +kernel
theorem dX12_ask_35 : decode cX12_ask 35 = .ok (.iconst (-1), 1) := by decide +kernel
theorem dX12_ask_36 : decode cX12_ask 36 = .ok (.istore_n 2, 1) := by decide +kernel
theorem dX12_ask_37 : decode cX12_ask 37 = .ok (.iconst 0, 1) := by decide +kernel
theorem dX12_ask_38 : decode cX12_ask 38 = .ok (.istore_n 3, 1) := by decide +kernel
theorem dX12_ask_39 : decode cX12_ask 39 = .ok (.iconst 0, 1) := by decide +kernel
theorem dX12_ask_40 : decode cX12_ask 40 = .ok (.istore 4, 2) := by decide +kernel
theorem dX12_ask_42 : decode cX12_ask 42 = .ok (.iload 4, 2) := by decide +kernel
theorem dX12_ask_44 : decode cX12_ask 44 = .ok (.aload_n 0, 1) := by decide +kernel
theorem dX12_ask_45 : decode cX12_ask 45 = .ok (.getfield 39, 3) := by decide +kernel
theorem dX12_ask_48 : decode cX12_ask 48 = .ok (.iconst 1, 1) := by decide +kernel
theorem dX12_ask_49 : decode cX12_ask 49 = .ok (.iaload, 1) := by decide +kernel
theorem dX12_ask_50 : decode cX12_ask 50 = .ok (.if_icmp .ge 64, 3) := by decide +kernel
theorem dX12_ask_53 : decode cX12_ask 53 = .ok (.iconst 0, 1) := by decide +kernel
theorem dX12_ask_54 : decode cX12_ask 54 = .ok (.istore 5, 2) := by decide +kernel
theorem dX12_ask_56 : decode cX12_ask 56 = .ok (.iload 5, 2) := by decide +kernel
theorem dX12_ask_58 : decode cX12_ask 58 = .ok (.aload_n 0, 1) := by decide +kernel
theorem dX12_ask_59 : decode cX12_ask 59 = .ok (.getfield 39, 3) := by decide +kernel
theorem dX12_ask_62 : decode cX12_ask 62 = .ok (.iconst 0, 1) := by decide +kernel
theorem dX12_ask_63 : decode cX12_ask 63 = .ok (.iaload, 1) := by decide +kernel
theorem dX12_ask_64 : decode cX12_ask 64 = .ok (.if_icmp .ge 44, 3) := by decide +kernel
theorem dX12_ask_67 : decode cX12_ask 67 = .ok (.aload_n 0, 1) := by decide +kernel
theorem dX12_ask_68 : decode cX12_ask 68 = .ok (.iload 5, 2) := by decide +kernel
theorem dX12_ask_70 : decode cX12_ask 70 = .ok (.iload 4, 2) := by decide +kernel
theorem dX12_ask_72 : decode cX12_ask 72 = .ok (.invokevirtual 381, 3) := by decide +kernel
theorem dX12_ask_75 : decode cX12_ask 75 = .ok (.istore 6, 2) := by decide +kernel
theorem dX12_ask_77 : decode cX12_ask 77 = .ok (.iload_n 2, 1) := by decide +kernel
theorem dX12_ask_78 : decode cX12_ask 78 = .ok (.ifCond .lt 12, 3) := by decide +kernel
theorem dX12_ask_81 : decode cX12_ask 81 = .ok (.iload 6, 2) := by decide +kernel
theorem dX12_ask_83 : decode cX12_ask 83 = .ok (.iload_n 3, 1) := by decide +kernel
theorem dX12_ask_84 : decode cX12_ask 84 = .ok (.if_icmp .lt 6, 3) := by decide +kernel
theorem dX12_ask_87 : decode cX12_ask 87 = .ok (.goto 15, 3) := by decide +kernel
theorem dX12_ask_90 : decode cX12_ask 90 = .ok (.bipush 6, 2) := by decide +kernel
theorem dX12_ask_92 : decode cX12_ask 92 = .ok (.iload 4, 2) := by decide +kernel
theorem dX12_ask_94 : decode cX12_ask 94 = .ok (.imul, 1) := by decide +kernel
theorem dX12_ask_95 : decode cX12_ask 95 = .ok (.iload 5, 2) := by decide +kernel
theorem dX12_ask_97 : decode cX12_ask 97 = .ok (.iadd, 1) := by decide +kernel
theorem dX12_ask_98 : decode cX12_ask 98 = .ok (.istore_n 2, 1) := by decide +kernel
theorem dX12_ask_99 : decode cX12_ask 99 = .ok (.iload 6, 2) := by decide +kernel
theorem dX12_ask_101 : decode cX12_ask 101 = .ok (.istore_n 3, 1) := by decide +kernel
theorem dX12_ask_102 : decode cX12_ask 102 = .ok (.iinc 5 1, 3) := by decide +kernel
theorem dX12_ask_105 : decode cX12_ask 105 = .ok (.goto (-49), 3) := by decide +kernel
theorem dX12_ask_108 : decode cX12_ask 108 = .ok (.iinc 4 1, 3) := by decide +kernel
theorem dX12_ask_111 : decode cX12_ask 111 = .ok (.goto (-69), 3) := by decide +kernel
theorem dX12_ask_114 : decode cX12_ask 114 = .ok (.iload_n 1, 1) := by decide +kernel
theorem dX12_ask_115 : decode cX12_ask 115 = .ok (.ifCond .ne 10, 3) := by decide +kernel
theorem dX12_ask_118 : decode cX12_ask 118 = .ok (.iload_n 2, 1) := by decide +kernel
theorem dX12_ask_119 : decode cX12_ask 119 = .ok (.bipush 6, 2) := by decide +kernel
theorem dX12_ask_121 : decode cX12_ask 121 = .ok (.irem, 1) := by decide +kernel
theorem dX12_ask_122 : decode cX12_ask 122 = .ok (.goto 16, 3) := by decide +kernel
theorem dX12_ask_125 : decode cX12_ask 125 = .ok (.iload_n 1, 1) := by decide +kernel
theorem dX12_ask_126 : decode cX12_ask 126 = .ok (.iconst 1, 1) := by decide +kernel
theorem dX12_ask_127 : decode cX12_ask 127 = .ok (.if_icmp .ne 10, 3) := by decide +kernel
theorem dX12_ask_130 : decode cX12_ask 130 = .ok (.iload_n 2, 1) := by decide +kernel
theorem dX12_ask_131 : decode cX12_ask 131 = .ok (.bipush 6, 2) := by decide +kernel
theorem dX12_ask_133 : decode cX12_ask 133 = .ok (.idiv, 1) := by decide +kernel
theorem dX12_ask_134 : decode cX12_ask 134 = .ok (.goto 4, 3) := by decide +kernel
theorem dX12_ask_137 : decode cX12_ask 137 = .ok (.iload_n 3, 1) := by decide +kernel
theorem dX12_ask_138 : decode cX12_ask 138 = .ok (.ireturn, 1) := by decide +kernel
theorem dX12_haveAlike_0 : decode cX12_haveAlike 0 = .ok (.iconst 0, 1) := by decide +kernel
theorem dX12_haveAlike_1 : decode cX12_haveAlike 1 = .ok (.istore_n 3, 1) := by decide +kernel
theorem dX12_haveAlike_2 : decode cX12_haveAlike 2 = .ok (.iload_n 3, 1) := by decide +kernel
theorem dX12_haveAlike_3 : decode cX12_haveAlike 3 = .ok (.aload_n 0, 1) := by decide +kernel
theorem dX12_haveAlike_4 : decode cX12_haveAlike 4 = .ok (.getfield 39, 3) := by decide +kernel
theorem dX12_haveAlike_7 : decode cX12_haveAlike 7 = .ok (.iconst 1, 1) := by decide +kernel
theorem dX12_haveAlike_8 : decode cX12_haveAlike 8 = .ok (.iaload, 1) := by decide +kernel
theorem dX12_haveAlike_9 : decode cX12_haveAlike 9 = .ok (.if_icmp .ge 36, 3) := by decide +kernel
theorem dX12_haveAlike_12 : decode cX12_haveAlike 12 = .ok (.aload_n 0, 1) := by decide +kernel
theorem dX12_haveAlike_13 : decode cX12_haveAlike 13 = .ok (.getfield 58, 3) := by decide +kernel
theorem dX12_haveAlike_16 : decode cX12_haveAlike 16 = .ok (.bipush 12, 2) := by decide +kernel
theorem dX12_haveAlike_18 : decode cX12_haveAlike 18 = .ok (.iload_n 1, 1) := by decide +kernel
theorem dX12_haveAlike_19 : decode cX12_haveAlike 19 = .ok (.imul, 1) := by decide +kernel
theorem dX12_haveAlike_20 : decode cX12_haveAlike 20 = .ok (.iload_n 3, 1) := by decide +kernel
theorem dX12_haveAlike_21 : decode cX12_haveAlike 21 = .ok (.iadd, 1) := by decide +kernel
theorem dX12_haveAlike_22 : decode cX12_haveAlike 22 = .ok (.iaload, 1) := by decide +kernel
theorem dX12_haveAlike_23 : decode cX12_haveAlike 23 = .ok (.aload_n 0, 1) := by decide +kernel
theorem dX12_haveAlike_24 : decode cX12_haveAlike 24 = .ok (.getfield 58, 3) := by decide +kernel
theorem dX12_haveAlike_27 : decode cX12_haveAlike 27 = .ok (.bipush 12, 2) := by decide +kernel
theorem dX12_haveAlike_29 : decode cX12_haveAlike 29 = .ok (.iload_n 2, 1) := by decide +kernel
theorem dX12_haveAlike_30 : decode cX12_haveAlike 30 = .ok (.imul, 1) := by decide +kernel
theorem dX12_haveAlike_31 : decode cX12_haveAlike 31 = .ok (.iload_n 3, 1) := by decide +kernel
theorem dX12_haveAlike_32 : decode cX12_haveAlike 32 = .ok (.iadd, 1) := by decide +kernel
theorem dX12_haveAlike_33 : decode cX12_haveAlike 33 = .ok (.iaload, 1) := by decide +kernel
theorem dX12_haveAlike_34 : decode cX12_haveAlike 34 = .ok (.if_icmp .eq 5, 3) := by decide +kernel
theorem dX12_haveAlike_37 : decode cX12_haveAlike 37 = .ok (.iconst 0, 1) := by decide +kernel
theorem dX12_haveAlike_38 : decode cX12_haveAlike 38 = .ok (.ireturn, 1) := by decide +kernel
theorem dX12_haveAlike_39 : decode cX12_haveAlike 39 = .ok (.iinc 3 1, 3) := by decide +kernel
theorem dX12_haveAlike_42 : decode cX12_haveAlike 42 = .ok (.goto (-40), 3) := by decide +kernel
theorem dX12_haveAlike_45 : decode cX12_haveAlike 45 = .ok (.iconst 1, 1) := by decide +kernel
theorem dX12_haveAlike_46 : decode cX12_haveAlike 46 = .ok (.ireturn, 1) := by decide +kernel
set_option maxRecDepth 20000 in
theorem ggX12_sorts_X12_everybody : GoodIn wsX12_sorts wsX12_everybody := goodIn_r _ [8, 1, 75, 76, 77, 78, 79, 80, 81, 82, 83, 84, 85, 86, 87, 88, 89, 90, 91, 92, 93, 94, 95, 96, 97, 98, 99, 100, 101, 102, 103, 104, 105, 106, 107, 108, 109, 110, 111, 112, 113, 114, 115, 116, 117, 118] (by decide +kernel) (by decide +kernel)
set_option maxRecDepth 20000 in
theorem gX12_sorts_X12_everybody : GoodIn wsX12_sorts (wsV RX12 333 RX12 yX12_everybody wsX12_everybody) := goodIn_app (goodIn_of _ (by decide +kernel)) ggX12_sorts_X12_everybody
set_option maxRecDepth 20000 in
theorem ggX12_sorts_X12_sumOf : GoodIn wsX12_sorts wsX12_sumOf := goodIn_r _ [12, 1, 13, 14, 15, 7, 16, 17, 18, 19, 20, 21, 22, 23, 24, 25, 26, 27, 28, 29, 30, 31, 32, 33, 34, 35, 36, 37, 38, 39, 40, 41, 42, 43, 44, 45, 46, 47, 48, 49, 50, 51, 52, 53, 54, 55, 56, 57, 58, 59, 60, 61, 62, 63, 64, 65, 66, 67, 68, 69, 70, 75, 76, 77, 78, 79, 80, 81, 82, 83, 84, 85, 86, 87, 88, 89, 90, 91, 92, 93, 94, 95, 96, 97, 98, 99, 100, 101, 102, 103, 104, 105, 106, 107, 108, 109, 110, 111, 112, 113, 114, 115, 116, 117, 118] (by decide +kernel) (by decide +kernel)
set_option maxRecDepth 20000 in
theorem gX12_sorts_X12_sumOf : GoodIn wsX12_sorts (wsV RX12 336 RX12 yX12_sumOf wsX12_sumOf) := goodIn_app (goodIn_of _ (by decide +kernel)) ggX12_sorts_X12_sumOf
set_option maxRecDepth 20000 in
theorem ggX12_sorts_X12_haveAlike : GoodIn wsX12_sorts wsX12_haveAlike := goodIn_r _ [74, 1, 2, 75, 76, 77, 78, 79, 80, 81, 82, 83, 84, 85, 86, 87, 88, 89, 90, 91, 92, 93, 94, 95, 96, 97, 98, 99, 100, 101, 102, 103, 104, 105, 106, 107, 108, 109, 110, 111, 112, 113, 114, 115, 116, 117, 118] (by decide +kernel) (by decide +kernel)
set_option maxRecDepth 20000 in
theorem gX12_sorts_X12_haveAlike : GoodIn wsX12_sorts (wsV RX12 384 RX12 yX12_haveAlike wsX12_haveAlike) := goodIn_app (goodIn_of _ (by decide +kernel)) ggX12_sorts_X12_haveAlike
theorem dX12_sorts_0 : decode cX12_sorts 0 = .ok (.aload_n 0, 1) := by decide +kernel
theorem dX12_sorts_1 : decode cX12_sorts 1 = .ok (.invokevirtual 333, 3) := by decide +kernel
theorem dX12_sorts_4 : decode cX12_sorts 4 = .ok (.iconst 1, 1) := by decide +kernel
theorem dX12_sorts_5 : decode cX12_sorts 5 = .ok (.iadd, 1) := by decide +kernel
theorem dX12_sorts_6 : decode cX12_sorts 6 = .ok (.istore_n 2, 1) := by decide +kernel
theorem dX12_sorts_7 : decode cX12_sorts 7 = .ok (.iconst 0, 1) := by decide +kernel
theorem dX12_sorts_8 : decode cX12_sorts 8 = .ok (.istore_n 3, 1) := by decide +kernel
theorem dX12_sorts_9 : decode cX12_sorts 9 = .ok (.iload_n 3, 1) := by decide +kernel
theorem dX12_sorts_10 : decode cX12_sorts 10 = .ok (.iload_n 2, 1) := by decide +kernel
theorem dX12_sorts_11 : decode cX12_sorts 11 = .ok (.if_icmp .ge 49, 3) := by decide +kernel
theorem dX12_sorts_14 : decode cX12_sorts 14 = .ok (.iconst 0, 1) := by decide +kernel
theorem dX12_sorts_15 : decode cX12_sorts 15 = .ok (.istore 4, 2) := by decide +kernel
theorem dX12_sorts_17 : decode cX12_sorts 17 = .ok (.iload 4, 2) := by decide +kernel
theorem dX12_sorts_19 : decode cX12_sorts 19 = .ok (.aload_n 0, 1) := by decide +kernel
theorem dX12_sorts_20 : decode cX12_sorts 20 = .ok (.getfield 39, 3) := by decide +kernel
theorem dX12_sorts_23 : decode cX12_sorts 23 = .ok (.iconst 1, 1) := by decide +kernel
theorem dX12_sorts_24 : decode cX12_sorts 24 = .ok (.iaload, 1) := by decide +kernel
theorem dX12_sorts_25 : decode cX12_sorts 25 = .ok (.if_icmp .ge 29, 3) := by decide +kernel
theorem dX12_sorts_28 : decode cX12_sorts 28 = .ok (.aload_n 0, 1) := by decide +kernel
theorem dX12_sorts_29 : decode cX12_sorts 29 = .ok (.getfield 58, 3) := by decide +kernel
theorem dX12_sorts_32 : decode cX12_sorts 32 = .ok (.bipush 12, 2) := by decide +kernel
theorem dX12_sorts_34 : decode cX12_sorts 34 = .ok (.iload_n 3, 1) := by decide +kernel
theorem dX12_sorts_35 : decode cX12_sorts 35 = .ok (.imul, 1) := by decide +kernel
theorem dX12_sorts_36 : decode cX12_sorts 36 = .ok (.iload 4, 2) := by decide +kernel
theorem dX12_sorts_38 : decode cX12_sorts 38 = .ok (.iadd, 1) := by decide +kernel
theorem dX12_sorts_39 : decode cX12_sorts 39 = .ok (.aload_n 0, 1) := by decide +kernel
theorem dX12_sorts_40 : decode cX12_sorts 40 = .ok (.iload_n 3, 1) := by decide +kernel
theorem dX12_sorts_41 : decode cX12_sorts 41 = .ok (.iload_n 1, 1) := by decide +kernel
theorem dX12_sorts_42 : decode cX12_sorts 42 = .ok (.iload 4, 2) := by decide +kernel
theorem dX12_sorts_44 : decode cX12_sorts 44 = .ok (.invokevirtual 336, 3) := by decide +kernel
theorem dX12_sorts_47 : decode cX12_sorts 47 = .ok (.iastore, 1) := by decide +kernel
theorem dX12_sorts_48 : decode cX12_sorts 48 = .ok (.iinc 4 1, 3) := by decide +kernel
theorem dX12_sorts_51 : decode cX12_sorts 51 = .ok (.goto (-34), 3) := by decide +kernel
theorem dX12_sorts_54 : decode cX12_sorts 54 = .ok (.iinc 3 1, 3) := by decide +kernel
theorem dX12_sorts_57 : decode cX12_sorts 57 = .ok (.goto (-48), 3) := by decide +kernel
theorem dX12_sorts_60 : decode cX12_sorts 60 = .ok (.iconst 0, 1) := by decide +kernel
theorem dX12_sorts_61 : decode cX12_sorts 61 = .ok (.istore_n 3, 1) := by decide +kernel
theorem dX12_sorts_62 : decode cX12_sorts 62 = .ok (.iload_n 3, 1) := by decide +kernel
theorem dX12_sorts_63 : decode cX12_sorts 63 = .ok (.iload_n 2, 1) := by decide +kernel
theorem dX12_sorts_64 : decode cX12_sorts 64 = .ok (.if_icmp .ge 42, 3) := by decide +kernel
theorem dX12_sorts_67 : decode cX12_sorts 67 = .ok (.iconst 0, 1) := by decide +kernel
theorem dX12_sorts_68 : decode cX12_sorts 68 = .ok (.istore 4, 2) := by decide +kernel
theorem dX12_sorts_70 : decode cX12_sorts 70 = .ok (.aload_n 0, 1) := by decide +kernel
theorem dX12_sorts_71 : decode cX12_sorts 71 = .ok (.iload 4, 2) := by decide +kernel
theorem dX12_sorts_73 : decode cX12_sorts 73 = .ok (.iload_n 3, 1) := by decide +kernel
theorem dX12_sorts_74 : decode cX12_sorts 74 = .ok (.invokevirtual 384, 3) := by decide +kernel
theorem dX12_sorts_77 : decode cX12_sorts 77 = .ok (.ifCond .ne 9, 3) := by decide +kernel
theorem dX12_sorts_80 : decode cX12_sorts 80 = .ok (.iinc 4 1, 3) := by decide +kernel
theorem dX12_sorts_83 : decode cX12_sorts 83 = .ok (.goto (-13), 3) := by decide +kernel
theorem dX12_sorts_86 : decode cX12_sorts 86 = .ok (.aload_n 0, 1) := by decide +kernel
theorem dX12_sorts_87 : decode cX12_sorts 87 = .ok (.getfield 55, 3) := by decide +kernel
theorem dX12_sorts_90 : decode cX12_sorts 90 = .ok (.sipush 256, 3) := by decide +kernel
theorem dX12_sorts_93 : decode cX12_sorts 93 = .ok (.iload_n 1, 1) := by decide +kernel
theorem dX12_sorts_94 : decode cX12_sorts 94 = .ok (.imul, 1) := by decide +kernel
theorem dX12_sorts_95 : decode cX12_sorts 95 = .ok (.iload_n 3, 1) := by decide +kernel
theorem dX12_sorts_96 : decode cX12_sorts 96 = .ok (.iadd, 1) := by decide +kernel
theorem dX12_sorts_97 : decode cX12_sorts 97 = .ok (.iload 4, 2) := by decide +kernel
theorem dX12_sorts_99 : decode cX12_sorts 99 = .ok (.iastore, 1) := by decide +kernel
theorem dX12_sorts_100 : decode cX12_sorts 100 = .ok (.iinc 3 1, 3) := by decide +kernel
theorem dX12_sorts_103 : decode cX12_sorts 103 = .ok (.goto (-41), 3) := by decide +kernel
theorem dX12_sorts_106 : decode cX12_sorts 106 = .ok (.return_, 1) := by decide +kernel
set_option maxRecDepth 20000 in
theorem ggX12_areAlikeAt_X12_isOf : GoodIn wsX12_areAlikeAt wsX12_isOf := goodIn_r _ [6] (by decide +kernel) (by decide +kernel)
set_option maxRecDepth 20000 in
theorem gX12_areAlikeAt_X12_isOf : GoodIn wsX12_areAlikeAt (va_wsS RX12 299 yX12_isOf wsX12_isOf) := goodIn_app (goodIn_of _ (by decide +kernel)) ggX12_areAlikeAt_X12_isOf
theorem dX12_areAlikeAt_0 : decode cX12_areAlikeAt 0 = .ok (.iconst 0, 1) := by decide +kernel
theorem dX12_areAlikeAt_1 : decode cX12_areAlikeAt 1 = .ok (.istore 4, 2) := by decide +kernel
theorem dX12_areAlikeAt_3 : decode cX12_areAlikeAt 3 = .ok (.iload 4, 2) := by decide +kernel
theorem dX12_areAlikeAt_5 : decode cX12_areAlikeAt 5 = .ok (.aload_n 0, 1) := by decide +kernel
theorem dX12_areAlikeAt_6 : decode cX12_areAlikeAt 6 = .ok (.getfield 39, 3) := by decide +kernel
theorem dX12_areAlikeAt_9 : decode cX12_areAlikeAt 9 = .ok (.iconst 0, 1) := by decide +kernel
theorem dX12_areAlikeAt_10 : decode cX12_areAlikeAt 10 = .ok (.iaload, 1) := by decide +kernel
theorem dX12_areAlikeAt_11 : decode cX12_areAlikeAt 11 = .ok (.if_icmp .ge 49, 3) := by decide +kernel
theorem dX12_areAlikeAt_14 : decode cX12_areAlikeAt 14 = .ok (.iload_n 3, 1) := by decide +kernel
theorem dX12_areAlikeAt_15 : decode cX12_areAlikeAt 15 = .ok (.iload 4, 2) := by decide +kernel
theorem dX12_areAlikeAt_17 : decode cX12_areAlikeAt 17 = .ok (.invokestatic 299, 3) := by decide +kernel
theorem dX12_areAlikeAt_20 : decode cX12_areAlikeAt 20 = .ok (.ifCond .eq 34, 3) := by decide +kernel
theorem dX12_areAlikeAt_23 : decode cX12_areAlikeAt 23 = .ok (.aload_n 0, 1) := by decide +kernel
theorem dX12_areAlikeAt_24 : decode cX12_areAlikeAt 24 = .ok (.getfield 55, 3) := by decide +kernel
theorem dX12_areAlikeAt_27 : decode cX12_areAlikeAt 27 = .ok (.sipush 256, 3) := by decide +kernel
theorem dX12_areAlikeAt_30 : decode cX12_areAlikeAt 30 = .ok (.iload 4, 2) := by decide +kernel
theorem dX12_areAlikeAt_32 : decode cX12_areAlikeAt 32 = .ok (.imul, 1) := by decide +kernel
theorem dX12_areAlikeAt_33 : decode cX12_areAlikeAt 33 = .ok (.iload_n 1, 1) := by decide +kernel
theorem dX12_areAlikeAt_34 : decode cX12_areAlikeAt 34 = .ok (.iadd, 1) := by decide +kernel
theorem dX12_areAlikeAt_35 : decode cX12_areAlikeAt 35 = .ok (.iaload, 1) := by decide +kernel
theorem dX12_areAlikeAt_36 : decode cX12_areAlikeAt 36 = .ok (.aload_n 0, 1) := by decide +kernel
theorem dX12_areAlikeAt_37 : decode cX12_areAlikeAt 37 = .ok (.getfield 55, 3) := by decide +kernel
theorem dX12_areAlikeAt_40 : decode cX12_areAlikeAt 40 = .ok (.sipush 256, 3) := by decide +kernel
theorem dX12_areAlikeAt_43 : decode cX12_areAlikeAt 43 = .ok (.iload 4, 2) := by decide +kernel
theorem dX12_areAlikeAt_45 : decode cX12_areAlikeAt 45 = .ok (.imul, 1) := by decide +kernel
theorem dX12_areAlikeAt_46 : decode cX12_areAlikeAt 46 = .ok (.iload_n 2, 1) := by decide +kernel
theorem dX12_areAlikeAt_47 : decode cX12_areAlikeAt 47 = .ok (.iadd, 1) := by decide +kernel
theorem dX12_areAlikeAt_48 : decode cX12_areAlikeAt 48 = .ok (.iaload, 1) := by decide +kernel
theorem dX12_areAlikeAt_49 : decode cX12_areAlikeAt 49 = .ok (.if_icmp .eq 5, 3) := by decide +kernel
theorem dX12_areAlikeAt_52 : decode cX12_areAlikeAt 52 = .ok (.iconst 0, 1) := by decide +kernel
theorem dX12_areAlikeAt_53 : decode cX12_areAlikeAt 53 = .ok (.ireturn, 1) := by decide +kernel
theorem dX12_areAlikeAt_54 : decode cX12_areAlikeAt 54 = .ok (.iinc 4 1, 3) := by decide +kernel
theorem dX12_areAlikeAt_57 : decode cX12_areAlikeAt 57 = .ok (.goto (-54), 3) := by decide +kernel
theorem dX12_areAlikeAt_60 : decode cX12_areAlikeAt 60 = .ok (.iconst 1, 1) := by decide +kernel
theorem dX12_areAlikeAt_61 : decode cX12_areAlikeAt 61 = .ok (.ireturn, 1) := by decide +kernel
set_option maxRecDepth 20000 in
theorem ggX12_isSureBy_X12_everybody : GoodIn wsX12_isSureBy wsX12_everybody := goodIn_r _ [5, 6, 18, 19, 20, 21, 22, 23, 24, 25, 26, 27, 28, 29, 30, 31, 32, 33, 34, 35, 36, 37, 38, 39, 40, 41, 42, 43, 44, 45, 46, 47, 48, 49, 50, 51, 52, 53, 54, 55, 56, 57, 58, 59, 60, 61] (by decide +kernel) (by decide +kernel)
set_option maxRecDepth 20000 in
theorem gX12_isSureBy_X12_everybody : GoodIn wsX12_isSureBy (wsV RX12 333 RX12 yX12_everybody wsX12_everybody) := goodIn_app (goodIn_of _ (by decide +kernel)) ggX12_isSureBy_X12_everybody
set_option maxRecDepth 20000 in
theorem ggX12_isSureBy_X12_bits : GoodIn wsX12_isSureBy wsX12_bits := goodIn_r _ [9] (by decide +kernel) (by decide +kernel)
set_option maxRecDepth 20000 in
theorem gX12_isSureBy_X12_bits : GoodIn wsX12_isSureBy (va_wsS RX12 326 yX12_bits wsX12_bits) := goodIn_app (goodIn_of _ (by decide +kernel)) ggX12_isSureBy_X12_bits
set_option maxRecDepth 20000 in
theorem ggX12_isSureBy_X12_areAlikeAt : GoodIn wsX12_isSureBy wsX12_areAlikeAt := goodIn_r _ [13, 6, 14, 15, 16, 4, 17, 18, 19, 20, 21, 22, 23, 24, 25, 26, 27, 28, 29, 30, 31, 32, 33, 34, 35, 36, 37, 38, 39, 40, 41, 42, 43, 44, 45, 46, 47, 48, 49, 50, 51, 52, 53, 54, 55, 56, 57, 58, 59, 60, 61] (by decide +kernel) (by decide +kernel)
set_option maxRecDepth 20000 in
theorem gX12_isSureBy_X12_areAlikeAt : GoodIn wsX12_isSureBy (wsV RX12 387 RX12 yX12_areAlikeAt wsX12_areAlikeAt) := goodIn_app (goodIn_of _ (by decide +kernel)) ggX12_isSureBy_X12_areAlikeAt
theorem dX12_isSureBy_0 : decode cX12_isSureBy 0 = .ok (.iconst 0, 1) := by decide +kernel
theorem dX12_isSureBy_1 : decode cX12_isSureBy 1 = .ok (.istore_n 2, 1) := by decide +kernel
theorem dX12_isSureBy_2 : decode cX12_isSureBy 2 = .ok (.iload_n 2, 1) := by decide +kernel
theorem dX12_isSureBy_3 : decode cX12_isSureBy 3 = .ok (.aload_n 0, 1) := by decide +kernel
theorem dX12_isSureBy_4 : decode cX12_isSureBy 4 = .ok (.invokevirtual 333, 3) := by decide +kernel
theorem dX12_isSureBy_7 : decode cX12_isSureBy 7 = .ok (.if_icmp .gt 50, 3) := by decide +kernel
theorem dX12_isSureBy_10 : decode cX12_isSureBy 10 = .ok (.iload_n 2, 1) := by decide +kernel
theorem dX12_isSureBy_11 : decode cX12_isSureBy 11 = .ok (.iconst 1, 1) := by decide +kernel
theorem dX12_isSureBy_12 : decode cX12_isSureBy 12 = .ok (.iadd, 1) := by decide +kernel
theorem dX12_isSureBy_13 : decode cX12_isSureBy 13 = .ok (.istore_n 3, 1) := by decide +kernel
theorem dX12_isSureBy_14 : decode cX12_isSureBy 14 = .ok (.iload_n 3, 1) := by decide +kernel
theorem dX12_isSureBy_15 : decode cX12_isSureBy 15 = .ok (.aload_n 0, 1) := by decide +kernel
theorem dX12_isSureBy_16 : decode cX12_isSureBy 16 = .ok (.invokevirtual 333, 3) := by decide +kernel
theorem dX12_isSureBy_19 : decode cX12_isSureBy 19 = .ok (.if_icmp .gt 32, 3) := by decide +kernel
theorem dX12_isSureBy_22 : decode cX12_isSureBy 22 = .ok (.iload_n 2, 1) := by decide +kernel
theorem dX12_isSureBy_23 : decode cX12_isSureBy 23 = .ok (.invokestatic 326, 3) := by decide +kernel
theorem dX12_isSureBy_26 : decode cX12_isSureBy 26 = .ok (.iload_n 3, 1) := by decide +kernel
theorem dX12_isSureBy_27 : decode cX12_isSureBy 27 = .ok (.invokestatic 326, 3) := by decide +kernel
theorem dX12_isSureBy_30 : decode cX12_isSureBy 30 = .ok (.if_icmp .eq 15, 3) := by decide +kernel
theorem dX12_isSureBy_33 : decode cX12_isSureBy 33 = .ok (.aload_n 0, 1) := by decide +kernel
theorem dX12_isSureBy_34 : decode cX12_isSureBy 34 = .ok (.iload_n 2, 1) := by decide +kernel
theorem dX12_isSureBy_35 : decode cX12_isSureBy 35 = .ok (.iload_n 3, 1) := by decide +kernel
theorem dX12_isSureBy_36 : decode cX12_isSureBy 36 = .ok (.iload_n 1, 1) := by decide +kernel
theorem dX12_isSureBy_37 : decode cX12_isSureBy 37 = .ok (.invokevirtual 387, 3) := by decide +kernel
theorem dX12_isSureBy_40 : decode cX12_isSureBy 40 = .ok (.ifCond .eq 5, 3) := by decide +kernel
theorem dX12_isSureBy_43 : decode cX12_isSureBy 43 = .ok (.iconst 0, 1) := by decide +kernel
theorem dX12_isSureBy_44 : decode cX12_isSureBy 44 = .ok (.ireturn, 1) := by decide +kernel
theorem dX12_isSureBy_45 : decode cX12_isSureBy 45 = .ok (.iinc 3 1, 3) := by decide +kernel
theorem dX12_isSureBy_48 : decode cX12_isSureBy 48 = .ok (.goto (-34), 3) := by decide +kernel
theorem dX12_isSureBy_51 : decode cX12_isSureBy 51 = .ok (.iinc 2 1, 3) := by decide +kernel
theorem dX12_isSureBy_54 : decode cX12_isSureBy 54 = .ok (.goto (-52), 3) := by decide +kernel
theorem dX12_isSureBy_57 : decode cX12_isSureBy 57 = .ok (.iconst 1, 1) := by decide +kernel
theorem dX12_isSureBy_58 : decode cX12_isSureBy 58 = .ok (.ireturn, 1) := by decide +kernel
set_option maxRecDepth 20000 in
theorem ggX12_gates_X12_isTown : GoodIn wsX12_gates wsX12_isTown := goodIn_r _ [6, 1, 94, 95, 96, 97, 98, 99, 100, 101, 102, 103, 104, 105, 106, 107, 108, 109, 110, 111, 112, 113, 114, 115, 116, 117, 118, 119, 120, 121, 122, 123, 124, 125, 126, 127, 128, 129, 130, 131, 132, 133, 134, 135, 136, 137] (by decide +kernel) (by decide +kernel)
set_option maxRecDepth 20000 in
theorem gX12_gates_X12_isTown : GoodIn wsX12_gates (wsV RX12 360 RX12 yX12_isTown wsX12_isTown) := goodIn_app (goodIn_of _ (by decide +kernel)) ggX12_gates_X12_isTown
set_option maxRecDepth 20000 in
theorem ggX12_gates_X12_in : GoodIn wsX12_gates wsX12_in := goodIn_r _ [9] (by decide +kernel) (by decide +kernel)
set_option maxRecDepth 20000 in
theorem gX12_gates_X12_in : GoodIn wsX12_gates (va_wsS RX12 127 yX12_in wsX12_in) := goodIn_app (goodIn_of _ (by decide +kernel)) ggX12_gates_X12_in
set_option maxRecDepth 20000 in
theorem ggX12_gates_X12_sorts : GoodIn wsX12_gates wsX12_sorts := goodIn_r _ [13, 1, 14, 15, 16, 17, 18, 5, 19, 20, 21, 22, 23, 24, 25, 26, 27, 28, 29, 30, 31, 32, 33, 34, 35, 36, 37, 38, 39, 40, 41, 42, 43, 44, 45, 46, 47, 48, 49, 50, 51, 52, 53, 54, 55, 56, 57, 58, 59, 60, 61, 62, 63, 64, 65, 66, 67, 68, 69, 70, 71, 72, 73, 74, 75, 76, 77, 78, 79, 80, 81, 82, 83, 84, 85, 94, 95, 96, 97, 98, 99, 100, 101, 102, 103, 104, 105, 106, 107, 108, 109, 110, 111, 112, 113, 114, 115, 116, 117, 118, 119, 120, 121, 122, 123, 124, 125, 126, 127, 128, 129, 130, 131, 132, 133, 134, 135, 136, 137] (by decide +kernel) (by decide +kernel)
set_option maxRecDepth 20000 in
theorem gX12_gates_X12_sorts : GoodIn wsX12_gates (wsV RX12 390 RX12 yX12_sorts wsX12_sorts) := goodIn_app (goodIn_of _ (by decide +kernel)) ggX12_gates_X12_sorts
set_option maxRecDepth 20000 in
theorem ggX12_gates_X12_bits : GoodIn wsX12_gates wsX12_bits := goodIn_r _ [37] (by decide +kernel) (by decide +kernel)
set_option maxRecDepth 20000 in
theorem gX12_gates_X12_bits : GoodIn wsX12_gates (va_wsS RX12 326 yX12_bits wsX12_bits) := goodIn_app (goodIn_of _ (by decide +kernel)) ggX12_gates_X12_bits
set_option maxRecDepth 20000 in
theorem ggX12_gates_X12_isSureBy : GoodIn wsX12_gates wsX12_isSureBy := goodIn_r _ [89, 16, 17, 18, 5, 19, 1, 35, 36, 37, 90, 91, 92, 93, 15, 28, 29, 30, 94, 95, 96, 97, 98, 99, 100, 101, 102, 103, 104, 105, 106, 107, 108, 109, 110, 111, 112, 113, 114, 115, 116, 117, 118, 119, 120, 121, 122, 123, 124, 125, 126, 127, 128, 129, 130, 131, 132, 133, 134, 135, 136, 137] (by decide +kernel) (by decide +kernel)
set_option maxRecDepth 20000 in
theorem gX12_gates_X12_isSureBy : GoodIn wsX12_gates (wsV RX12 393 RX12 yX12_isSureBy wsX12_isSureBy) := goodIn_app (goodIn_of _ (by decide +kernel)) ggX12_gates_X12_isSureBy
theorem dX12_gates_0 : decode cX12_gates 0 = .ok (.aload_n 0, 1) := by decide +kernel
theorem dX12_gates_1 : decode cX12_gates 1 = .ok (.invokevirtual 360, 3) := by decide +kernel
theorem dX12_gates_4 : decode cX12_gates 4 = .ok (.ifCond .eq 13, 3) := by decide +kernel
theorem dX12_gates_7 : decode cX12_gates 7 = .ok (.iload_n 1, 1) := by decide +kernel
theorem dX12_gates_8 : decode cX12_gates 8 = .ok (.i2l, 1) := by decide +kernel
theorem dX12_gates_9 : decode cX12_gates 9 = .ok (.lconst 0, 1) := by decide +kernel
theorem dX12_gates_10 : decode cX12_gates 10 = .ok (.lconst 1, 1) := by decide +kernel
theorem dX12_gates_11 : decode cX12_gates 11 = .ok (.invokestatic 127, 3) := by decide +kernel
theorem dX12_gates_14 : decode cX12_gates 14 = .ok (.ifCond .ne 5, 3) := by decide +kernel
theorem dX12_gates_17 : decode cX12_gates 17 = .ok (.iconst (-1), 1) := by decide +kernel
theorem dX12_gates_18 : decode cX12_gates 18 = .ok (.ireturn, 1) := by decide +kernel
theorem dX12_gates_19 : decode cX12_gates 19 = .ok (.aload_n 0, 1) := by decide +kernel
theorem dX12_gates_20 : decode cX12_gates 20 = .ok (.getfield 39, 3) := by decide +kernel
theorem dX12_gates_23 : decode cX12_gates 23 = .ok (.iconst 2, 1) := by decide +kernel
theorem dX12_gates_24 : decode cX12_gates 24 = .ok (.iaload, 1) := by decide +kernel
theorem dX12_gates_25 : decode cX12_gates 25 = .ok (.bipush 8, 2) := by decide +kernel
theorem dX12_gates_27 : decode cX12_gates 27 = .ok (.if_icmp .le 6, 3) := by decide +kernel
theorem dX12_gates_30 : decode cX12_gates 30 = .ok (.bipush (-3), 2) := by decide +kernel
theorem dX12_gates_32 : decode cX12_gates 32 = .ok (.ireturn, 1) := by decide +kernel
theorem dX12_gates_33 : decode cX12_gates 33 = .ok (.iconst 0, 1) := by decide +kernel
theorem dX12_gates_34 : decode cX12_gates 34 = .ok (.istore_n 2, 1) := by decide +kernel
theorem dX12_gates_35 : decode cX12_gates 35 = .ok (.iload_n 2, 1) := by decide +kernel
theorem dX12_gates_36 : decode cX12_gates 36 = .ok (.aload_n 0, 1) := by decide +kernel
theorem dX12_gates_37 : decode cX12_gates 37 = .ok (.getfield 39, 3) := by decide +kernel
theorem dX12_gates_40 : decode cX12_gates 40 = .ok (.iconst 0, 1) := by decide +kernel
theorem dX12_gates_41 : decode cX12_gates 41 = .ok (.iaload, 1) := by decide +kernel
theorem dX12_gates_42 : decode cX12_gates 42 = .ok (.if_icmp .ge 14, 3) := by decide +kernel
theorem dX12_gates_45 : decode cX12_gates 45 = .ok (.aload_n 0, 1) := by decide +kernel
theorem dX12_gates_46 : decode cX12_gates 46 = .ok (.iload_n 2, 1) := by decide +kernel
theorem dX12_gates_47 : decode cX12_gates 47 = .ok (.invokevirtual 390, 3) := by decide +kernel
theorem dX12_gates_50 : decode cX12_gates 50 = .ok (.iinc 2 1, 3) := by decide +kernel
theorem dX12_gates_53 : decode cX12_gates 53 = .ok (.goto (-18), 3) := by decide +kernel
theorem dX12_gates_56 : decode cX12_gates 56 = .ok (.bipush (-2), 2) := by decide +kernel
theorem dX12_gates_58 : decode cX12_gates 58 = .ok (.istore_n 2, 1) := by decide +kernel
theorem dX12_gates_59 : decode cX12_gates 59 = .ok (.iconst 0, 1) := by decide +kernel
theorem dX12_gates_60 : decode cX12_gates 60 = .ok (.istore_n 3, 1) := by decide +kernel
theorem dX12_gates_61 : decode cX12_gates 61 = .ok (.iload_n 3, 1) := by decide +kernel
theorem dX12_gates_62 : decode cX12_gates 62 = .ok (.iconst 1, 1) := by decide +kernel
theorem dX12_gates_63 : decode cX12_gates 63 = .ok (.aload_n 0, 1) := by decide +kernel
theorem dX12_gates_64 : decode cX12_gates 64 = .ok (.getfield 39, 3) := by decide +kernel
theorem dX12_gates_67 : decode cX12_gates 67 = .ok (.iconst 0, 1) := by decide +kernel
theorem dX12_gates_68 : decode cX12_gates 68 = .ok (.iaload, 1) := by decide +kernel
theorem dX12_gates_69 : decode cX12_gates 69 = .ok (.ishl, 1) := by decide +kernel
theorem dX12_gates_70 : decode cX12_gates 70 = .ok (.if_icmp .ge 34, 3) := by decide +kernel
theorem dX12_gates_73 : decode cX12_gates 73 = .ok (.iload_n 2, 1) := by decide +kernel
theorem dX12_gates_74 : decode cX12_gates 74 = .ok (.ifCond .lt 14, 3) := by decide +kernel
theorem dX12_gates_77 : decode cX12_gates 77 = .ok (.iload_n 3, 1) := by decide +kernel
theorem dX12_gates_78 : decode cX12_gates 78 = .ok (.invokestatic 326, 3) := by decide +kernel
theorem dX12_gates_81 : decode cX12_gates 81 = .ok (.iload_n 2, 1) := by decide +kernel
theorem dX12_gates_82 : decode cX12_gates 82 = .ok (.invokestatic 326, 3) := by decide +kernel
theorem dX12_gates_85 : decode cX12_gates 85 = .ok (.if_icmp .ge 13, 3) := by decide +kernel
theorem dX12_gates_88 : decode cX12_gates 88 = .ok (.aload_n 0, 1) := by decide +kernel
theorem dX12_gates_89 : decode cX12_gates 89 = .ok (.iload_n 3, 1) := by decide +kernel
theorem dX12_gates_90 : decode cX12_gates 90 = .ok (.invokevirtual 393, 3) := by decide +kernel
theorem dX12_gates_93 : decode cX12_gates 93 = .ok (.ifCond .eq 5, 3) := by decide +kernel
theorem dX12_gates_96 : decode cX12_gates 96 = .ok (.iload_n 3, 1) := by decide +kernel
theorem dX12_gates_97 : decode cX12_gates 97 = .ok (.istore_n 2, 1) := by decide +kernel
theorem dX12_gates_98 : decode cX12_gates 98 = .ok (.iinc 3 1, 3) := by decide +kernel
theorem dX12_gates_101 : decode cX12_gates 101 = .ok (.goto (-40), 3) := by decide +kernel
theorem dX12_gates_104 : decode cX12_gates 104 = .ok (.iload_n 2, 1) := by decide +kernel
theorem dX12_gates_105 : decode cX12_gates 105 = .ok (.ifCond .ge 8, 3) := by decide +kernel
theorem dX12_gates_108 : decode cX12_gates 108 = .ok (.bipush (-2), 2) := by decide +kernel
theorem dX12_gates_110 : decode cX12_gates 110 = .ok (.goto 15, 3) := by decide +kernel
theorem dX12_gates_113 : decode cX12_gates 113 = .ok (.iload_n 1, 1) := by decide +kernel
theorem dX12_gates_114 : decode cX12_gates 114 = .ok (.ifCond .ne 10, 3) := by decide +kernel
theorem dX12_gates_117 : decode cX12_gates 117 = .ok (.iload_n 2, 1) := by decide +kernel
theorem dX12_gates_118 : decode cX12_gates 118 = .ok (.invokestatic 326, 3) := by decide +kernel
theorem dX12_gates_121 : decode cX12_gates 121 = .ok (.goto 4, 3) := by decide +kernel
theorem dX12_gates_124 : decode cX12_gates 124 = .ok (.iload_n 2, 1) := by decide +kernel
theorem dX12_gates_125 : decode cX12_gates 125 = .ok (.ireturn, 1) := by decide +kernel
set_option maxRecDepth 20000 in
theorem ggX12_cheat_X12_isPerson : GoodIn wsX12_cheat wsX12_isPerson := goodIn_r _ [8, 3, 82, 83, 84, 85, 86, 87, 88, 89, 90, 91, 92, 93, 94, 95, 96, 97, 98, 99, 100, 101, 102, 103, 104, 105, 106, 107, 108, 109, 110, 111, 112, 113, 114, 115, 116, 117, 118, 119, 120, 121, 122, 123, 124, 125] (by decide +kernel) (by decide +kernel)
set_option maxRecDepth 20000 in
theorem gX12_cheat_X12_isPerson : GoodIn wsX12_cheat (wsV RX12 339 RX12 yX12_isPerson wsX12_isPerson) := goodIn_app (goodIn_of _ (by decide +kernel)) ggX12_cheat_X12_isPerson
set_option maxRecDepth 20000 in
theorem ggX12_cheat_X12_in : GoodIn wsX12_cheat wsX12_in := goodIn_r _ [11] (by decide +kernel) (by decide +kernel)
set_option maxRecDepth 20000 in
theorem gX12_cheat_X12_in : GoodIn wsX12_cheat (va_wsS RX12 127 yX12_in wsX12_in) := goodIn_app (goodIn_of _ (by decide +kernel)) ggX12_cheat_X12_in
set_option maxRecDepth 20000 in
theorem ggX12_cheat_X12_placeOf : GoodIn wsX12_cheat wsX12_placeOf := goodIn_r _ [15, 3, 82, 83, 84, 85, 86, 87, 88, 89, 90, 91, 92, 93, 94, 95, 96, 97, 98, 99, 100, 101, 102, 103, 104, 105, 106, 107, 108, 109, 110, 111, 112, 113, 114, 115, 116, 117, 118, 119, 120, 121, 122, 123, 124, 125] (by decide +kernel) (by decide +kernel)
set_option maxRecDepth 20000 in
theorem gX12_cheat_X12_placeOf : GoodIn wsX12_cheat (wsV RX12 291 RX12 yX12_placeOf wsX12_placeOf) := goodIn_app (goodIn_of _ (by decide +kernel)) ggX12_cheat_X12_placeOf
set_option maxRecDepth 20000 in
theorem ggX12_cheat_X12_totalOf : GoodIn wsX12_cheat wsX12_totalOf := goodIn_r _ [19, 3, 20, 21, 22, 7, 23, 24, 25, 26, 27, 28, 29, 30, 31, 32, 33, 34, 12, 13, 14, 15, 35, 36, 37, 38, 39, 40, 41, 42, 43, 44, 45, 46, 47, 48, 49, 50, 51, 52, 53, 54, 55, 56, 57, 58, 59, 60, 61, 62, 63, 64, 65, 66, 67, 68, 69, 70, 71, 72, 73, 74, 75, 76, 77, 78, 79, 80, 81, 82, 83, 84, 85, 86, 87, 88, 89, 90, 91, 92, 93, 94, 95, 96, 97, 98, 99, 100, 101, 102, 103, 104, 105, 106, 107, 108, 109, 110, 111, 112, 113, 114, 115, 116, 117, 118, 119, 120, 121, 122, 123, 124, 125] (by decide +kernel) (by decide +kernel)
set_option maxRecDepth 20000 in
theorem gX12_cheat_X12_totalOf : GoodIn wsX12_cheat (wsV RX12 357 RX12 yX12_totalOf wsX12_totalOf) := goodIn_app (goodIn_of _ (by decide +kernel)) ggX12_cheat_X12_totalOf
theorem dX12_cheat_0 : decode cX12_cheat 0 = .ok (.aload_n 0, 1) := by decide +kernel
theorem dX12_cheat_1 : decode cX12_cheat 1 = .ok (.iload_n 1, 1) := by decide +kernel
theorem dX12_cheat_2 : decode cX12_cheat 2 = .ok (.invokevirtual 339, 3) := by decide +kernel
theorem dX12_cheat_5 : decode cX12_cheat 5 = .ok (.ifCond .eq 15, 3) := by decide +kernel
theorem dX12_cheat_8 : decode cX12_cheat 8 = .ok (.iload_n 2, 1) := by decide +kernel
theorem dX12_cheat_9 : decode cX12_cheat 9 = .ok (.i2l, 1) := by decide +kernel
theorem dX12_cheat_10 : decode cX12_cheat 10 = .ok (.lconst 0, 1) := by decide +kernel
theorem dX12_cheat_11 : decode cX12_cheat 11 = .ok (.ldc2_w 379, 3) := by decide +kernel
theorem dX12_cheat_14 : decode cX12_cheat 14 = .ok (.invokestatic 127, 3) := by decide +kernel
theorem dX12_cheat_17 : decode cX12_cheat 17 = .ok (.ifCond .ne 7, 3) := by decide +kernel
theorem dX12_cheat_20 : decode cX12_cheat 20 = .ok (.ldc_w 356, 3) := by decide +kernel
theorem dX12_cheat_23 : decode cX12_cheat 23 = .ok (.ireturn, 1) := by decide +kernel
theorem dX12_cheat_24 : decode cX12_cheat 24 = .ok (.iconst (-1), 1) := by decide +kernel
theorem dX12_cheat_25 : decode cX12_cheat 25 = .ok (.istore_n 3, 1) := by decide +kernel
theorem dX12_cheat_26 : decode cX12_cheat 26 = .ok (.iconst (-1), 1) := by decide +kernel
theorem dX12_cheat_27 : decode cX12_cheat 27 = .ok (.istore 4, 2) := by decide +kernel
theorem dX12_cheat_29 : decode cX12_cheat 29 = .ok (.iconst 0, 1) := by decide +kernel
theorem dX12_cheat_30 : decode cX12_cheat 30 = .ok (.istore 5, 2) := by decide +kernel
theorem dX12_cheat_32 : decode cX12_cheat 32 = .ok (.iconst 0, 1) := by decide +kernel
theorem dX12_cheat_33 : decode cX12_cheat 33 = .ok (.istore 6, 2) := by decide +kernel
theorem dX12_cheat_35 : decode cX12_cheat 35 = .ok (.iload 6, 2) := by decide +kernel
theorem dX12_cheat_37 : decode cX12_cheat 37 = .ok (.aload_n 0, 1) := by decide +kernel
theorem dX12_cheat_38 : decode cX12_cheat 38 = .ok (.getfield 39, 3) := by decide +kernel
theorem dX12_cheat_41 : decode cX12_cheat 41 = .ok (.iconst 1, 1) := by decide +kernel
theorem dX12_cheat_42 : decode cX12_cheat 42 = .ok (.iaload, 1) := by decide +kernel
theorem dX12_cheat_43 : decode cX12_cheat 43 = .ok (.if_icmp .ge 127, 3) := by decide +kernel
theorem dX12_cheat_46 : decode cX12_cheat 46 = .ok (.aload_n 0, 1) := by decide +kernel
theorem dX12_cheat_47 : decode cX12_cheat 47 = .ok (.iload_n 1, 1) := by decide +kernel
theorem dX12_cheat_48 : decode cX12_cheat 48 = .ok (.iload 6, 2) := by decide +kernel
theorem dX12_cheat_50 : decode cX12_cheat 50 = .ok (.invokevirtual 291, 3) := by decide +kernel
theorem dX12_cheat_53 : decode cX12_cheat 53 = .ok (.istore 7, 2) := by decide +kernel
theorem dX12_cheat_55 : decode cX12_cheat 55 = .ok (.iconst (-1), 1) := by decide +kernel
theorem dX12_cheat_56 : decode cX12_cheat 56 = .ok (.istore 8, 2) := by decide +kernel
theorem dX12_cheat_58 : decode cX12_cheat 58 = .ok (.iload 8, 2) := by decide +kernel
theorem dX12_cheat_60 : decode cX12_cheat 60 = .ok (.aload_n 0, 1) := by decide +kernel
theorem dX12_cheat_61 : decode cX12_cheat 61 = .ok (.getfield 39, 3) := by decide +kernel
theorem dX12_cheat_64 : decode cX12_cheat 64 = .ok (.iconst 0, 1) := by decide +kernel
theorem dX12_cheat_65 : decode cX12_cheat 65 = .ok (.iaload, 1) := by decide +kernel
theorem dX12_cheat_66 : decode cX12_cheat 66 = .ok (.if_icmp .ge 81, 3) := by decide +kernel
theorem dX12_cheat_69 : decode cX12_cheat 69 = .ok (.iload 8, 2) := by decide +kernel
theorem dX12_cheat_71 : decode cX12_cheat 71 = .ok (.ifCond .ge 8, 3) := by decide +kernel
theorem dX12_cheat_74 : decode cX12_cheat 74 = .ok (.bipush 99, 2) := by decide +kernel
theorem dX12_cheat_76 : decode cX12_cheat 76 = .ok (.goto 5, 3) := by decide +kernel
theorem dX12_cheat_79 : decode cX12_cheat 79 = .ok (.iload 8, 2) := by decide +kernel
theorem dX12_cheat_81 : decode cX12_cheat 81 = .ok (.istore 9, 2) := by decide +kernel
theorem dX12_cheat_83 : decode cX12_cheat 83 = .ok (.iload 9, 2) := by decide +kernel
theorem dX12_cheat_85 : decode cX12_cheat 85 = .ok (.iload 7, 2) := by decide +kernel
theorem dX12_cheat_87 : decode cX12_cheat 87 = .ok (.if_icmp .ne 6, 3) := by decide +kernel
theorem dX12_cheat_90 : decode cX12_cheat 90 = .ok (.goto 51, 3) := by decide +kernel
theorem dX12_cheat_93 : decode cX12_cheat 93 = .ok (.aload_n 0, 1) := by decide +kernel
theorem dX12_cheat_94 : decode cX12_cheat 94 = .ok (.getfield 39, 3) := by decide +kernel
theorem dX12_cheat_97 : decode cX12_cheat 97 = .ok (.bipush 10, 2) := by decide +kernel
theorem dX12_cheat_99 : decode cX12_cheat 99 = .ok (.bipush 12, 2) := by decide +kernel
theorem dX12_cheat_101 : decode cX12_cheat 101 = .ok (.iload_n 1, 1) := by decide +kernel
theorem dX12_cheat_102 : decode cX12_cheat 102 = .ok (.imul, 1) := by decide +kernel
theorem dX12_cheat_103 : decode cX12_cheat 103 = .ok (.iadd, 1) := by decide +kernel
theorem dX12_cheat_104 : decode cX12_cheat 104 = .ok (.iload 6, 2) := by decide +kernel
theorem dX12_cheat_106 : decode cX12_cheat 106 = .ok (.iadd, 1) := by decide +kernel
theorem dX12_cheat_107 : decode cX12_cheat 107 = .ok (.iload 9, 2) := by decide +kernel
theorem dX12_cheat_109 : decode cX12_cheat 109 = .ok (.iastore, 1) := by decide +kernel
theorem dX12_cheat_110 : decode cX12_cheat 110 = .ok (.aload_n 0, 1) := by decide +kernel
theorem dX12_cheat_111 : decode cX12_cheat 111 = .ok (.invokevirtual 357, 3) := by decide +kernel
theorem dX12_cheat_114 : decode cX12_cheat 114 = .ok (.istore 10, 2) := by decide +kernel
theorem dX12_cheat_116 : decode cX12_cheat 116 = .ok (.iload_n 3, 1) := by decide +kernel
theorem dX12_cheat_117 : decode cX12_cheat 117 = .ok (.ifCond .lt 13, 3) := by decide +kernel
theorem dX12_cheat_120 : decode cX12_cheat 120 = .ok (.iload 10, 2) := by decide +kernel
theorem dX12_cheat_122 : decode cX12_cheat 122 = .ok (.iload 5, 2) := by decide +kernel
theorem dX12_cheat_124 : decode cX12_cheat 124 = .ok (.if_icmp .gt 6, 3) := by decide +kernel
theorem dX12_cheat_127 : decode cX12_cheat 127 = .ok (.goto 14, 3) := by decide +kernel
theorem dX12_cheat_130 : decode cX12_cheat 130 = .ok (.iload 6, 2) := by decide +kernel
theorem dX12_cheat_132 : decode cX12_cheat 132 = .ok (.istore_n 3, 1) := by decide +kernel
theorem dX12_cheat_133 : decode cX12_cheat 133 = .ok (.iload 9, 2) := by decide +kernel
theorem dX12_cheat_135 : decode cX12_cheat 135 = .ok (.istore 4, 2) := by decide +kernel
theorem dX12_cheat_137 : decode cX12_cheat 137 = .ok (.iload 10, 2) := by decide +kernel
theorem dX12_cheat_139 : decode cX12_cheat 139 = .ok (.istore 5, 2) := by decide +kernel
theorem dX12_cheat_141 : decode cX12_cheat 141 = .ok (.iinc 8 1, 3) := by decide +kernel
theorem dX12_cheat_144 : decode cX12_cheat 144 = .ok (.goto (-86), 3) := by decide +kernel
theorem dX12_cheat_147 : decode cX12_cheat 147 = .ok (.aload_n 0, 1) := by decide +kernel
theorem dX12_cheat_148 : decode cX12_cheat 148 = .ok (.getfield 39, 3) := by decide +kernel
theorem dX12_cheat_151 : decode cX12_cheat 151 = .ok (.bipush 10, 2) := by decide +kernel
theorem dX12_cheat_153 : decode cX12_cheat 153 = .ok (.bipush 12, 2) := by decide +kernel
theorem dX12_cheat_155 : decode cX12_cheat 155 = .ok (.iload_n 1, 1) := by decide +kernel
theorem dX12_cheat_156 : decode cX12_cheat 156 = .ok (.imul, 1) := by decide +kernel
theorem dX12_cheat_157 : decode cX12_cheat 157 = .ok (.iadd, 1) := by decide +kernel
theorem dX12_cheat_158 : decode cX12_cheat 158 = .ok (.iload 6, 2) := by decide +kernel
theorem dX12_cheat_160 : decode cX12_cheat 160 = .ok (.iadd, 1) := by decide +kernel
theorem dX12_cheat_161 : decode cX12_cheat 161 = .ok (.iload 7, 2) := by decide +kernel
theorem dX12_cheat_163 : decode cX12_cheat 163 = .ok (.iastore, 1) := by decide +kernel
theorem dX12_cheat_164 : decode cX12_cheat 164 = .ok (.iinc 6 1, 3) := by decide +kernel
theorem dX12_cheat_167 : decode cX12_cheat 167 = .ok (.goto (-132), 3) := by decide +kernel
theorem dX12_cheat_170 : decode cX12_cheat 170 = .ok (.iload_n 2, 1) := by decide +kernel
theorem dX12_cheat_171 : decode cX12_cheat 171 = .ok (.ifCond .ne 8, 3) := by decide +kernel
theorem dX12_cheat_174 : decode cX12_cheat 174 = .ok (.iload 5, 2) := by decide +kernel
theorem dX12_cheat_176 : decode cX12_cheat 176 = .ok (.goto 14, 3) := by decide +kernel
theorem dX12_cheat_179 : decode cX12_cheat 179 = .ok (.iload_n 2, 1) := by decide +kernel
theorem dX12_cheat_180 : decode cX12_cheat 180 = .ok (.iconst 1, 1) := by decide +kernel
theorem dX12_cheat_181 : decode cX12_cheat 181 = .ok (.if_icmp .ne 7, 3) := by decide +kernel
theorem dX12_cheat_184 : decode cX12_cheat 184 = .ok (.iload_n 3, 1) := by decide +kernel
theorem dX12_cheat_185 : decode cX12_cheat 185 = .ok (.goto 5, 3) := by decide +kernel
theorem dX12_cheat_188 : decode cX12_cheat 188 = .ok (.iload 4, 2) := by decide +kernel
theorem dX12_cheat_190 : decode cX12_cheat 190 = .ok (.ireturn, 1) := by decide +kernel
set_option maxRecDepth 20000 in
theorem ggX12_turnsGloves_X12_isOf : GoodIn wsX12_turnsGloves wsX12_isOf := goodIn_r _ [5] (by decide +kernel) (by decide +kernel)
set_option maxRecDepth 20000 in
theorem gX12_turnsGloves_X12_isOf : GoodIn wsX12_turnsGloves (va_wsS RX12 299 yX12_isOf wsX12_isOf) := goodIn_app (goodIn_of _ (by decide +kernel)) ggX12_turnsGloves_X12_isOf
set_option maxRecDepth 20000 in
theorem ggX12_turnsGloves_X12_personOf : GoodIn wsX12_turnsGloves wsX12_personOf := goodIn_r _ [9, 1, 10, 11, 12, 13, 14, 15, 16, 17, 18, 19, 20, 21, 22, 23, 24, 25, 26, 27, 28, 29, 30, 31, 32, 33, 34, 35, 36, 37, 38, 39, 40, 41, 42, 43, 44, 45, 46, 47, 48, 49, 50, 51, 52, 53] (by decide +kernel) (by decide +kernel)
set_option maxRecDepth 20000 in
theorem gX12_turnsGloves_X12_personOf : GoodIn wsX12_turnsGloves (wsV RX12 305 RX12 yX12_personOf wsX12_personOf) := goodIn_app (goodIn_of _ (by decide +kernel)) ggX12_turnsGloves_X12_personOf
theorem dX12_turnsGloves_0 : decode cX12_turnsGloves 0 = .ok (.iconst 0, 1) := by decide +kernel
theorem dX12_turnsGloves_1 : decode cX12_turnsGloves 1 = .ok (.istore_n 2, 1) := by decide +kernel
theorem dX12_turnsGloves_2 : decode cX12_turnsGloves 2 = .ok (.iload_n 2, 1) := by decide +kernel
theorem dX12_turnsGloves_3 : decode cX12_turnsGloves 3 = .ok (.aload_n 0, 1) := by decide +kernel
theorem dX12_turnsGloves_4 : decode cX12_turnsGloves 4 = .ok (.getfield 39, 3) := by decide +kernel
theorem dX12_turnsGloves_7 : decode cX12_turnsGloves 7 = .ok (.iconst 2, 1) := by decide +kernel
theorem dX12_turnsGloves_8 : decode cX12_turnsGloves 8 = .ok (.iaload, 1) := by decide +kernel
theorem dX12_turnsGloves_9 : decode cX12_turnsGloves 9 = .ok (.if_icmp .ge 39, 3) := by decide +kernel
theorem dX12_turnsGloves_12 : decode cX12_turnsGloves 12 = .ok (.iload_n 1, 1) := by decide +kernel
theorem dX12_turnsGloves_13 : decode cX12_turnsGloves 13 = .ok (.iload_n 2, 1) := by decide +kernel
theorem dX12_turnsGloves_14 : decode cX12_turnsGloves 14 = .ok (.invokestatic 299, 3) := by decide +kernel
theorem dX12_turnsGloves_17 : decode cX12_turnsGloves 17 = .ok (.ifCond .eq 25, 3) := by decide +kernel
theorem dX12_turnsGloves_20 : decode cX12_turnsGloves 20 = .ok (.aload_n 0, 1) := by decide +kernel
theorem dX12_turnsGloves_21 : decode cX12_turnsGloves 21 = .ok (.getfield 39, 3) := by decide +kernel
theorem dX12_turnsGloves_24 : decode cX12_turnsGloves 24 = .ok (.sipush 130, 3) := by decide +kernel
theorem dX12_turnsGloves_27 : decode cX12_turnsGloves 27 = .ok (.iconst 4, 1) := by decide +kernel
theorem dX12_turnsGloves_28 : decode cX12_turnsGloves 28 = .ok (.iload_n 2, 1) := by decide +kernel
theorem dX12_turnsGloves_29 : decode cX12_turnsGloves 29 = .ok (.imul, 1) := by decide +kernel
theorem dX12_turnsGloves_30 : decode cX12_turnsGloves 30 = .ok (.iadd, 1) := by decide +kernel
theorem dX12_turnsGloves_31 : decode cX12_turnsGloves 31 = .ok (.iconst 1, 1) := by decide +kernel
theorem dX12_turnsGloves_32 : decode cX12_turnsGloves 32 = .ok (.iadd, 1) := by decide +kernel
theorem dX12_turnsGloves_33 : decode cX12_turnsGloves 33 = .ok (.iconst 1, 1) := by decide +kernel
theorem dX12_turnsGloves_34 : decode cX12_turnsGloves 34 = .ok (.aload_n 0, 1) := by decide +kernel
theorem dX12_turnsGloves_35 : decode cX12_turnsGloves 35 = .ok (.iload_n 2, 1) := by decide +kernel
theorem dX12_turnsGloves_36 : decode cX12_turnsGloves 36 = .ok (.iconst 1, 1) := by decide +kernel
theorem dX12_turnsGloves_37 : decode cX12_turnsGloves 37 = .ok (.invokevirtual 305, 3) := by decide +kernel
theorem dX12_turnsGloves_40 : decode cX12_turnsGloves 40 = .ok (.isub, 1) := by decide +kernel
theorem dX12_turnsGloves_41 : decode cX12_turnsGloves 41 = .ok (.iastore, 1) := by decide +kernel
theorem dX12_turnsGloves_42 : decode cX12_turnsGloves 42 = .ok (.iinc 2 1, 3) := by decide +kernel
theorem dX12_turnsGloves_45 : decode cX12_turnsGloves 45 = .ok (.goto (-43), 3) := by decide +kernel
theorem dX12_turnsGloves_48 : decode cX12_turnsGloves 48 = .ok (.return_, 1) := by decide +kernel
set_option maxRecDepth 20000 in
theorem ggX12_odd_X12_isTown : GoodIn wsX12_odd wsX12_isTown := goodIn_r _ [5, 6, 84, 85, 86, 87, 88, 89, 90, 91, 92, 93, 94, 95, 96, 97, 98, 99, 100, 101, 102, 103, 104, 105, 106, 107, 108, 109, 110, 111, 112, 113, 114, 115, 116, 117, 118, 119, 120, 121, 122, 123, 124, 125, 126, 127] (by decide +kernel) (by decide +kernel)
set_option maxRecDepth 20000 in
theorem gX12_odd_X12_isTown : GoodIn wsX12_odd (wsV RX12 360 RX12 yX12_isTown wsX12_isTown) := goodIn_app (goodIn_of _ (by decide +kernel)) ggX12_odd_X12_isTown
set_option maxRecDepth 20000 in
theorem ggX12_odd_X12_in : GoodIn wsX12_odd wsX12_in := goodIn_r _ [9] (by decide +kernel) (by decide +kernel)
set_option maxRecDepth 20000 in
theorem gX12_odd_X12_in : GoodIn wsX12_odd (va_wsS RX12 127 yX12_in wsX12_in) := goodIn_app (goodIn_of _ (by decide +kernel)) ggX12_odd_X12_in
set_option maxRecDepth 20000 in
theorem ggX12_odd_X12_everybody : GoodIn wsX12_odd wsX12_everybody := goodIn_r _ [13, 6, 84, 85, 86, 87, 88, 89, 90, 91, 92, 93, 94, 95, 96, 97, 98, 99, 100, 101, 102, 103, 104, 105, 106, 107, 108, 109, 110, 111, 112, 113, 114, 115, 116, 117, 118, 119, 120, 121, 122, 123, 124, 125, 126, 127] (by decide +kernel) (by decide +kernel)
set_option maxRecDepth 20000 in
theorem gX12_odd_X12_everybody : GoodIn wsX12_odd (wsV RX12 333 RX12 yX12_everybody wsX12_everybody) := goodIn_app (goodIn_of _ (by decide +kernel)) ggX12_odd_X12_everybody
set_option maxRecDepth 20000 in
theorem ggX12_odd_X12_bits : GoodIn wsX12_odd wsX12_bits := goodIn_r _ [16] (by decide +kernel) (by decide +kernel)
set_option maxRecDepth 20000 in
theorem gX12_odd_X12_bits : GoodIn wsX12_odd (va_wsS RX12 326 yX12_bits wsX12_bits) := goodIn_app (goodIn_of _ (by decide +kernel)) ggX12_odd_X12_bits
set_option maxRecDepth 20000 in
theorem ggX12_odd_X12_turnsGloves : GoodIn wsX12_odd wsX12_turnsGloves := goodIn_r _ [20, 6, 21, 22, 4, 23, 24, 25, 26, 27, 84, 85, 86, 87, 88, 89, 90, 91, 92, 93, 94, 95, 96, 97, 98, 99, 100, 101, 102, 103, 104, 105, 106, 107, 108, 109, 110, 111, 112, 113, 114, 115, 116, 117, 118, 119, 120, 121, 122, 123, 124, 125, 126, 127] (by decide +kernel) (by decide +kernel)
set_option maxRecDepth 20000 in
theorem gX12_odd_X12_turnsGloves : GoodIn wsX12_odd (wsV RX12 396 RX12 yX12_turnsGloves wsX12_turnsGloves) := goodIn_app (goodIn_of _ (by decide +kernel)) ggX12_odd_X12_turnsGloves
set_option maxRecDepth 20000 in
theorem ggX12_odd_X12_totalOf : GoodIn wsX12_odd wsX12_totalOf := goodIn_r _ [31, 6, 10, 11, 12, 4, 13, 32, 33, 34, 35, 36, 37, 38, 39, 21, 22, 23, 40, 41, 42, 43, 14, 15, 16, 44, 45, 46, 47, 48, 49, 50, 51, 52, 53, 54, 55, 56, 57, 58, 59, 60, 61, 24, 25, 26, 27, 62, 63, 64, 65, 66, 67, 68, 69, 70, 71, 72, 73, 74, 75, 76, 77, 78, 79, 80, 81, 82, 83, 84, 85, 86, 87, 88, 89, 90, 91, 92, 93, 94, 95, 96, 97, 98, 99, 100, 101, 102, 103, 104, 105, 106, 107, 108, 109, 110, 111, 112, 113, 114, 115, 116, 117, 118, 119, 120, 121, 122, 123, 124, 125, 126, 127] (by decide +kernel) (by decide +kernel)
set_option maxRecDepth 20000 in
theorem gX12_odd_X12_totalOf : GoodIn wsX12_odd (wsV RX12 357 RX12 yX12_totalOf wsX12_totalOf) := goodIn_app (goodIn_of _ (by decide +kernel)) ggX12_odd_X12_totalOf
theorem dX12_odd_0 : decode cX12_odd 0 = .ok (.aload_n 0, 1) := by decide +kernel
theorem dX12_odd_1 : decode cX12_odd 1 = .ok (.invokevirtual 360, 3) := by decide +kernel
theorem dX12_odd_4 : decode cX12_odd 4 = .ok (.ifCond .eq 13, 3) := by decide +kernel
theorem dX12_odd_7 : decode cX12_odd 7 = .ok (.iload_n 1, 1) := by decide +kernel
theorem dX12_odd_8 : decode cX12_odd 8 = .ok (.i2l, 1) := by decide +kernel
theorem dX12_odd_9 : decode cX12_odd 9 = .ok (.lconst 0, 1) := by decide +kernel
theorem dX12_odd_10 : decode cX12_odd 10 = .ok (.lconst 1, 1) := by decide +kernel
theorem dX12_odd_11 : decode cX12_odd 11 = .ok (.invokestatic 127, 3) := by decide +kernel
theorem dX12_odd_14 : decode cX12_odd 14 = .ok (.ifCond .ne 5, 3) := by decide +kernel
theorem dX12_odd_17 : decode cX12_odd 17 = .ok (.iconst (-1), 1) := by decide +kernel
theorem dX12_odd_18 : decode cX12_odd 18 = .ok (.ireturn, 1) := by decide +kernel
theorem dX12_odd_19 : decode cX12_odd 19 = .ok (.bipush (-2), 2) := by decide +kernel
theorem dX12_odd_21 : decode cX12_odd 21 = .ok (.istore_n 2, 1) := by decide +kernel
theorem dX12_odd_22 : decode cX12_odd 22 = .ok (.iconst 0, 1) := by decide +kernel
theorem dX12_odd_23 : decode cX12_odd 23 = .ok (.istore_n 3, 1) := by decide +kernel
theorem dX12_odd_24 : decode cX12_odd 24 = .ok (.iload_n 3, 1) := by decide +kernel
theorem dX12_odd_25 : decode cX12_odd 25 = .ok (.aload_n 0, 1) := by decide +kernel
theorem dX12_odd_26 : decode cX12_odd 26 = .ok (.invokevirtual 333, 3) := by decide +kernel
theorem dX12_odd_29 : decode cX12_odd 29 = .ok (.if_icmp .gt 52, 3) := by decide +kernel
theorem dX12_odd_32 : decode cX12_odd 32 = .ok (.iload_n 2, 1) := by decide +kernel
theorem dX12_odd_33 : decode cX12_odd 33 = .ok (.ifCond .lt 17, 3) := by decide +kernel
theorem dX12_odd_36 : decode cX12_odd 36 = .ok (.iload_n 3, 1) := by decide +kernel
theorem dX12_odd_37 : decode cX12_odd 37 = .ok (.invokestatic 326, 3) := by decide +kernel
theorem dX12_odd_40 : decode cX12_odd 40 = .ok (.iload_n 2, 1) := by decide +kernel
theorem dX12_odd_41 : decode cX12_odd 41 = .ok (.invokestatic 326, 3) := by decide +kernel
theorem dX12_odd_44 : decode cX12_odd 44 = .ok (.if_icmp .lt 6, 3) := by decide +kernel
theorem dX12_odd_47 : decode cX12_odd 47 = .ok (.goto 28, 3) := by decide +kernel
theorem dX12_odd_50 : decode cX12_odd 50 = .ok (.aload_n 0, 1) := by decide +kernel
theorem dX12_odd_51 : decode cX12_odd 51 = .ok (.iload_n 3, 1) := by decide +kernel
theorem dX12_odd_52 : decode cX12_odd 52 = .ok (.invokevirtual 396, 3) := by decide +kernel
theorem dX12_odd_55 : decode cX12_odd 55 = .ok (.aload_n 0, 1) := by decide +kernel
theorem dX12_odd_56 : decode cX12_odd 56 = .ok (.invokevirtual 357, 3) := by decide +kernel
theorem dX12_odd_59 : decode cX12_odd 59 = .ok (.istore 4, 2) := by decide +kernel
theorem dX12_odd_61 : decode cX12_odd 61 = .ok (.aload_n 0, 1) := by decide +kernel
theorem dX12_odd_62 : decode cX12_odd 62 = .ok (.iload_n 3, 1) := by decide +kernel
theorem dX12_odd_63 : decode cX12_odd 63 = .ok (.invokevirtual 396, 3) := by decide +kernel
theorem dX12_odd_66 : decode cX12_odd 66 = .ok (.iload 4, 2) := by decide +kernel
theorem dX12_odd_68 : decode cX12_odd 68 = .ok (.iconst 2, 1) := by decide +kernel
theorem dX12_odd_69 : decode cX12_odd 69 = .ok (.irem, 1) := by decide +kernel
theorem dX12_odd_70 : decode cX12_odd 70 = .ok (.ifCond .eq 5, 3) := by decide +kernel
theorem dX12_odd_73 : decode cX12_odd 73 = .ok (.iload_n 3, 1) := by decide +kernel
theorem dX12_odd_74 : decode cX12_odd 74 = .ok (.istore_n 2, 1) := by decide +kernel
theorem dX12_odd_75 : decode cX12_odd 75 = .ok (.iinc 3 1, 3) := by decide +kernel
theorem dX12_odd_78 : decode cX12_odd 78 = .ok (.goto (-54), 3) := by decide +kernel
theorem dX12_odd_81 : decode cX12_odd 81 = .ok (.iload_n 2, 1) := by decide +kernel
theorem dX12_odd_82 : decode cX12_odd 82 = .ok (.ifCond .ge 8, 3) := by decide +kernel
theorem dX12_odd_85 : decode cX12_odd 85 = .ok (.bipush (-2), 2) := by decide +kernel
theorem dX12_odd_87 : decode cX12_odd 87 = .ok (.goto 15, 3) := by decide +kernel
theorem dX12_odd_90 : decode cX12_odd 90 = .ok (.iload_n 1, 1) := by decide +kernel
theorem dX12_odd_91 : decode cX12_odd 91 = .ok (.ifCond .ne 10, 3) := by decide +kernel
theorem dX12_odd_94 : decode cX12_odd 94 = .ok (.iload_n 2, 1) := by decide +kernel
theorem dX12_odd_95 : decode cX12_odd 95 = .ok (.invokestatic 326, 3) := by decide +kernel
theorem dX12_odd_98 : decode cX12_odd 98 = .ok (.goto 4, 3) := by decide +kernel
theorem dX12_odd_101 : decode cX12_odd 101 = .ok (.iload_n 2, 1) := by decide +kernel
theorem dX12_odd_102 : decode cX12_odd 102 = .ok (.ireturn, 1) := by decide +kernel
set_option maxRecDepth 20000 in
theorem ggX12_palms_X12_isPerson : GoodIn wsX12_palms wsX12_isPerson := goodIn_r _ [8, 3, 12, 13, 14, 15, 16, 17, 18, 19, 20, 21, 22, 23, 24, 25, 26, 27, 28, 29, 30, 31, 32, 33, 34, 35, 36, 37, 38, 39, 40, 41, 42, 43, 44, 45, 46, 47, 48, 49, 50, 51, 52, 53, 54, 55] (by decide +kernel) (by decide +kernel)
set_option maxRecDepth 20000 in
theorem gX12_palms_X12_isPerson : GoodIn wsX12_palms (wsV RX12 339 RX12 yX12_isPerson wsX12_isPerson) := goodIn_app (goodIn_of _ (by decide +kernel)) ggX12_palms_X12_isPerson
set_option maxRecDepth 20000 in
theorem ggX12_palms_X12_in : GoodIn wsX12_palms wsX12_in := goodIn_r _ [11] (by decide +kernel) (by decide +kernel)
set_option maxRecDepth 20000 in
theorem gX12_palms_X12_in : GoodIn wsX12_palms (va_wsS RX12 127 yX12_in wsX12_in) := goodIn_app (goodIn_of _ (by decide +kernel)) ggX12_palms_X12_in
theorem dX12_palms_0 : decode cX12_palms 0 = .ok (.aload_n 0, 1) := by decide +kernel
theorem dX12_palms_1 : decode cX12_palms 1 = .ok (.iload_n 1, 1) := by decide +kernel
theorem dX12_palms_2 : decode cX12_palms 2 = .ok (.invokevirtual 339, 3) := by decide +kernel
theorem dX12_palms_5 : decode cX12_palms 5 = .ok (.ifCond .eq 17, 3) := by decide +kernel
theorem dX12_palms_8 : decode cX12_palms 8 = .ok (.iload_n 2, 1) := by decide +kernel
theorem dX12_palms_9 : decode cX12_palms 9 = .ok (.i2l, 1) := by decide +kernel
theorem dX12_palms_10 : decode cX12_palms 10 = .ok (.ldc2_w 399, 3) := by decide +kernel
theorem dX12_palms_13 : decode cX12_palms 13 = .ok (.ldc2_w 401, 3) := by decide +kernel
theorem dX12_palms_16 : decode cX12_palms 16 = .ok (.invokestatic 127, 3) := by decide +kernel
theorem dX12_palms_19 : decode cX12_palms 19 = .ok (.ifCond .ne 5, 3) := by decide +kernel
theorem dX12_palms_22 : decode cX12_palms 22 = .ok (.iconst 0, 1) := by decide +kernel
theorem dX12_palms_23 : decode cX12_palms 23 = .ok (.ireturn, 1) := by decide +kernel
theorem dX12_palms_24 : decode cX12_palms 24 = .ok (.aload_n 0, 1) := by decide +kernel
theorem dX12_palms_25 : decode cX12_palms 25 = .ok (.getfield 39, 3) := by decide +kernel
theorem dX12_palms_28 : decode cX12_palms 28 = .ok (.sipush 200, 3) := by decide +kernel
theorem dX12_palms_31 : decode cX12_palms 31 = .ok (.iload_n 1, 1) := by decide +kernel
theorem dX12_palms_32 : decode cX12_palms 32 = .ok (.iadd, 1) := by decide +kernel
theorem dX12_palms_33 : decode cX12_palms 33 = .ok (.iload_n 2, 1) := by decide +kernel
theorem dX12_palms_34 : decode cX12_palms 34 = .ok (.iastore, 1) := by decide +kernel
theorem dX12_palms_35 : decode cX12_palms 35 = .ok (.iconst 1, 1) := by decide +kernel
theorem dX12_palms_36 : decode cX12_palms 36 = .ok (.ireturn, 1) := by decide +kernel
set_option maxRecDepth 20000 in
theorem ggX12_gathersTwos_X12_meet : GoodIn wsX12_gathersTwos wsX12_meet := goodIn_r _ [9, 2, 10, 11, 12, 8, 13, 14, 15, 16, 17, 18, 19, 20, 21, 22, 23, 24, 25, 26, 27, 28, 29, 30, 31, 32, 33, 34, 35, 36, 37, 38, 39, 40, 41, 42, 43, 44, 45, 46, 47, 48, 49, 50, 51, 52, 53, 54, 55, 56, 57, 58, 59, 60, 61] (by decide +kernel) (by decide +kernel)
set_option maxRecDepth 20000 in
theorem gX12_gathersTwos_X12_meet : GoodIn wsX12_gathersTwos (wsV RX12 345 RX12 yX12_meet wsX12_meet) := goodIn_app (goodIn_of _ (by decide +kernel)) ggX12_gathersTwos_X12_meet
theorem dX12_gathersTwos_0 : decode cX12_gathersTwos 0 = .ok (.aload_n 0, 1) := by decide +kernel
theorem dX12_gathersTwos_1 : decode cX12_gathersTwos 1 = .ok (.iconst 0, 1) := by decide +kernel
theorem dX12_gathersTwos_2 : decode cX12_gathersTwos 2 = .ok (.putfield 403, 3) := by decide +kernel
theorem dX12_gathersTwos_5 : decode cX12_gathersTwos 5 = .ok (.iconst 0, 1) := by decide +kernel
theorem dX12_gathersTwos_6 : decode cX12_gathersTwos 6 = .ok (.istore_n 1, 1) := by decide +kernel
theorem dX12_gathersTwos_7 : decode cX12_gathersTwos 7 = .ok (.iload_n 1, 1) := by decide +kernel
theorem dX12_gathersTwos_8 : decode cX12_gathersTwos 8 = .ok (.aload_n 0, 1) := by decide +kernel
theorem dX12_gathersTwos_9 : decode cX12_gathersTwos 9 = .ok (.getfield 39, 3) := by decide +kernel
theorem dX12_gathersTwos_12 : decode cX12_gathersTwos 12 = .ok (.iconst 2, 1) := by decide +kernel
theorem dX12_gathersTwos_13 : decode cX12_gathersTwos 13 = .ok (.iaload, 1) := by decide +kernel
theorem dX12_gathersTwos_14 : decode cX12_gathersTwos 14 = .ok (.if_icmp .ge 71, 3) := by decide +kernel
theorem dX12_gathersTwos_17 : decode cX12_gathersTwos 17 = .ok (.iload_n 1, 1) := by decide +kernel
theorem dX12_gathersTwos_18 : decode cX12_gathersTwos 18 = .ok (.iconst 1, 1) := by decide +kernel
theorem dX12_gathersTwos_19 : decode cX12_gathersTwos 19 = .ok (.iadd, 1) := by decide +kernel
theorem dX12_gathersTwos_20 : decode cX12_gathersTwos 20 = .ok (.istore_n 2, 1) := by decide +kernel
theorem dX12_gathersTwos_21 : decode cX12_gathersTwos 21 = .ok (.iload_n 2, 1) := by decide +kernel
theorem dX12_gathersTwos_22 : decode cX12_gathersTwos 22 = .ok (.aload_n 0, 1) := by decide +kernel
theorem dX12_gathersTwos_23 : decode cX12_gathersTwos 23 = .ok (.getfield 39, 3) := by decide +kernel
theorem dX12_gathersTwos_26 : decode cX12_gathersTwos 26 = .ok (.iconst 2, 1) := by decide +kernel
theorem dX12_gathersTwos_27 : decode cX12_gathersTwos 27 = .ok (.iaload, 1) := by decide +kernel
theorem dX12_gathersTwos_28 : decode cX12_gathersTwos 28 = .ok (.if_icmp .ge 51, 3) := by decide +kernel
theorem dX12_gathersTwos_31 : decode cX12_gathersTwos 31 = .ok (.aload_n 0, 1) := by decide +kernel
theorem dX12_gathersTwos_32 : decode cX12_gathersTwos 32 = .ok (.iload_n 1, 1) := by decide +kernel
theorem dX12_gathersTwos_33 : decode cX12_gathersTwos 33 = .ok (.iload_n 2, 1) := by decide +kernel
theorem dX12_gathersTwos_34 : decode cX12_gathersTwos 34 = .ok (.invokevirtual 345, 3) := by decide +kernel
theorem dX12_gathersTwos_37 : decode cX12_gathersTwos 37 = .ok (.ifCond .ne 6, 3) := by decide +kernel
theorem dX12_gathersTwos_40 : decode cX12_gathersTwos 40 = .ok (.goto 33, 3) := by decide +kernel
theorem dX12_gathersTwos_43 : decode cX12_gathersTwos 43 = .ok (.aload_n 0, 1) := by decide +kernel
theorem dX12_gathersTwos_44 : decode cX12_gathersTwos 44 = .ok (.getfield 61, 3) := by decide +kernel
theorem dX12_gathersTwos_47 : decode cX12_gathersTwos 47 = .ok (.aload_n 0, 1) := by decide +kernel
theorem dX12_gathersTwos_48 : decode cX12_gathersTwos 48 = .ok (.getfield 403, 3) := by decide +kernel
theorem dX12_gathersTwos_51 : decode cX12_gathersTwos 51 = .ok (.iload_n 1, 1) := by decide +kernel
theorem dX12_gathersTwos_52 : decode cX12_gathersTwos 52 = .ok (.iastore, 1) := by decide +kernel
theorem dX12_gathersTwos_53 : decode cX12_gathersTwos 53 = .ok (.aload_n 0, 1) := by decide +kernel
theorem dX12_gathersTwos_54 : decode cX12_gathersTwos 54 = .ok (.getfield 64, 3) := by decide +kernel
theorem dX12_gathersTwos_57 : decode cX12_gathersTwos 57 = .ok (.aload_n 0, 1) := by decide +kernel
theorem dX12_gathersTwos_58 : decode cX12_gathersTwos 58 = .ok (.getfield 403, 3) := by decide +kernel
theorem dX12_gathersTwos_61 : decode cX12_gathersTwos 61 = .ok (.iload_n 2, 1) := by decide +kernel
theorem dX12_gathersTwos_62 : decode cX12_gathersTwos 62 = .ok (.iastore, 1) := by decide +kernel
theorem dX12_gathersTwos_63 : decode cX12_gathersTwos 63 = .ok (.aload_n 0, 1) := by decide +kernel
theorem dX12_gathersTwos_64 : decode cX12_gathersTwos 64 = .ok (.dup, 1) := by decide +kernel
theorem dX12_gathersTwos_65 : decode cX12_gathersTwos 65 = .ok (.getfield 403, 3) := by decide +kernel
theorem dX12_gathersTwos_68 : decode cX12_gathersTwos 68 = .ok (.iconst 1, 1) := by decide +kernel
theorem dX12_gathersTwos_69 : decode cX12_gathersTwos 69 = .ok (.iadd, 1) := by decide +kernel
theorem dX12_gathersTwos_70 : decode cX12_gathersTwos 70 = .ok (.putfield 403, 3) := by decide +kernel
theorem dX12_gathersTwos_73 : decode cX12_gathersTwos 73 = .ok (.iinc 2 1, 3) := by decide +kernel
theorem dX12_gathersTwos_76 : decode cX12_gathersTwos 76 = .ok (.goto (-55), 3) := by decide +kernel
theorem dX12_gathersTwos_79 : decode cX12_gathersTwos 79 = .ok (.iinc 1 1, 3) := by decide +kernel
theorem dX12_gathersTwos_82 : decode cX12_gathersTwos 82 = .ok (.goto (-75), 3) := by decide +kernel
theorem dX12_gathersTwos_85 : decode cX12_gathersTwos 85 = .ok (.return_, 1) := by decide +kernel
set_option maxRecDepth 20000 in
theorem ggX12_areSo_X12_isOf : GoodIn wsX12_areSo wsX12_isOf := goodIn_r _ [8] (by decide +kernel) (by decide +kernel)
set_option maxRecDepth 20000 in
theorem gX12_areSo_X12_isOf : GoodIn wsX12_areSo (va_wsS RX12 299 yX12_isOf wsX12_isOf) := goodIn_app (goodIn_of _ (by decide +kernel)) ggX12_areSo_X12_isOf
theorem dX12_areSo_0 : decode cX12_areSo 0 = .ok (.iconst 0, 1) := by decide +kernel
theorem dX12_areSo_1 : decode cX12_areSo 1 = .ok (.istore_n 2, 1) := by decide +kernel
theorem dX12_areSo_2 : decode cX12_areSo 2 = .ok (.iload_n 2, 1) := by decide +kernel
theorem dX12_areSo_3 : decode cX12_areSo 3 = .ok (.aload_n 0, 1) := by decide +kernel
theorem dX12_areSo_4 : decode cX12_areSo 4 = .ok (.getfield 39, 3) := by decide +kernel
theorem dX12_areSo_7 : decode cX12_areSo 7 = .ok (.iconst 2, 1) := by decide +kernel
theorem dX12_areSo_8 : decode cX12_areSo 8 = .ok (.iaload, 1) := by decide +kernel
theorem dX12_areSo_9 : decode cX12_areSo 9 = .ok (.if_icmp .ge 100, 3) := by decide +kernel
theorem dX12_areSo_12 : decode cX12_areSo 12 = .ok (.aload_n 0, 1) := by decide +kernel
theorem dX12_areSo_13 : decode cX12_areSo 13 = .ok (.getfield 39, 3) := by decide +kernel
theorem dX12_areSo_16 : decode cX12_areSo 16 = .ok (.sipush 200, 3) := by decide +kernel
theorem dX12_areSo_19 : decode cX12_areSo 19 = .ok (.iload_n 2, 1) := by decide +kernel
theorem dX12_areSo_20 : decode cX12_areSo 20 = .ok (.iadd, 1) := by decide +kernel
theorem dX12_areSo_21 : decode cX12_areSo 21 = .ok (.iaload, 1) := by decide +kernel
theorem dX12_areSo_22 : decode cX12_areSo 22 = .ok (.ifCond .ge 6, 3) := by decide +kernel
theorem dX12_areSo_25 : decode cX12_areSo 25 = .ok (.goto 78, 3) := by decide +kernel
theorem dX12_areSo_28 : decode cX12_areSo 28 = .ok (.iconst 0, 1) := by decide +kernel
theorem dX12_areSo_29 : decode cX12_areSo 29 = .ok (.istore_n 3, 1) := by decide +kernel
theorem dX12_areSo_30 : decode cX12_areSo 30 = .ok (.iconst 0, 1) := by decide +kernel
theorem dX12_areSo_31 : decode cX12_areSo 31 = .ok (.istore 4, 2) := by decide +kernel
theorem dX12_areSo_33 : decode cX12_areSo 33 = .ok (.iload 4, 2) := by decide +kernel
theorem dX12_areSo_35 : decode cX12_areSo 35 = .ok (.aload_n 0, 1) := by decide +kernel
theorem dX12_areSo_36 : decode cX12_areSo 36 = .ok (.getfield 403, 3) := by decide +kernel
theorem dX12_areSo_39 : decode cX12_areSo 39 = .ok (.if_icmp .ge 48, 3) := by decide +kernel
theorem dX12_areSo_42 : decode cX12_areSo 42 = .ok (.iload_n 3, 1) := by decide +kernel
theorem dX12_areSo_43 : decode cX12_areSo 43 = .ok (.iload_n 1, 1) := by decide +kernel
theorem dX12_areSo_44 : decode cX12_areSo 44 = .ok (.iload 4, 2) := by decide +kernel
theorem dX12_areSo_46 : decode cX12_areSo 46 = .ok (.invokestatic 299, 3) := by decide +kernel
theorem dX12_areSo_49 : decode cX12_areSo 49 = .ok (.ifCond .eq 29, 3) := by decide +kernel
theorem dX12_areSo_52 : decode cX12_areSo 52 = .ok (.aload_n 0, 1) := by decide +kernel
theorem dX12_areSo_53 : decode cX12_areSo 53 = .ok (.getfield 61, 3) := by decide +kernel
theorem dX12_areSo_56 : decode cX12_areSo 56 = .ok (.iload 4, 2) := by decide +kernel
theorem dX12_areSo_58 : decode cX12_areSo 58 = .ok (.iaload, 1) := by decide +kernel
theorem dX12_areSo_59 : decode cX12_areSo 59 = .ok (.iload_n 2, 1) := by decide +kernel
theorem dX12_areSo_60 : decode cX12_areSo 60 = .ok (.if_icmp .eq 14, 3) := by decide +kernel
theorem dX12_areSo_63 : decode cX12_areSo 63 = .ok (.aload_n 0, 1) := by decide +kernel
theorem dX12_areSo_64 : decode cX12_areSo 64 = .ok (.getfield 64, 3) := by decide +kernel
theorem dX12_areSo_67 : decode cX12_areSo 67 = .ok (.iload 4, 2) := by decide +kernel
theorem dX12_areSo_69 : decode cX12_areSo 69 = .ok (.iaload, 1) := by decide +kernel
theorem dX12_areSo_70 : decode cX12_areSo 70 = .ok (.iload_n 2, 1) := by decide +kernel
theorem dX12_areSo_71 : decode cX12_areSo 71 = .ok (.if_icmp .ne 7, 3) := by decide +kernel
theorem dX12_areSo_74 : decode cX12_areSo 74 = .ok (.iconst 1, 1) := by decide +kernel
theorem dX12_areSo_75 : decode cX12_areSo 75 = .ok (.goto 4, 3) := by decide +kernel
theorem dX12_areSo_78 : decode cX12_areSo 78 = .ok (.iconst 0, 1) := by decide +kernel
theorem dX12_areSo_79 : decode cX12_areSo 79 = .ok (.iadd, 1) := by decide +kernel
theorem dX12_areSo_80 : decode cX12_areSo 80 = .ok (.istore_n 3, 1) := by decide +kernel
theorem dX12_areSo_81 : decode cX12_areSo 81 = .ok (.iinc 4 1, 3) := by decide +kernel
theorem dX12_areSo_84 : decode cX12_areSo 84 = .ok (.goto (-51), 3) := by decide +kernel
theorem dX12_areSo_87 : decode cX12_areSo 87 = .ok (.iload_n 3, 1) := by decide +kernel
theorem dX12_areSo_88 : decode cX12_areSo 88 = .ok (.aload_n 0, 1) := by decide +kernel
theorem dX12_areSo_89 : decode cX12_areSo 89 = .ok (.getfield 39, 3) := by decide +kernel
theorem dX12_areSo_92 : decode cX12_areSo 92 = .ok (.sipush 200, 3) := by decide +kernel
theorem dX12_areSo_95 : decode cX12_areSo 95 = .ok (.iload_n 2, 1) := by decide +kernel
theorem dX12_areSo_96 : decode cX12_areSo 96 = .ok (.iadd, 1) := by decide +kernel
theorem dX12_areSo_97 : decode cX12_areSo 97 = .ok (.iaload, 1) := by decide +kernel
theorem dX12_areSo_98 : decode cX12_areSo 98 = .ok (.if_icmp .eq 5, 3) := by decide +kernel
theorem dX12_areSo_101 : decode cX12_areSo 101 = .ok (.iconst 0, 1) := by decide +kernel
theorem dX12_areSo_102 : decode cX12_areSo 102 = .ok (.ireturn, 1) := by decide +kernel
theorem dX12_areSo_103 : decode cX12_areSo 103 = .ok (.iinc 2 1, 3) := by decide +kernel
theorem dX12_areSo_106 : decode cX12_areSo 106 = .ok (.goto (-104), 3) := by decide +kernel
theorem dX12_areSo_109 : decode cX12_areSo 109 = .ok (.iconst 1, 1) := by decide +kernel
theorem dX12_areSo_110 : decode cX12_areSo 110 = .ok (.ireturn, 1) := by decide +kernel
set_option maxRecDepth 20000 in
theorem ggX12_goesThrough_X12_gathersTwos : GoodIn wsX12_goesThrough wsX12_gathersTwos := goodIn_r _ [9, 1, 10, 11, 12, 13, 14, 15, 8, 16, 17, 18, 19, 20, 21, 22, 23, 24, 32, 33, 34, 35, 36, 37, 38, 39, 40, 41, 42, 43, 44, 45, 46, 47, 48, 49, 50, 51, 52, 53, 54, 55, 56, 57, 58, 59, 60, 61, 62, 63, 64, 65, 66, 67, 68, 69, 70, 71, 72, 73, 74, 75] (by decide +kernel) (by decide +kernel)
set_option maxRecDepth 20000 in
theorem gX12_goesThrough_X12_gathersTwos : GoodIn wsX12_goesThrough (wsV RX12 406 RX12 yX12_gathersTwos wsX12_gathersTwos) := goodIn_app (goodIn_of _ (by decide +kernel)) ggX12_goesThrough_X12_gathersTwos
set_option maxRecDepth 20000 in
theorem ggX12_goesThrough_X12_areSo : GoodIn wsX12_goesThrough wsX12_areSo := goodIn_r _ [28, 10, 1, 11, 12, 29, 30, 8, 31, 32, 33, 34, 35, 36, 37, 38, 39, 40, 41, 42, 43, 44, 45, 46, 47, 48, 49, 50, 51, 52, 53, 54, 55, 56, 57, 58, 59, 60, 61, 62, 63, 64, 65, 66, 67, 68, 69, 70, 71, 72, 73, 74, 75] (by decide +kernel) (by decide +kernel)
set_option maxRecDepth 20000 in
theorem gX12_goesThrough_X12_areSo : GoodIn wsX12_goesThrough (wsV RX12 418 RX12 yX12_areSo wsX12_areSo) := goodIn_app (goodIn_of _ (by decide +kernel)) ggX12_goesThrough_X12_areSo
theorem dX12_goesThrough_0 : decode cX12_goesThrough 0 = .ok (.aload_n 0, 1) := by decide +kernel
theorem dX12_goesThrough_1 : decode cX12_goesThrough 1 = .ok (.invokevirtual 406, 3) := by decide +kernel
theorem dX12_goesThrough_4 : decode cX12_goesThrough 4 = .ok (.aload_n 0, 1) := by decide +kernel
theorem dX12_goesThrough_5 : decode cX12_goesThrough 5 = .ok (.getfield 403, 3) := by decide +kernel
theorem dX12_goesThrough_8 : decode cX12_goesThrough 8 = .ok (.bipush 16, 2) := by decide +kernel
theorem dX12_goesThrough_10 : decode cX12_goesThrough 10 = .ok (.if_icmp .le 5, 3) := by decide +kernel
theorem dX12_goesThrough_13 : decode cX12_goesThrough 13 = .ok (.iconst 0, 1) := by decide +kernel
theorem dX12_goesThrough_14 : decode cX12_goesThrough 14 = .ok (.ireturn, 1) := by decide +kernel
theorem dX12_goesThrough_15 : decode cX12_goesThrough 15 = .ok (.aload_n 0, 1) := by decide +kernel
theorem dX12_goesThrough_16 : decode cX12_goesThrough 16 = .ok (.iconst 0, 1) := by decide +kernel
theorem dX12_goesThrough_17 : decode cX12_goesThrough 17 = .ok (.putfield 409, 3) := by decide +kernel
theorem dX12_goesThrough_20 : decode cX12_goesThrough 20 = .ok (.aload_n 0, 1) := by decide +kernel
theorem dX12_goesThrough_21 : decode cX12_goesThrough 21 = .ok (.iconst 1, 1) := by decide +kernel
theorem dX12_goesThrough_22 : decode cX12_goesThrough 22 = .ok (.aload_n 0, 1) := by decide +kernel
theorem dX12_goesThrough_23 : decode cX12_goesThrough 23 = .ok (.getfield 403, 3) := by decide +kernel
theorem dX12_goesThrough_26 : decode cX12_goesThrough 26 = .ok (.ishl, 1) := by decide +kernel
theorem dX12_goesThrough_27 : decode cX12_goesThrough 27 = .ok (.iconst 1, 1) := by decide +kernel
theorem dX12_goesThrough_28 : decode cX12_goesThrough 28 = .ok (.isub, 1) := by decide +kernel
theorem dX12_goesThrough_29 : decode cX12_goesThrough 29 = .ok (.putfield 412, 3) := by decide +kernel
theorem dX12_goesThrough_32 : decode cX12_goesThrough 32 = .ok (.aload_n 0, 1) := by decide +kernel
theorem dX12_goesThrough_33 : decode cX12_goesThrough 33 = .ok (.iconst 0, 1) := by decide +kernel
theorem dX12_goesThrough_34 : decode cX12_goesThrough 34 = .ok (.putfield 415, 3) := by decide +kernel
theorem dX12_goesThrough_37 : decode cX12_goesThrough 37 = .ok (.iconst 0, 1) := by decide +kernel
theorem dX12_goesThrough_38 : decode cX12_goesThrough 38 = .ok (.istore_n 1, 1) := by decide +kernel
theorem dX12_goesThrough_39 : decode cX12_goesThrough 39 = .ok (.iload_n 1, 1) := by decide +kernel
theorem dX12_goesThrough_40 : decode cX12_goesThrough 40 = .ok (.iconst 1, 1) := by decide +kernel
theorem dX12_goesThrough_41 : decode cX12_goesThrough 41 = .ok (.aload_n 0, 1) := by decide +kernel
theorem dX12_goesThrough_42 : decode cX12_goesThrough 42 = .ok (.getfield 403, 3) := by decide +kernel
theorem dX12_goesThrough_45 : decode cX12_goesThrough 45 = .ok (.ishl, 1) := by decide +kernel
theorem dX12_goesThrough_46 : decode cX12_goesThrough 46 = .ok (.if_icmp .ge 50, 3) := by decide +kernel
theorem dX12_goesThrough_49 : decode cX12_goesThrough 49 = .ok (.aload_n 0, 1) := by decide +kernel
theorem dX12_goesThrough_50 : decode cX12_goesThrough 50 = .ok (.iload_n 1, 1) := by decide +kernel
theorem dX12_goesThrough_51 : decode cX12_goesThrough 51 = .ok (.invokevirtual 418, 3) := by decide +kernel
theorem dX12_goesThrough_54 : decode cX12_goesThrough 54 = .ok (.ifCond .ne 6, 3) := by decide +kernel
theorem dX12_goesThrough_57 : decode cX12_goesThrough 57 = .ok (.goto 33, 3) := by decide +kernel
theorem dX12_goesThrough_60 : decode cX12_goesThrough 60 = .ok (.aload_n 0, 1) := by decide +kernel
theorem dX12_goesThrough_61 : decode cX12_goesThrough 61 = .ok (.dup, 1) := by decide +kernel
theorem dX12_goesThrough_62 : decode cX12_goesThrough 62 = .ok (.getfield 409, 3) := by decide +kernel
theorem dX12_goesThrough_65 : decode cX12_goesThrough 65 = .ok (.iconst 1, 1) := by decide +kernel
theorem dX12_goesThrough_66 : decode cX12_goesThrough 66 = .ok (.iadd, 1) := by decide +kernel
theorem dX12_goesThrough_67 : decode cX12_goesThrough 67 = .ok (.putfield 409, 3) := by decide +kernel
theorem dX12_goesThrough_70 : decode cX12_goesThrough 70 = .ok (.aload_n 0, 1) := by decide +kernel
theorem dX12_goesThrough_71 : decode cX12_goesThrough 71 = .ok (.dup, 1) := by decide +kernel
theorem dX12_goesThrough_72 : decode cX12_goesThrough 72 = .ok (.getfield 412, 3) := by decide +kernel
theorem dX12_goesThrough_75 : decode cX12_goesThrough 75 = .ok (.iload_n 1, 1) := by decide +kernel
theorem dX12_goesThrough_76 : decode cX12_goesThrough 76 = .ok (.iand, 1) := by decide +kernel
theorem dX12_goesThrough_77 : decode cX12_goesThrough 77 = .ok (.putfield 412, 3) := by decide +kernel
theorem dX12_goesThrough_80 : decode cX12_goesThrough 80 = .ok (.aload_n 0, 1) := by decide +kernel
theorem dX12_goesThrough_81 : decode cX12_goesThrough 81 = .ok (.dup, 1) := by decide +kernel
theorem dX12_goesThrough_82 : decode cX12_goesThrough 82 = .ok (.getfield 415, 3) := by decide +kernel
theorem dX12_goesThrough_85 : decode cX12_goesThrough 85 = .ok (.iload_n 1, 1) := by decide +kernel
theorem dX12_goesThrough_86 : decode cX12_goesThrough 86 = .ok (.ior, 1) := by decide +kernel
theorem dX12_goesThrough_87 : decode cX12_goesThrough 87 = .ok (.putfield 415, 3) := by decide +kernel
theorem dX12_goesThrough_90 : decode cX12_goesThrough 90 = .ok (.iinc 1 1, 3) := by decide +kernel
theorem dX12_goesThrough_93 : decode cX12_goesThrough 93 = .ok (.goto (-54), 3) := by decide +kernel
theorem dX12_goesThrough_96 : decode cX12_goesThrough 96 = .ok (.iconst 1, 1) := by decide +kernel
theorem dX12_goesThrough_97 : decode cX12_goesThrough 97 = .ok (.ireturn, 1) := by decide +kernel
set_option maxRecDepth 20000 in
theorem ggX12_shuns_X12_isTown : GoodIn wsX12_shuns wsX12_isTown := goodIn_r _ [6, 7, 40, 41, 42, 43, 44, 45, 46, 47, 48, 49, 50, 51, 52, 53, 54, 55, 56, 57, 58, 59, 60, 61, 62, 63, 64, 65, 66, 67, 68, 69, 70, 71, 72, 73, 74, 75, 76, 77, 78, 79, 80, 81, 82, 83] (by decide +kernel) (by decide +kernel)
set_option maxRecDepth 20000 in
theorem gX12_shuns_X12_isTown : GoodIn wsX12_shuns (wsV RX12 360 RX12 yX12_isTown wsX12_isTown) := goodIn_app (goodIn_of _ (by decide +kernel)) ggX12_shuns_X12_isTown
set_option maxRecDepth 20000 in
theorem ggX12_shuns_X12_goesThrough : GoodIn wsX12_shuns wsX12_goesThrough := goodIn_r _ [11, 12, 1, 13, 14, 15, 16, 17, 5, 18, 7, 19, 20, 21, 22, 23, 24, 25, 26, 27, 28, 29, 30, 31, 32, 33, 34, 35, 36, 37, 38, 39, 40, 41, 42, 43, 44, 45, 46, 47, 48, 49, 50, 51, 52, 53, 54, 55, 56, 57, 58, 59, 60, 61, 62, 63, 64, 65, 66, 67, 68, 69, 70, 71, 72, 73, 74, 75, 76, 77, 78, 79, 80, 81, 82, 83] (by decide +kernel) (by decide +kernel)
set_option maxRecDepth 20000 in
theorem gX12_shuns_X12_goesThrough : GoodIn wsX12_shuns (wsV RX12 421 RX12 yX12_goesThrough wsX12_goesThrough) := goodIn_app (goodIn_of _ (by decide +kernel)) ggX12_shuns_X12_goesThrough
theorem dX12_shuns_0 : decode cX12_shuns 0 = .ok (.aload_n 0, 1) := by decide +kernel
theorem dX12_shuns_1 : decode cX12_shuns 1 = .ok (.invokevirtual 360, 3) := by decide +kernel
theorem dX12_shuns_4 : decode cX12_shuns 4 = .ok (.ifCond .ne 7, 3) := by decide +kernel
theorem dX12_shuns_7 : decode cX12_shuns 7 = .ok (.iconst (-1), 1) := by decide +kernel
theorem dX12_shuns_8 : decode cX12_shuns 8 = .ok (.goto 19, 3) := by decide +kernel
theorem dX12_shuns_11 : decode cX12_shuns 11 = .ok (.aload_n 0, 1) := by decide +kernel
theorem dX12_shuns_12 : decode cX12_shuns 12 = .ok (.invokevirtual 421, 3) := by decide +kernel
theorem dX12_shuns_15 : decode cX12_shuns 15 = .ok (.ifCond .eq 10, 3) := by decide +kernel
theorem dX12_shuns_18 : decode cX12_shuns 18 = .ok (.aload_n 0, 1) := by decide +kernel
theorem dX12_shuns_19 : decode cX12_shuns 19 = .ok (.getfield 409, 3) := by decide +kernel
theorem dX12_shuns_22 : decode cX12_shuns 22 = .ok (.goto 5, 3) := by decide +kernel
theorem dX12_shuns_25 : decode cX12_shuns 25 = .ok (.bipush (-3), 2) := by decide +kernel
theorem dX12_shuns_27 : decode cX12_shuns 27 = .ok (.ireturn, 1) := by decide +kernel
set_option maxRecDepth 20000 in
theorem ggX12_shook_X12_isPerson : GoodIn wsX12_shook wsX12_isPerson := goodIn_r _ [10, 11, 40, 41, 42, 43, 44, 45, 46, 47, 48, 49, 50, 51, 52, 53, 54, 55, 56, 57, 58, 59, 60, 61, 62, 63, 64, 65, 66, 67, 68, 69, 70, 71, 72, 73, 74, 75, 76, 77, 78, 79, 80, 81, 82, 83] (by decide +kernel) (by decide +kernel)
set_option maxRecDepth 20000 in
theorem gX12_shook_X12_isPerson : GoodIn wsX12_shook (wsV RX12 339 RX12 yX12_isPerson wsX12_isPerson) := goodIn_app (goodIn_of _ (by decide +kernel)) ggX12_shook_X12_isPerson
set_option maxRecDepth 20000 in
theorem ggX12_shook_X12_meet : GoodIn wsX12_shook wsX12_meet := goodIn_r _ [15, 11, 16, 17, 18, 9, 19, 20, 21, 22, 23, 40, 41, 42, 43, 44, 45, 46, 47, 48, 49, 50, 51, 52, 53, 54, 55, 56, 57, 58, 59, 60, 61, 62, 63, 64, 65, 66, 67, 68, 69, 70, 71, 72, 73, 74, 75, 76, 77, 78, 79, 80, 81, 82, 83] (by decide +kernel) (by decide +kernel)
set_option maxRecDepth 20000 in
theorem gX12_shook_X12_meet : GoodIn wsX12_shook (wsV RX12 345 RX12 yX12_meet wsX12_meet) := goodIn_app (goodIn_of _ (by decide +kernel)) ggX12_shook_X12_meet
set_option maxRecDepth 20000 in
theorem ggX12_shook_X12_goesThrough : GoodIn wsX12_shook wsX12_goesThrough := goodIn_r _ [27, 28, 1, 4, 5, 29, 30, 31, 9, 32, 11, 2, 3, 12, 13, 14, 15, 16, 17, 18, 19, 20, 21, 22, 23, 33, 34, 35, 36, 37, 38, 39, 40, 41, 42, 43, 44, 45, 46, 47, 48, 49, 50, 51, 52, 53, 54, 55, 56, 57, 58, 59, 60, 61, 62, 63, 64, 65, 66, 67, 68, 69, 70, 71, 72, 73, 74, 75, 76, 77, 78, 79, 80, 81, 82, 83] (by decide +kernel) (by decide +kernel)
set_option maxRecDepth 20000 in
theorem gX12_shook_X12_goesThrough : GoodIn wsX12_shook (wsV RX12 421 RX12 yX12_goesThrough wsX12_goesThrough) := goodIn_app (goodIn_of _ (by decide +kernel)) ggX12_shook_X12_goesThrough
set_option maxRecDepth 20000 in
theorem ggX12_shook_X12_isOf : GoodIn wsX12_shook wsX12_isOf := goodIn_r _ [39] (by decide +kernel) (by decide +kernel)
set_option maxRecDepth 20000 in
theorem gX12_shook_X12_isOf : GoodIn wsX12_shook (va_wsS RX12 299 yX12_isOf wsX12_isOf) := goodIn_app (goodIn_of _ (by decide +kernel)) ggX12_shook_X12_isOf
theorem dX12_shook_0 : decode cX12_shook 0 = .ok (.aload_n 0, 1) := by decide +kernel
theorem dX12_shook_1 : decode cX12_shook 1 = .ok (.iload_n 1, 1) := by decide +kernel
theorem dX12_shook_2 : decode cX12_shook 2 = .ok (.invokevirtual 339, 3) := by decide +kernel
theorem dX12_shook_5 : decode cX12_shook 5 = .ok (.ifCond .eq 25, 3) := by decide +kernel
theorem dX12_shook_8 : decode cX12_shook 8 = .ok (.aload_n 0, 1) := by decide +kernel
theorem dX12_shook_9 : decode cX12_shook 9 = .ok (.iload_n 2, 1) := by decide +kernel
theorem dX12_shook_10 : decode cX12_shook 10 = .ok (.invokevirtual 339, 3) := by decide +kernel
theorem dX12_shook_13 : decode cX12_shook 13 = .ok (.ifCond .eq 17, 3) := by decide +kernel
theorem dX12_shook_16 : decode cX12_shook 16 = .ok (.iload_n 1, 1) := by decide +kernel
theorem dX12_shook_17 : decode cX12_shook 17 = .ok (.iload_n 2, 1) := by decide +kernel
theorem dX12_shook_18 : decode cX12_shook 18 = .ok (.if_icmp .eq 12, 3) := by decide +kernel
theorem dX12_shook_21 : decode cX12_shook 21 = .ok (.aload_n 0, 1) := by decide +kernel
theorem dX12_shook_22 : decode cX12_shook 22 = .ok (.iload_n 1, 1) := by decide +kernel
theorem dX12_shook_23 : decode cX12_shook 23 = .ok (.iload_n 2, 1) := by decide +kernel
theorem dX12_shook_24 : decode cX12_shook 24 = .ok (.invokevirtual 345, 3) := by decide +kernel
theorem dX12_shook_27 : decode cX12_shook 27 = .ok (.ifCond .ne 5, 3) := by decide +kernel
theorem dX12_shook_30 : decode cX12_shook 30 = .ok (.iconst (-1), 1) := by decide +kernel
theorem dX12_shook_31 : decode cX12_shook 31 = .ok (.ireturn, 1) := by decide +kernel
theorem dX12_shook_32 : decode cX12_shook 32 = .ok (.aload_n 0, 1) := by decide +kernel
theorem dX12_shook_33 : decode cX12_shook 33 = .ok (.invokevirtual 421, 3) := by decide +kernel
theorem dX12_shook_36 : decode cX12_shook 36 = .ok (.ifCond .ne 6, 3) := by decide +kernel
theorem dX12_shook_39 : decode cX12_shook 39 = .ok (.bipush (-3), 2) := by decide +kernel
theorem dX12_shook_41 : decode cX12_shook 41 = .ok (.ireturn, 1) := by decide +kernel
theorem dX12_shook_42 : decode cX12_shook 42 = .ok (.aload_n 0, 1) := by decide +kernel
theorem dX12_shook_43 : decode cX12_shook 43 = .ok (.getfield 409, 3) := by decide +kernel
theorem dX12_shook_46 : decode cX12_shook 46 = .ok (.ifCond .ne 6, 3) := by decide +kernel
theorem dX12_shook_49 : decode cX12_shook 49 = .ok (.bipush (-2), 2) := by decide +kernel
theorem dX12_shook_51 : decode cX12_shook 51 = .ok (.ireturn, 1) := by decide +kernel
theorem dX12_shook_52 : decode cX12_shook 52 = .ok (.iconst 0, 1) := by decide +kernel
theorem dX12_shook_53 : decode cX12_shook 53 = .ok (.istore_n 3, 1) := by decide +kernel
theorem dX12_shook_54 : decode cX12_shook 54 = .ok (.aload_n 0, 1) := by decide +kernel
theorem dX12_shook_55 : decode cX12_shook 55 = .ok (.getfield 61, 3) := by decide +kernel
theorem dX12_shook_58 : decode cX12_shook 58 = .ok (.iload_n 3, 1) := by decide +kernel
theorem dX12_shook_59 : decode cX12_shook 59 = .ok (.iaload, 1) := by decide +kernel
theorem dX12_shook_60 : decode cX12_shook 60 = .ok (.iload_n 1, 1) := by decide +kernel
theorem dX12_shook_61 : decode cX12_shook 61 = .ok (.if_icmp .ne 13, 3) := by decide +kernel
theorem dX12_shook_64 : decode cX12_shook 64 = .ok (.aload_n 0, 1) := by decide +kernel
theorem dX12_shook_65 : decode cX12_shook 65 = .ok (.getfield 64, 3) := by decide +kernel
theorem dX12_shook_68 : decode cX12_shook 68 = .ok (.iload_n 3, 1) := by decide +kernel
theorem dX12_shook_69 : decode cX12_shook 69 = .ok (.iaload, 1) := by decide +kernel
theorem dX12_shook_70 : decode cX12_shook 70 = .ok (.iload_n 2, 1) := by decide +kernel
theorem dX12_shook_71 : decode cX12_shook 71 = .ok (.if_icmp .eq 29, 3) := by decide +kernel
theorem dX12_shook_74 : decode cX12_shook 74 = .ok (.aload_n 0, 1) := by decide +kernel
theorem dX12_shook_75 : decode cX12_shook 75 = .ok (.getfield 61, 3) := by decide +kernel
theorem dX12_shook_78 : decode cX12_shook 78 = .ok (.iload_n 3, 1) := by decide +kernel
theorem dX12_shook_79 : decode cX12_shook 79 = .ok (.iaload, 1) := by decide +kernel
theorem dX12_shook_80 : decode cX12_shook 80 = .ok (.iload_n 2, 1) := by decide +kernel
theorem dX12_shook_81 : decode cX12_shook 81 = .ok (.if_icmp .ne 13, 3) := by decide +kernel
theorem dX12_shook_84 : decode cX12_shook 84 = .ok (.aload_n 0, 1) := by decide +kernel
theorem dX12_shook_85 : decode cX12_shook 85 = .ok (.getfield 64, 3) := by decide +kernel
theorem dX12_shook_88 : decode cX12_shook 88 = .ok (.iload_n 3, 1) := by decide +kernel
theorem dX12_shook_89 : decode cX12_shook 89 = .ok (.iaload, 1) := by decide +kernel
theorem dX12_shook_90 : decode cX12_shook 90 = .ok (.iload_n 1, 1) := by decide +kernel
theorem dX12_shook_91 : decode cX12_shook 91 = .ok (.if_icmp .eq 9, 3) := by decide +kernel
theorem dX12_shook_94 : decode cX12_shook 94 = .ok (.iinc 3 1, 3) := by decide +kernel
theorem dX12_shook_97 : decode cX12_shook 97 = .ok (.goto (-43), 3) := by decide +kernel
theorem dX12_shook_100 : decode cX12_shook 100 = .ok (.aload_n 0, 1) := by decide +kernel
theorem dX12_shook_101 : decode cX12_shook 101 = .ok (.getfield 412, 3) := by decide +kernel
theorem dX12_shook_104 : decode cX12_shook 104 = .ok (.iload_n 3, 1) := by decide +kernel
theorem dX12_shook_105 : decode cX12_shook 105 = .ok (.invokestatic 299, 3) := by decide +kernel
theorem dX12_shook_108 : decode cX12_shook 108 = .ok (.ifCond .eq 7, 3) := by decide +kernel
theorem dX12_shook_111 : decode cX12_shook 111 = .ok (.iconst 1, 1) := by decide +kernel
theorem dX12_shook_112 : decode cX12_shook 112 = .ok (.goto 19, 3) := by decide +kernel
theorem dX12_shook_115 : decode cX12_shook 115 = .ok (.aload_n 0, 1) := by decide +kernel
theorem dX12_shook_116 : decode cX12_shook 116 = .ok (.getfield 415, 3) := by decide +kernel
theorem dX12_shook_119 : decode cX12_shook 119 = .ok (.iload_n 3, 1) := by decide +kernel
theorem dX12_shook_120 : decode cX12_shook 120 = .ok (.invokestatic 299, 3) := by decide +kernel
theorem dX12_shook_123 : decode cX12_shook 123 = .ok (.ifCond .eq 7, 3) := by decide +kernel
theorem dX12_shook_126 : decode cX12_shook 126 = .ok (.iconst 2, 1) := by decide +kernel
theorem dX12_shook_127 : decode cX12_shook 127 = .ok (.goto 4, 3) := by decide +kernel
theorem dX12_shook_130 : decode cX12_shook 130 = .ok (.iconst 0, 1) := by decide +kernel
theorem dX12_shook_131 : decode cX12_shook 131 = .ok (.ireturn, 1) := by decide +kernel
set_option maxRecDepth 20000 in
theorem ggX12_passedIn_X12_isOf : GoodIn wsX12_passedIn wsX12_isOf := goodIn_r _ [5] (by decide +kernel) (by decide +kernel)
set_option maxRecDepth 20000 in
theorem gX12_passedIn_X12_isOf : GoodIn wsX12_passedIn (va_wsS RX12 299 yX12_isOf wsX12_isOf) := goodIn_app (goodIn_of _ (by decide +kernel)) ggX12_passedIn_X12_isOf
set_option maxRecDepth 20000 in
theorem ggX12_passedIn_X12_meetIn : GoodIn wsX12_passedIn wsX12_meetIn := goodIn_r _ [9, 10, 11, 12, 4, 13, 1, 14, 15, 16, 17, 18, 19, 20, 21, 22, 23, 24, 25, 26, 27, 28, 29, 30, 31, 32, 33, 34, 35, 36, 37, 38, 39, 40, 41, 42, 43, 44, 45, 46, 47, 48, 49, 50, 51, 52, 53, 54, 55, 56, 57] (by decide +kernel) (by decide +kernel)
set_option maxRecDepth 20000 in
theorem gX12_passedIn_X12_meetIn : GoodIn wsX12_passedIn (wsV RX12 295 RX12 yX12_meetIn wsX12_meetIn) := goodIn_app (goodIn_of _ (by decide +kernel)) ggX12_passedIn_X12_meetIn
theorem dX12_passedIn_0 : decode cX12_passedIn 0 = .ok (.iload_n 1, 1) := by decide +kernel
theorem dX12_passedIn_1 : decode cX12_passedIn 1 = .ok (.istore_n 3, 1) := by decide +kernel
theorem dX12_passedIn_2 : decode cX12_passedIn 2 = .ok (.iconst 0, 1) := by decide +kernel
theorem dX12_passedIn_3 : decode cX12_passedIn 3 = .ok (.istore 4, 2) := by decide +kernel
theorem dX12_passedIn_5 : decode cX12_passedIn 5 = .ok (.iload 4, 2) := by decide +kernel
theorem dX12_passedIn_7 : decode cX12_passedIn 7 = .ok (.aload_n 0, 1) := by decide +kernel
theorem dX12_passedIn_8 : decode cX12_passedIn 8 = .ok (.getfield 39, 3) := by decide +kernel
theorem dX12_passedIn_11 : decode cX12_passedIn 11 = .ok (.iconst 2, 1) := by decide +kernel
theorem dX12_passedIn_12 : decode cX12_passedIn 12 = .ok (.iaload, 1) := by decide +kernel
theorem dX12_passedIn_13 : decode cX12_passedIn 13 = .ok (.if_icmp .ge 64, 3) := by decide +kernel
theorem dX12_passedIn_16 : decode cX12_passedIn 16 = .ok (.iconst 0, 1) := by decide +kernel
theorem dX12_passedIn_17 : decode cX12_passedIn 17 = .ok (.istore 5, 2) := by decide +kernel
theorem dX12_passedIn_19 : decode cX12_passedIn 19 = .ok (.iload 5, 2) := by decide +kernel
theorem dX12_passedIn_21 : decode cX12_passedIn 21 = .ok (.aload_n 0, 1) := by decide +kernel
theorem dX12_passedIn_22 : decode cX12_passedIn 22 = .ok (.getfield 39, 3) := by decide +kernel
theorem dX12_passedIn_25 : decode cX12_passedIn 25 = .ok (.iconst 2, 1) := by decide +kernel
theorem dX12_passedIn_26 : decode cX12_passedIn 26 = .ok (.iaload, 1) := by decide +kernel
theorem dX12_passedIn_27 : decode cX12_passedIn 27 = .ok (.if_icmp .ge 44, 3) := by decide +kernel
theorem dX12_passedIn_30 : decode cX12_passedIn 30 = .ok (.iload 4, 2) := by decide +kernel
theorem dX12_passedIn_32 : decode cX12_passedIn 32 = .ok (.iload 5, 2) := by decide +kernel
theorem dX12_passedIn_34 : decode cX12_passedIn 34 = .ok (.if_icmp .eq 31, 3) := by decide +kernel
theorem dX12_passedIn_37 : decode cX12_passedIn 37 = .ok (.iload_n 1, 1) := by decide +kernel
theorem dX12_passedIn_38 : decode cX12_passedIn 38 = .ok (.iload 4, 2) := by decide +kernel
theorem dX12_passedIn_40 : decode cX12_passedIn 40 = .ok (.invokestatic 299, 3) := by decide +kernel
theorem dX12_passedIn_43 : decode cX12_passedIn 43 = .ok (.ifCond .eq 22, 3) := by decide +kernel
theorem dX12_passedIn_46 : decode cX12_passedIn 46 = .ok (.aload_n 0, 1) := by decide +kernel
theorem dX12_passedIn_47 : decode cX12_passedIn 47 = .ok (.iload 4, 2) := by decide +kernel
theorem dX12_passedIn_49 : decode cX12_passedIn 49 = .ok (.iload 5, 2) := by decide +kernel
theorem dX12_passedIn_51 : decode cX12_passedIn 51 = .ok (.iload_n 2, 1) := by decide +kernel
theorem dX12_passedIn_52 : decode cX12_passedIn 52 = .ok (.invokevirtual 295, 3) := by decide +kernel
theorem dX12_passedIn_55 : decode cX12_passedIn 55 = .ok (.ifCond .eq 10, 3) := by decide +kernel
theorem dX12_passedIn_58 : decode cX12_passedIn 58 = .ok (.iload_n 3, 1) := by decide +kernel
theorem dX12_passedIn_59 : decode cX12_passedIn 59 = .ok (.iconst 1, 1) := by decide +kernel
theorem dX12_passedIn_60 : decode cX12_passedIn 60 = .ok (.iload 5, 2) := by decide +kernel
theorem dX12_passedIn_62 : decode cX12_passedIn 62 = .ok (.ishl, 1) := by decide +kernel
theorem dX12_passedIn_63 : decode cX12_passedIn 63 = .ok (.ior, 1) := by decide +kernel
theorem dX12_passedIn_64 : decode cX12_passedIn 64 = .ok (.istore_n 3, 1) := by decide +kernel
theorem dX12_passedIn_65 : decode cX12_passedIn 65 = .ok (.iinc 5 1, 3) := by decide +kernel
theorem dX12_passedIn_68 : decode cX12_passedIn 68 = .ok (.goto (-49), 3) := by decide +kernel
theorem dX12_passedIn_71 : decode cX12_passedIn 71 = .ok (.iinc 4 1, 3) := by decide +kernel
theorem dX12_passedIn_74 : decode cX12_passedIn 74 = .ok (.goto (-69), 3) := by decide +kernel
theorem dX12_passedIn_77 : decode cX12_passedIn 77 = .ok (.iload_n 3, 1) := by decide +kernel
theorem dX12_passedIn_78 : decode cX12_passedIn 78 = .ok (.ireturn, 1) := by decide +kernel
set_option maxRecDepth 20000 in
theorem ggX12_passes_X12_isPerson : GoodIn wsX12_passes wsX12_isPerson := goodIn_r _ [6, 1, 22, 23, 24, 25, 26, 27, 28, 29, 30, 31, 32, 33, 34, 35, 36, 37, 38, 39, 40, 41, 42, 43, 44, 45, 46, 47, 48, 49, 50, 51, 52, 53, 54, 55, 56, 57, 58, 59, 60, 61, 62, 63, 64, 65] (by decide +kernel) (by decide +kernel)
set_option maxRecDepth 20000 in
theorem gX12_passes_X12_isPerson : GoodIn wsX12_passes (wsV RX12 339 RX12 yX12_isPerson wsX12_isPerson) := goodIn_app (goodIn_of _ (by decide +kernel)) ggX12_passes_X12_isPerson
set_option maxRecDepth 20000 in
theorem ggX12_passes_X12_passedIn : GoodIn wsX12_passes wsX12_passedIn := goodIn_r _ [10, 1, 11, 12, 5, 13, 14, 15, 16, 17, 18, 19, 20, 21, 22, 23, 24, 25, 26, 27, 28, 29, 30, 31, 32, 33, 34, 35, 36, 37, 38, 39, 40, 41, 42, 43, 44, 45, 46, 47, 48, 49, 50, 51, 52, 53, 54, 55, 56, 57, 58, 59, 60, 61, 62, 63, 64, 65] (by decide +kernel) (by decide +kernel)
set_option maxRecDepth 20000 in
theorem gX12_passes_X12_passedIn : GoodIn wsX12_passes (wsV RX12 424 RX12 yX12_passedIn wsX12_passedIn) := goodIn_app (goodIn_of _ (by decide +kernel)) ggX12_passes_X12_passedIn
set_option maxRecDepth 20000 in
theorem ggX12_passes_X12_isOf : GoodIn wsX12_passes wsX12_isOf := goodIn_r _ [13] (by decide +kernel) (by decide +kernel)
set_option maxRecDepth 20000 in
theorem gX12_passes_X12_isOf : GoodIn wsX12_passes (va_wsS RX12 299 yX12_isOf wsX12_isOf) := goodIn_app (goodIn_of _ (by decide +kernel)) ggX12_passes_X12_isOf
theorem dX12_passes_0 : decode cX12_passes 0 = .ok (.aload_n 0, 1) := by decide +kernel
theorem dX12_passes_1 : decode cX12_passes 1 = .ok (.iload_n 1, 1) := by decide +kernel
theorem dX12_passes_2 : decode cX12_passes 2 = .ok (.invokevirtual 339, 3) := by decide +kernel
theorem dX12_passes_5 : decode cX12_passes 5 = .ok (.ifCond .eq 11, 3) := by decide +kernel
theorem dX12_passes_8 : decode cX12_passes 8 = .ok (.aload_n 0, 1) := by decide +kernel
theorem dX12_passes_9 : decode cX12_passes 9 = .ok (.iload_n 2, 1) := by decide +kernel
theorem dX12_passes_10 : decode cX12_passes 10 = .ok (.invokevirtual 339, 3) := by decide +kernel
theorem dX12_passes_13 : decode cX12_passes 13 = .ok (.ifCond .ne 6, 3) := by decide +kernel
theorem dX12_passes_16 : decode cX12_passes 16 = .ok (.bipush (-3), 2) := by decide +kernel
theorem dX12_passes_18 : decode cX12_passes 18 = .ok (.ireturn, 1) := by decide +kernel
theorem dX12_passes_19 : decode cX12_passes 19 = .ok (.iload_n 1, 1) := by decide +kernel
theorem dX12_passes_20 : decode cX12_passes 20 = .ok (.iload_n 2, 1) := by decide +kernel
theorem dX12_passes_21 : decode cX12_passes 21 = .ok (.if_icmp .ne 5, 3) := by decide +kernel
theorem dX12_passes_24 : decode cX12_passes 24 = .ok (.iconst (-1), 1) := by decide +kernel
theorem dX12_passes_25 : decode cX12_passes 25 = .ok (.ireturn, 1) := by decide +kernel
theorem dX12_passes_26 : decode cX12_passes 26 = .ok (.iconst 1, 1) := by decide +kernel
theorem dX12_passes_27 : decode cX12_passes 27 = .ok (.iload_n 1, 1) := by decide +kernel
theorem dX12_passes_28 : decode cX12_passes 28 = .ok (.ishl, 1) := by decide +kernel
theorem dX12_passes_29 : decode cX12_passes 29 = .ok (.istore_n 3, 1) := by decide +kernel
theorem dX12_passes_30 : decode cX12_passes 30 = .ok (.iconst 0, 1) := by decide +kernel
theorem dX12_passes_31 : decode cX12_passes 31 = .ok (.istore 4, 2) := by decide +kernel
theorem dX12_passes_33 : decode cX12_passes 33 = .ok (.iload 4, 2) := by decide +kernel
theorem dX12_passes_35 : decode cX12_passes 35 = .ok (.aload_n 0, 1) := by decide +kernel
theorem dX12_passes_36 : decode cX12_passes 36 = .ok (.getfield 39, 3) := by decide +kernel
theorem dX12_passes_39 : decode cX12_passes 39 = .ok (.iconst 1, 1) := by decide +kernel
theorem dX12_passes_40 : decode cX12_passes 40 = .ok (.iaload, 1) := by decide +kernel
theorem dX12_passes_41 : decode cX12_passes 41 = .ok (.if_icmp .ge 28, 3) := by decide +kernel
theorem dX12_passes_44 : decode cX12_passes 44 = .ok (.aload_n 0, 1) := by decide +kernel
theorem dX12_passes_45 : decode cX12_passes 45 = .ok (.iload_n 3, 1) := by decide +kernel
theorem dX12_passes_46 : decode cX12_passes 46 = .ok (.iload 4, 2) := by decide +kernel
theorem dX12_passes_48 : decode cX12_passes 48 = .ok (.invokevirtual 424, 3) := by decide +kernel
theorem dX12_passes_51 : decode cX12_passes 51 = .ok (.istore_n 3, 1) := by decide +kernel
theorem dX12_passes_52 : decode cX12_passes 52 = .ok (.iload_n 3, 1) := by decide +kernel
theorem dX12_passes_53 : decode cX12_passes 53 = .ok (.iload_n 2, 1) := by decide +kernel
theorem dX12_passes_54 : decode cX12_passes 54 = .ok (.invokestatic 299, 3) := by decide +kernel
theorem dX12_passes_57 : decode cX12_passes 57 = .ok (.ifCond .eq 6, 3) := by decide +kernel
theorem dX12_passes_60 : decode cX12_passes 60 = .ok (.iload 4, 2) := by decide +kernel
theorem dX12_passes_62 : decode cX12_passes 62 = .ok (.ireturn, 1) := by decide +kernel
theorem dX12_passes_63 : decode cX12_passes 63 = .ok (.iinc 4 1, 3) := by decide +kernel
theorem dX12_passes_66 : decode cX12_passes 66 = .ok (.goto (-33), 3) := by decide +kernel
theorem dX12_passes_69 : decode cX12_passes 69 = .ok (.bipush (-2), 2) := by decide +kernel
theorem dX12_passes_71 : decode cX12_passes 71 = .ok (.ireturn, 1) := by decide +kernel
set_option maxRecDepth 20000 in
theorem ggX12_have_X12_isPerson : GoodIn wsX12_have wsX12_isPerson := goodIn_r _ [5, 6, 26, 27, 28, 29, 30, 31, 32, 33, 34, 35, 36, 37, 38, 39, 40, 41, 42, 43, 44, 45, 46, 47, 48, 49, 50, 51, 52, 53, 54, 55, 56, 57, 58, 59, 60, 61, 62, 63, 64, 65, 66, 67, 68, 69] (by decide +kernel) (by decide +kernel)
set_option maxRecDepth 20000 in
theorem gX12_have_X12_isPerson : GoodIn wsX12_have (wsV RX12 339 RX12 yX12_isPerson wsX12_isPerson) := goodIn_app (goodIn_of _ (by decide +kernel)) ggX12_have_X12_isPerson
set_option maxRecDepth 20000 in
theorem ggX12_have_X12_isHour : GoodIn wsX12_have wsX12_isHour := goodIn_r _ [10, 6, 26, 27, 28, 29, 30, 31, 32, 33, 34, 35, 36, 37, 38, 39, 40, 41, 42, 43, 44, 45, 46, 47, 48, 49, 50, 51, 52, 53, 54, 55, 56, 57, 58, 59, 60, 61, 62, 63, 64, 65, 66, 67, 68, 69] (by decide +kernel) (by decide +kernel)
set_option maxRecDepth 20000 in
theorem gX12_have_X12_isHour : GoodIn wsX12_have (wsV RX12 342 RX12 yX12_isHour wsX12_isHour) := goodIn_app (goodIn_of _ (by decide +kernel)) ggX12_have_X12_isHour
set_option maxRecDepth 20000 in
theorem ggX12_have_X12_passedIn : GoodIn wsX12_have wsX12_passedIn := goodIn_r _ [14, 6, 15, 16, 4, 17, 18, 19, 20, 21, 22, 23, 24, 25, 26, 27, 28, 29, 30, 31, 32, 33, 34, 35, 36, 37, 38, 39, 40, 41, 42, 43, 44, 45, 46, 47, 48, 49, 50, 51, 52, 53, 54, 55, 56, 57, 58, 59, 60, 61, 62, 63, 64, 65, 66, 67, 68, 69] (by decide +kernel) (by decide +kernel)
set_option maxRecDepth 20000 in
theorem gX12_have_X12_passedIn : GoodIn wsX12_have (wsV RX12 424 RX12 yX12_passedIn wsX12_passedIn) := goodIn_app (goodIn_of _ (by decide +kernel)) ggX12_have_X12_passedIn
theorem dX12_have_0 : decode cX12_have 0 = .ok (.aload_n 0, 1) := by decide +kernel
theorem dX12_have_1 : decode cX12_have 1 = .ok (.iload_n 1, 1) := by decide +kernel
theorem dX12_have_2 : decode cX12_have 2 = .ok (.invokevirtual 339, 3) := by decide +kernel
theorem dX12_have_5 : decode cX12_have 5 = .ok (.ifCond .eq 11, 3) := by decide +kernel
theorem dX12_have_8 : decode cX12_have 8 = .ok (.aload_n 0, 1) := by decide +kernel
theorem dX12_have_9 : decode cX12_have 9 = .ok (.iload_n 2, 1) := by decide +kernel
theorem dX12_have_10 : decode cX12_have 10 = .ok (.invokevirtual 342, 3) := by decide +kernel
theorem dX12_have_13 : decode cX12_have 13 = .ok (.ifCond .ne 5, 3) := by decide +kernel
theorem dX12_have_16 : decode cX12_have 16 = .ok (.iconst (-1), 1) := by decide +kernel
theorem dX12_have_17 : decode cX12_have 17 = .ok (.ireturn, 1) := by decide +kernel
theorem dX12_have_18 : decode cX12_have 18 = .ok (.iconst 1, 1) := by decide +kernel
theorem dX12_have_19 : decode cX12_have 19 = .ok (.iload_n 1, 1) := by decide +kernel
theorem dX12_have_20 : decode cX12_have 20 = .ok (.ishl, 1) := by decide +kernel
theorem dX12_have_21 : decode cX12_have 21 = .ok (.istore_n 3, 1) := by decide +kernel
theorem dX12_have_22 : decode cX12_have 22 = .ok (.iconst 0, 1) := by decide +kernel
theorem dX12_have_23 : decode cX12_have 23 = .ok (.istore 4, 2) := by decide +kernel
theorem dX12_have_25 : decode cX12_have 25 = .ok (.iload 4, 2) := by decide +kernel
theorem dX12_have_27 : decode cX12_have 27 = .ok (.iload_n 2, 1) := by decide +kernel
theorem dX12_have_28 : decode cX12_have 28 = .ok (.if_icmp .gt 17, 3) := by decide +kernel
theorem dX12_have_31 : decode cX12_have 31 = .ok (.aload_n 0, 1) := by decide +kernel
theorem dX12_have_32 : decode cX12_have 32 = .ok (.iload_n 3, 1) := by decide +kernel
theorem dX12_have_33 : decode cX12_have 33 = .ok (.iload 4, 2) := by decide +kernel
theorem dX12_have_35 : decode cX12_have 35 = .ok (.invokevirtual 424, 3) := by decide +kernel
theorem dX12_have_38 : decode cX12_have 38 = .ok (.istore_n 3, 1) := by decide +kernel
theorem dX12_have_39 : decode cX12_have 39 = .ok (.iinc 4 1, 3) := by decide +kernel
theorem dX12_have_42 : decode cX12_have 42 = .ok (.goto (-17), 3) := by decide +kernel
theorem dX12_have_45 : decode cX12_have 45 = .ok (.iload_n 3, 1) := by decide +kernel
theorem dX12_have_46 : decode cX12_have 46 = .ok (.ireturn, 1) := by decide +kernel
set_option maxRecDepth 20000 in
theorem ggX12_islands_X12_isTown : GoodIn wsX12_islands wsX12_isTown := goodIn_r _ [6, 1, 30, 31, 32, 33, 34, 35, 36, 37, 38, 39, 40, 41, 42, 43, 44, 45, 46, 47, 48, 49, 50, 51, 52, 53, 54, 55, 56, 57, 58, 59, 60, 61, 62, 63, 64, 65, 66, 67, 68, 69, 70, 71, 72, 73] (by decide +kernel) (by decide +kernel)
set_option maxRecDepth 20000 in
theorem gX12_islands_X12_isTown : GoodIn wsX12_islands (wsV RX12 360 RX12 yX12_isTown wsX12_isTown) := goodIn_app (goodIn_of _ (by decide +kernel)) ggX12_islands_X12_isTown
set_option maxRecDepth 20000 in
theorem ggX12_islands_X12_everybody : GoodIn wsX12_islands wsX12_everybody := goodIn_r _ [10, 1, 30, 31, 32, 33, 34, 35, 36, 37, 38, 39, 40, 41, 42, 43, 44, 45, 46, 47, 48, 49, 50, 51, 52, 53, 54, 55, 56, 57, 58, 59, 60, 61, 62, 63, 64, 65, 66, 67, 68, 69, 70, 71, 72, 73] (by decide +kernel) (by decide +kernel)
set_option maxRecDepth 20000 in
theorem gX12_islands_X12_everybody : GoodIn wsX12_islands (wsV RX12 333 RX12 yX12_everybody wsX12_everybody) := goodIn_app (goodIn_of _ (by decide +kernel)) ggX12_islands_X12_everybody
set_option maxRecDepth 20000 in
theorem ggX12_islands_X12_isOf : GoodIn wsX12_islands wsX12_isOf := goodIn_r _ [13] (by decide +kernel) (by decide +kernel)
set_option maxRecDepth 20000 in
theorem gX12_islands_X12_isOf : GoodIn wsX12_islands (va_wsS RX12 299 yX12_isOf wsX12_isOf) := goodIn_app (goodIn_of _ (by decide +kernel)) ggX12_islands_X12_isOf
set_option maxRecDepth 20000 in
theorem ggX12_islands_X12_meetsOf : GoodIn wsX12_islands wsX12_meetsOf := goodIn_r _ [17, 1, 18, 19, 20, 5, 21, 22, 23, 24, 25, 26, 27, 28, 29, 30, 31, 32, 33, 34, 35, 36, 37, 38, 39, 40, 41, 42, 43, 44, 45, 46, 47, 48, 49, 50, 51, 52, 53, 54, 55, 56, 57, 58, 59, 60, 61, 62, 63, 64, 65, 66, 67, 68, 69, 70, 71, 72, 73] (by decide +kernel) (by decide +kernel)
set_option maxRecDepth 20000 in
theorem gX12_islands_X12_meetsOf : GoodIn wsX12_islands (wsV RX12 350 RX12 yX12_meetsOf wsX12_meetsOf) := goodIn_app (goodIn_of _ (by decide +kernel)) ggX12_islands_X12_meetsOf
theorem dX12_islands_0 : decode cX12_islands 0 = .ok (.aload_n 0, 1) := by decide +kernel
theorem dX12_islands_1 : decode cX12_islands 1 = .ok (.invokevirtual 360, 3) := by decide +kernel
theorem dX12_islands_4 : decode cX12_islands 4 = .ok (.ifCond .ne 5, 3) := by decide +kernel
theorem dX12_islands_7 : decode cX12_islands 7 = .ok (.iconst (-1), 1) := by decide +kernel
theorem dX12_islands_8 : decode cX12_islands 8 = .ok (.ireturn, 1) := by decide +kernel
theorem dX12_islands_9 : decode cX12_islands 9 = .ok (.aload_n 0, 1) := by decide +kernel
theorem dX12_islands_10 : decode cX12_islands 10 = .ok (.invokevirtual 333, 3) := by decide +kernel
theorem dX12_islands_13 : decode cX12_islands 13 = .ok (.istore_n 1, 1) := by decide +kernel
theorem dX12_islands_14 : decode cX12_islands 14 = .ok (.iconst 0, 1) := by decide +kernel
theorem dX12_islands_15 : decode cX12_islands 15 = .ok (.istore_n 2, 1) := by decide +kernel
theorem dX12_islands_16 : decode cX12_islands 16 = .ok (.iload_n 1, 1) := by decide +kernel
theorem dX12_islands_17 : decode cX12_islands 17 = .ok (.ifCond .eq 74, 3) := by decide +kernel
theorem dX12_islands_20 : decode cX12_islands 20 = .ok (.iload_n 1, 1) := by decide +kernel
theorem dX12_islands_21 : decode cX12_islands 21 = .ok (.iload_n 1, 1) := by decide +kernel
theorem dX12_islands_22 : decode cX12_islands 22 = .ok (.ineg, 1) := by decide +kernel
theorem dX12_islands_23 : decode cX12_islands 23 = .ok (.iand, 1) := by decide +kernel
theorem dX12_islands_24 : decode cX12_islands 24 = .ok (.istore_n 3, 1) := by decide +kernel
theorem dX12_islands_25 : decode cX12_islands 25 = .ok (.iconst 0, 1) := by decide +kernel
theorem dX12_islands_26 : decode cX12_islands 26 = .ok (.istore 4, 2) := by decide +kernel
theorem dX12_islands_28 : decode cX12_islands 28 = .ok (.iload_n 3, 1) := by decide +kernel
theorem dX12_islands_29 : decode cX12_islands 29 = .ok (.iload 4, 2) := by decide +kernel
theorem dX12_islands_31 : decode cX12_islands 31 = .ok (.if_icmp .eq 48, 3) := by decide +kernel
theorem dX12_islands_34 : decode cX12_islands 34 = .ok (.iload_n 3, 1) := by decide +kernel
theorem dX12_islands_35 : decode cX12_islands 35 = .ok (.istore 4, 2) := by decide +kernel
theorem dX12_islands_37 : decode cX12_islands 37 = .ok (.iconst 0, 1) := by decide +kernel
theorem dX12_islands_38 : decode cX12_islands 38 = .ok (.istore 5, 2) := by decide +kernel
theorem dX12_islands_40 : decode cX12_islands 40 = .ok (.iload 5, 2) := by decide +kernel
theorem dX12_islands_42 : decode cX12_islands 42 = .ok (.aload_n 0, 1) := by decide +kernel
theorem dX12_islands_43 : decode cX12_islands 43 = .ok (.getfield 39, 3) := by decide +kernel
theorem dX12_islands_46 : decode cX12_islands 46 = .ok (.iconst 2, 1) := by decide +kernel
theorem dX12_islands_47 : decode cX12_islands 47 = .ok (.iaload, 1) := by decide +kernel
theorem dX12_islands_48 : decode cX12_islands 48 = .ok (.if_icmp .ge 28, 3) := by decide +kernel
theorem dX12_islands_51 : decode cX12_islands 51 = .ok (.iload 4, 2) := by decide +kernel
theorem dX12_islands_53 : decode cX12_islands 53 = .ok (.iload 5, 2) := by decide +kernel
theorem dX12_islands_55 : decode cX12_islands 55 = .ok (.invokestatic 299, 3) := by decide +kernel
theorem dX12_islands_58 : decode cX12_islands 58 = .ok (.ifCond .eq 12, 3) := by decide +kernel
theorem dX12_islands_61 : decode cX12_islands 61 = .ok (.iload_n 3, 1) := by decide +kernel
theorem dX12_islands_62 : decode cX12_islands 62 = .ok (.aload_n 0, 1) := by decide +kernel
theorem dX12_islands_63 : decode cX12_islands 63 = .ok (.iload 5, 2) := by decide +kernel
theorem dX12_islands_65 : decode cX12_islands 65 = .ok (.invokevirtual 350, 3) := by decide +kernel
theorem dX12_islands_68 : decode cX12_islands 68 = .ok (.ior, 1) := by decide +kernel
theorem dX12_islands_69 : decode cX12_islands 69 = .ok (.istore_n 3, 1) := by decide +kernel
theorem dX12_islands_70 : decode cX12_islands 70 = .ok (.iinc 5 1, 3) := by decide +kernel
theorem dX12_islands_73 : decode cX12_islands 73 = .ok (.goto (-33), 3) := by decide +kernel
theorem dX12_islands_76 : decode cX12_islands 76 = .ok (.goto (-48), 3) := by decide +kernel
theorem dX12_islands_79 : decode cX12_islands 79 = .ok (.iload_n 1, 1) := by decide +kernel
theorem dX12_islands_80 : decode cX12_islands 80 = .ok (.iload_n 3, 1) := by decide +kernel
theorem dX12_islands_81 : decode cX12_islands 81 = .ok (.iconst (-1), 1) := by decide +kernel
theorem dX12_islands_82 : decode cX12_islands 82 = .ok (.ixor, 1) := by decide +kernel
theorem dX12_islands_83 : decode cX12_islands 83 = .ok (.iand, 1) := by decide +kernel
theorem dX12_islands_84 : decode cX12_islands 84 = .ok (.istore_n 1, 1) := by decide +kernel
theorem dX12_islands_85 : decode cX12_islands 85 = .ok (.iinc 2 1, 3) := by decide +kernel
theorem dX12_islands_88 : decode cX12_islands 88 = .ok (.goto (-72), 3) := by decide +kernel
theorem dX12_islands_91 : decode cX12_islands 91 = .ok (.iload_n 2, 1) := by decide +kernel
theorem dX12_islands_92 : decode cX12_islands 92 = .ok (.ireturn, 1) := by decide +kernel
set_option maxRecDepth 20000 in
theorem ggX12_rounds_X12_isTown : GoodIn wsX12_rounds wsX12_isTown := goodIn_r _ [6, 7, 18, 19, 20, 21, 22, 23, 24, 25, 26, 27, 28, 29, 30, 31, 32, 33, 34, 35, 36, 37, 38, 39, 40, 41, 42, 43, 44, 45, 46, 47, 48, 49, 50, 51, 52, 53, 54, 55, 56, 57, 58, 59, 60, 61] (by decide +kernel) (by decide +kernel)
set_option maxRecDepth 20000 in
theorem gX12_rounds_X12_isTown : GoodIn wsX12_rounds (wsV RX12 360 RX12 yX12_isTown wsX12_isTown) := goodIn_app (goodIn_of _ (by decide +kernel)) ggX12_rounds_X12_isTown
set_option maxRecDepth 20000 in
theorem ggX12_rounds_X12_everybody : GoodIn wsX12_rounds wsX12_everybody := goodIn_r _ [11, 7, 18, 19, 20, 21, 22, 23, 24, 25, 26, 27, 28, 29, 30, 31, 32, 33, 34, 35, 36, 37, 38, 39, 40, 41, 42, 43, 44, 45, 46, 47, 48, 49, 50, 51, 52, 53, 54, 55, 56, 57, 58, 59, 60, 61] (by decide +kernel) (by decide +kernel)
set_option maxRecDepth 20000 in
theorem gX12_rounds_X12_everybody : GoodIn wsX12_rounds (wsV RX12 333 RX12 yX12_everybody wsX12_everybody) := goodIn_app (goodIn_of _ (by decide +kernel)) ggX12_rounds_X12_everybody
set_option maxRecDepth 20000 in
theorem ggX12_rounds_X12_in : GoodIn wsX12_rounds wsX12_in := goodIn_r _ [14] (by decide +kernel) (by decide +kernel)
set_option maxRecDepth 20000 in
theorem gX12_rounds_X12_in : GoodIn wsX12_rounds (va_wsS RX12 127 yX12_in wsX12_in) := goodIn_app (goodIn_of _ (by decide +kernel)) ggX12_rounds_X12_in
set_option maxRecDepth 20000 in
theorem ggX12_rounds_X12_bits : GoodIn wsX12_rounds wsX12_bits := goodIn_r _ [17] (by decide +kernel) (by decide +kernel)
set_option maxRecDepth 20000 in
theorem gX12_rounds_X12_bits : GoodIn wsX12_rounds (va_wsS RX12 326 yX12_bits wsX12_bits) := goodIn_app (goodIn_of _ (by decide +kernel)) ggX12_rounds_X12_bits
theorem dX12_rounds_0 : decode cX12_rounds 0 = .ok (.aload_n 0, 1) := by decide +kernel
theorem dX12_rounds_1 : decode cX12_rounds 1 = .ok (.invokevirtual 360, 3) := by decide +kernel
theorem dX12_rounds_4 : decode cX12_rounds 4 = .ok (.ifCond .eq 27, 3) := by decide +kernel
theorem dX12_rounds_7 : decode cX12_rounds 7 = .ok (.iload_n 1, 1) := by decide +kernel
theorem dX12_rounds_8 : decode cX12_rounds 8 = .ok (.ifCond .lt 23, 3) := by decide +kernel
theorem dX12_rounds_11 : decode cX12_rounds 11 = .ok (.iload_n 1, 1) := by decide +kernel
theorem dX12_rounds_12 : decode cX12_rounds 12 = .ok (.aload_n 0, 1) := by decide +kernel
theorem dX12_rounds_13 : decode cX12_rounds 13 = .ok (.invokevirtual 333, 3) := by decide +kernel
theorem dX12_rounds_16 : decode cX12_rounds 16 = .ok (.if_icmp .gt 15, 3) := by decide +kernel
theorem dX12_rounds_19 : decode cX12_rounds 19 = .ok (.iload_n 2, 1) := by decide +kernel
theorem dX12_rounds_20 : decode cX12_rounds 20 = .ok (.i2l, 1) := by decide +kernel
theorem dX12_rounds_21 : decode cX12_rounds 21 = .ok (.lconst 1, 1) := by decide +kernel
theorem dX12_rounds_22 : decode cX12_rounds 22 = .ok (.ldc2_w 427, 3) := by decide +kernel
theorem dX12_rounds_25 : decode cX12_rounds 25 = .ok (.invokestatic 127, 3) := by decide +kernel
theorem dX12_rounds_28 : decode cX12_rounds 28 = .ok (.ifCond .ne 5, 3) := by decide +kernel
theorem dX12_rounds_31 : decode cX12_rounds 31 = .ok (.iconst (-1), 1) := by decide +kernel
theorem dX12_rounds_32 : decode cX12_rounds 32 = .ok (.ireturn, 1) := by decide +kernel
theorem dX12_rounds_33 : decode cX12_rounds 33 = .ok (.iload_n 1, 1) := by decide +kernel
theorem dX12_rounds_34 : decode cX12_rounds 34 = .ok (.invokestatic 326, 3) := by decide +kernel
theorem dX12_rounds_37 : decode cX12_rounds 37 = .ok (.istore_n 3, 1) := by decide +kernel
theorem dX12_rounds_38 : decode cX12_rounds 38 = .ok (.iload_n 3, 1) := by decide +kernel
theorem dX12_rounds_39 : decode cX12_rounds 39 = .ok (.iconst 2, 1) := by decide +kernel
theorem dX12_rounds_40 : decode cX12_rounds 40 = .ok (.if_icmp .ge 5, 3) := by decide +kernel
theorem dX12_rounds_43 : decode cX12_rounds 43 = .ok (.iconst 0, 1) := by decide +kernel
theorem dX12_rounds_44 : decode cX12_rounds 44 = .ok (.ireturn, 1) := by decide +kernel
theorem dX12_rounds_45 : decode cX12_rounds 45 = .ok (.iload_n 3, 1) := by decide +kernel
theorem dX12_rounds_46 : decode cX12_rounds 46 = .ok (.iload_n 3, 1) := by decide +kernel
theorem dX12_rounds_47 : decode cX12_rounds 47 = .ok (.iconst 1, 1) := by decide +kernel
theorem dX12_rounds_48 : decode cX12_rounds 48 = .ok (.isub, 1) := by decide +kernel
theorem dX12_rounds_49 : decode cX12_rounds 49 = .ok (.imul, 1) := by decide +kernel
theorem dX12_rounds_50 : decode cX12_rounds 50 = .ok (.iconst 2, 1) := by decide +kernel
theorem dX12_rounds_51 : decode cX12_rounds 51 = .ok (.idiv, 1) := by decide +kernel
theorem dX12_rounds_52 : decode cX12_rounds 52 = .ok (.istore 4, 2) := by decide +kernel
theorem dX12_rounds_54 : decode cX12_rounds 54 = .ok (.iload_n 2, 1) := by decide +kernel
theorem dX12_rounds_55 : decode cX12_rounds 55 = .ok (.iload_n 3, 1) := by decide +kernel
theorem dX12_rounds_56 : decode cX12_rounds 56 = .ok (.iconst 2, 1) := by decide +kernel
theorem dX12_rounds_57 : decode cX12_rounds 57 = .ok (.idiv, 1) := by decide +kernel
theorem dX12_rounds_58 : decode cX12_rounds 58 = .ok (.if_icmp .ge 7, 3) := by decide +kernel
theorem dX12_rounds_61 : decode cX12_rounds 61 = .ok (.iload_n 2, 1) := by decide +kernel
theorem dX12_rounds_62 : decode cX12_rounds 62 = .ok (.goto 6, 3) := by decide +kernel
theorem dX12_rounds_65 : decode cX12_rounds 65 = .ok (.iload_n 3, 1) := by decide +kernel
theorem dX12_rounds_66 : decode cX12_rounds 66 = .ok (.iconst 2, 1) := by decide +kernel
theorem dX12_rounds_67 : decode cX12_rounds 67 = .ok (.idiv, 1) := by decide +kernel
theorem dX12_rounds_68 : decode cX12_rounds 68 = .ok (.istore 5, 2) := by decide +kernel
theorem dX12_rounds_70 : decode cX12_rounds 70 = .ok (.iload_n 3, 1) := by decide +kernel
theorem dX12_rounds_71 : decode cX12_rounds 71 = .ok (.iconst 2, 1) := by decide +kernel
theorem dX12_rounds_72 : decode cX12_rounds 72 = .ok (.irem, 1) := by decide +kernel
theorem dX12_rounds_73 : decode cX12_rounds 73 = .ok (.ifCond .ne 9, 3) := by decide +kernel
theorem dX12_rounds_76 : decode cX12_rounds 76 = .ok (.iload_n 3, 1) := by decide +kernel
theorem dX12_rounds_77 : decode cX12_rounds 77 = .ok (.iconst 1, 1) := by decide +kernel
theorem dX12_rounds_78 : decode cX12_rounds 78 = .ok (.isub, 1) := by decide +kernel
theorem dX12_rounds_79 : decode cX12_rounds 79 = .ok (.goto 4, 3) := by decide +kernel
theorem dX12_rounds_82 : decode cX12_rounds 82 = .ok (.iload_n 3, 1) := by decide +kernel
theorem dX12_rounds_83 : decode cX12_rounds 83 = .ok (.istore 6, 2) := by decide +kernel
theorem dX12_rounds_85 : decode cX12_rounds 85 = .ok (.iload 4, 2) := by decide +kernel
theorem dX12_rounds_87 : decode cX12_rounds 87 = .ok (.iload 5, 2) := by decide +kernel
theorem dX12_rounds_89 : decode cX12_rounds 89 = .ok (.iadd, 1) := by decide +kernel
theorem dX12_rounds_90 : decode cX12_rounds 90 = .ok (.iconst 1, 1) := by decide +kernel
theorem dX12_rounds_91 : decode cX12_rounds 91 = .ok (.isub, 1) := by decide +kernel
theorem dX12_rounds_92 : decode cX12_rounds 92 = .ok (.iload 5, 2) := by decide +kernel
theorem dX12_rounds_94 : decode cX12_rounds 94 = .ok (.idiv, 1) := by decide +kernel
theorem dX12_rounds_95 : decode cX12_rounds 95 = .ok (.istore 7, 2) := by decide +kernel
theorem dX12_rounds_97 : decode cX12_rounds 97 = .ok (.iload 7, 2) := by decide +kernel
theorem dX12_rounds_99 : decode cX12_rounds 99 = .ok (.iload 6, 2) := by decide +kernel
theorem dX12_rounds_101 : decode cX12_rounds 101 = .ok (.if_icmp .le 8, 3) := by decide +kernel
theorem dX12_rounds_104 : decode cX12_rounds 104 = .ok (.iload 7, 2) := by decide +kernel
theorem dX12_rounds_106 : decode cX12_rounds 106 = .ok (.goto 5, 3) := by decide +kernel
theorem dX12_rounds_109 : decode cX12_rounds 109 = .ok (.iload 6, 2) := by decide +kernel
theorem dX12_rounds_111 : decode cX12_rounds 111 = .ok (.ireturn, 1) := by decide +kernel
set_option maxRecDepth 20000 in
theorem ggX12_census_X12_isTown : GoodIn wsX12_census wsX12_isTown := goodIn_r _ [5, 6, 77, 78, 79, 80, 81, 82, 83, 84, 85, 86, 87, 88, 89, 90, 91, 92, 93, 94, 95, 96, 97, 98, 99, 100, 101, 102, 103, 104, 105, 106, 107, 108, 109, 110, 111, 112, 113, 114, 115, 116, 117, 118, 119, 120] (by decide +kernel) (by decide +kernel)
set_option maxRecDepth 20000 in
theorem gX12_census_X12_isTown : GoodIn wsX12_census (wsV RX12 360 RX12 yX12_isTown wsX12_isTown) := goodIn_app (goodIn_of _ (by decide +kernel)) ggX12_census_X12_isTown
set_option maxRecDepth 20000 in
theorem ggX12_census_X12_totalOf : GoodIn wsX12_census wsX12_totalOf := goodIn_r _ [10, 6, 11, 12, 13, 4, 14, 15, 16, 17, 18, 19, 20, 21, 22, 23, 24, 25, 26, 27, 28, 29, 30, 31, 32, 33, 34, 35, 36, 37, 38, 39, 40, 41, 42, 43, 44, 45, 46, 47, 48, 49, 50, 51, 52, 53, 54, 55, 56, 57, 58, 59, 60, 61, 62, 63, 64, 65, 66, 67, 68, 69, 70, 71, 72, 73, 74, 75, 76, 77, 78, 79, 80, 81, 82, 83, 84, 85, 86, 87, 88, 89, 90, 91, 92, 93, 94, 95, 96, 97, 98, 99, 100, 101, 102, 103, 104, 105, 106, 107, 108, 109, 110, 111, 112, 113, 114, 115, 116, 117, 118, 119, 120] (by decide +kernel) (by decide +kernel)
set_option maxRecDepth 20000 in
theorem gX12_census_X12_totalOf : GoodIn wsX12_census (wsV RX12 357 RX12 yX12_totalOf wsX12_totalOf) := goodIn_app (goodIn_of _ (by decide +kernel)) ggX12_census_X12_totalOf
theorem dX12_census_0 : decode cX12_census 0 = .ok (.aload_n 0, 1) := by decide +kernel
theorem dX12_census_1 : decode cX12_census 1 = .ok (.invokevirtual 360, 3) := by decide +kernel
theorem dX12_census_4 : decode cX12_census 4 = .ok (.ifCond .ne 5, 3) := by decide +kernel
theorem dX12_census_7 : decode cX12_census 7 = .ok (.iconst (-1), 1) := by decide +kernel
theorem dX12_census_8 : decode cX12_census 8 = .ok (.ireturn, 1) := by decide +kernel
theorem dX12_census_9 : decode cX12_census 9 = .ok (.aload_n 0, 1) := by decide +kernel
theorem dX12_census_10 : decode cX12_census 10 = .ok (.invokevirtual 357, 3) := by decide +kernel
theorem dX12_census_13 : decode cX12_census 13 = .ok (.istore_n 1, 1) := by decide +kernel
theorem dX12_census_14 : decode cX12_census 14 = .ok (.iconst 0, 1) := by decide +kernel
theorem dX12_census_15 : decode cX12_census 15 = .ok (.istore_n 2, 1) := by decide +kernel
theorem dX12_census_16 : decode cX12_census 16 = .ok (.iload_n 1, 1) := by decide +kernel
theorem dX12_census_17 : decode cX12_census 17 = .ok (.ifCond .ge 8, 3) := by decide +kernel
theorem dX12_census_20 : decode cX12_census 20 = .ok (.iload_n 1, 1) := by decide +kernel
theorem dX12_census_21 : decode cX12_census 21 = .ok (.ineg, 1) := by decide +kernel
theorem dX12_census_22 : decode cX12_census 22 = .ok (.goto 4, 3) := by decide +kernel
theorem dX12_census_25 : decode cX12_census 25 = .ok (.iload_n 1, 1) := by decide +kernel
theorem dX12_census_26 : decode cX12_census 26 = .ok (.istore_n 3, 1) := by decide +kernel
theorem dX12_census_27 : decode cX12_census 27 = .ok (.iconst 1, 1) := by decide +kernel
theorem dX12_census_28 : decode cX12_census 28 = .ok (.istore 4, 2) := by decide +kernel
theorem dX12_census_30 : decode cX12_census 30 = .ok (.iload 4, 2) := by decide +kernel
theorem dX12_census_32 : decode cX12_census 32 = .ok (.sipush 1000, 3) := by decide +kernel
theorem dX12_census_35 : decode cX12_census 35 = .ok (.if_icmp .ge 50, 3) := by decide +kernel
theorem dX12_census_38 : decode cX12_census 38 = .ok (.iload 4, 2) := by decide +kernel
theorem dX12_census_40 : decode cX12_census 40 = .ok (.iload 4, 2) := by decide +kernel
theorem dX12_census_42 : decode cX12_census 42 = .ok (.iconst 1, 1) := by decide +kernel
theorem dX12_census_43 : decode cX12_census 43 = .ok (.isub, 1) := by decide +kernel
theorem dX12_census_44 : decode cX12_census 44 = .ok (.imul, 1) := by decide +kernel
theorem dX12_census_45 : decode cX12_census 45 = .ok (.iload_n 1, 1) := by decide +kernel
theorem dX12_census_46 : decode cX12_census 46 = .ok (.isub, 1) := by decide +kernel
theorem dX12_census_47 : decode cX12_census 47 = .ok (.istore 5, 2) := by decide +kernel
theorem dX12_census_49 : decode cX12_census 49 = .ok (.iload 5, 2) := by decide +kernel
theorem dX12_census_51 : decode cX12_census 51 = .ok (.ifCond .ge 9, 3) := by decide +kernel
theorem dX12_census_54 : decode cX12_census 54 = .ok (.iload 5, 2) := by decide +kernel
theorem dX12_census_56 : decode cX12_census 56 = .ok (.ineg, 1) := by decide +kernel
theorem dX12_census_57 : decode cX12_census 57 = .ok (.goto 5, 3) := by decide +kernel
theorem dX12_census_60 : decode cX12_census 60 = .ok (.iload 5, 2) := by decide +kernel
theorem dX12_census_62 : decode cX12_census 62 = .ok (.istore 5, 2) := by decide +kernel
theorem dX12_census_64 : decode cX12_census 64 = .ok (.iload 5, 2) := by decide +kernel
theorem dX12_census_66 : decode cX12_census 66 = .ok (.iload_n 3, 1) := by decide +kernel
theorem dX12_census_67 : decode cX12_census 67 = .ok (.if_icmp .le 6, 3) := by decide +kernel
theorem dX12_census_70 : decode cX12_census 70 = .ok (.goto 9, 3) := by decide +kernel
theorem dX12_census_73 : decode cX12_census 73 = .ok (.iload 4, 2) := by decide +kernel
theorem dX12_census_75 : decode cX12_census 75 = .ok (.istore_n 2, 1) := by decide +kernel
theorem dX12_census_76 : decode cX12_census 76 = .ok (.iload 5, 2) := by decide +kernel
theorem dX12_census_78 : decode cX12_census 78 = .ok (.istore_n 3, 1) := by decide +kernel
theorem dX12_census_79 : decode cX12_census 79 = .ok (.iinc 4 1, 3) := by decide +kernel
theorem dX12_census_82 : decode cX12_census 82 = .ok (.goto (-52), 3) := by decide +kernel
theorem dX12_census_85 : decode cX12_census 85 = .ok (.iload_n 2, 1) := by decide +kernel
theorem dX12_census_86 : decode cX12_census 86 = .ok (.ireturn, 1) := by decide +kernel
theorem dX12_seed_0 : decode cX12_seed 0 = .ok (.iload_n 1, 1) := by decide +kernel
theorem dX12_seed_1 : decode cX12_seed 1 = .ok (.ifCond .ge 5, 3) := by decide +kernel
theorem dX12_seed_4 : decode cX12_seed 4 = .ok (.iconst (-1), 1) := by decide +kernel
theorem dX12_seed_5 : decode cX12_seed 5 = .ok (.ireturn, 1) := by decide +kernel
theorem dX12_seed_6 : decode cX12_seed 6 = .ok (.aload_n 0, 1) := by decide +kernel
theorem dX12_seed_7 : decode cX12_seed 7 = .ok (.getfield 429, 3) := by decide +kernel
theorem dX12_seed_10 : decode cX12_seed 10 = .ok (.istore_n 2, 1) := by decide +kernel
theorem dX12_seed_11 : decode cX12_seed 11 = .ok (.aload_n 0, 1) := by decide +kernel
theorem dX12_seed_12 : decode cX12_seed 12 = .ok (.iload_n 1, 1) := by decide +kernel
theorem dX12_seed_13 : decode cX12_seed 13 = .ok (.putfield 429, 3) := by decide +kernel
theorem dX12_seed_16 : decode cX12_seed 16 = .ok (.iload_n 2, 1) := by decide +kernel
theorem dX12_seed_17 : decode cX12_seed 17 = .ok (.ireturn, 1) := by decide +kernel
theorem dX12_draw_0 : decode cX12_draw 0 = .ok (.aload_n 0, 1) := by decide +kernel
theorem dX12_draw_1 : decode cX12_draw 1 = .ok (.aload_n 0, 1) := by decide +kernel
theorem dX12_draw_2 : decode cX12_draw 2 = .ok (.getfield 432, 3) := by decide +kernel
theorem dX12_draw_5 : decode cX12_draw 5 = .ok (.ldc2_w 436, 3) := by decide +kernel
theorem dX12_draw_8 : decode cX12_draw 8 = .ok (.lmul, 1) := by decide +kernel
theorem dX12_draw_9 : decode cX12_draw 9 = .ok (.ldc2_w 438, 3) := by decide +kernel
theorem dX12_draw_12 : decode cX12_draw 12 = .ok (.ladd, 1) := by decide +kernel
theorem dX12_draw_13 : decode cX12_draw 13 = .ok (.ldc2_w 440, 3) := by decide +kernel
theorem dX12_draw_16 : decode cX12_draw 16 = .ok (.lrem, 1) := by decide +kernel
theorem dX12_draw_17 : decode cX12_draw 17 = .ok (.putfield 432, 3) := by decide +kernel
theorem dX12_draw_20 : decode cX12_draw 20 = .ok (.aload_n 0, 1) := by decide +kernel
theorem dX12_draw_21 : decode cX12_draw 21 = .ok (.getfield 432, 3) := by decide +kernel
theorem dX12_draw_24 : decode cX12_draw 24 = .ok (.ldc2_w 442, 3) := by decide +kernel
theorem dX12_draw_27 : decode cX12_draw 27 = .ok (.ldiv, 1) := by decide +kernel
theorem dX12_draw_28 : decode cX12_draw 28 = .ok (.iload_n 1, 1) := by decide +kernel
theorem dX12_draw_29 : decode cX12_draw 29 = .ok (.i2l, 1) := by decide +kernel
theorem dX12_draw_30 : decode cX12_draw 30 = .ok (.lrem, 1) := by decide +kernel
theorem dX12_draw_31 : decode cX12_draw 31 = .ok (.l2i, 1) := by decide +kernel
theorem dX12_draw_32 : decode cX12_draw 32 = .ok (.ireturn, 1) := by decide +kernel
set_option maxRecDepth 20000 in
theorem ggX12_drawsDay_X12_draw : GoodIn wsX12_drawsDay wsX12_draw := goodIn_r _ [6, 7, 8, 9, 10, 11, 12, 13, 14, 15, 16, 17, 18, 19, 20, 21, 22, 23, 24, 25, 26, 27, 28, 29, 30, 31, 32, 33, 34, 35, 36, 37, 38, 39, 40, 41, 42, 43, 44, 45, 46, 47, 48, 49, 50, 51, 52, 53, 54, 55] (by decide +kernel) (by decide +kernel)
set_option maxRecDepth 20000 in
theorem gX12_drawsDay_X12_draw : GoodIn wsX12_drawsDay (wsV RX12 444 RX12 yX12_draw wsX12_draw) := goodIn_app (goodIn_of _ (by decide +kernel)) ggX12_drawsDay_X12_draw
theorem dX12_drawsDay_0 : decode cX12_drawsDay 0 = .ok (.iconst 0, 1) := by decide +kernel
theorem dX12_drawsDay_1 : decode cX12_drawsDay 1 = .ok (.istore_n 2, 1) := by decide +kernel
theorem dX12_drawsDay_2 : decode cX12_drawsDay 2 = .ok (.iload_n 2, 1) := by decide +kernel
theorem dX12_drawsDay_3 : decode cX12_drawsDay 3 = .ok (.aload_n 0, 1) := by decide +kernel
theorem dX12_drawsDay_4 : decode cX12_drawsDay 4 = .ok (.getfield 39, 3) := by decide +kernel
theorem dX12_drawsDay_7 : decode cX12_drawsDay 7 = .ok (.iconst 2, 1) := by decide +kernel
theorem dX12_drawsDay_8 : decode cX12_drawsDay 8 = .ok (.iaload, 1) := by decide +kernel
theorem dX12_drawsDay_9 : decode cX12_drawsDay 9 = .ok (.if_icmp .ge 86, 3) := by decide +kernel
theorem dX12_drawsDay_12 : decode cX12_drawsDay 12 = .ok (.iconst 0, 1) := by decide +kernel
theorem dX12_drawsDay_13 : decode cX12_drawsDay 13 = .ok (.istore_n 3, 1) := by decide +kernel
theorem dX12_drawsDay_14 : decode cX12_drawsDay 14 = .ok (.iload_n 3, 1) := by decide +kernel
theorem dX12_drawsDay_15 : decode cX12_drawsDay 15 = .ok (.aload_n 0, 1) := by decide +kernel
theorem dX12_drawsDay_16 : decode cX12_drawsDay 16 = .ok (.getfield 39, 3) := by decide +kernel
theorem dX12_drawsDay_19 : decode cX12_drawsDay 19 = .ok (.iconst 1, 1) := by decide +kernel
theorem dX12_drawsDay_20 : decode cX12_drawsDay 20 = .ok (.iaload, 1) := by decide +kernel
theorem dX12_drawsDay_21 : decode cX12_drawsDay 21 = .ok (.if_icmp .ge 68, 3) := by decide +kernel
theorem dX12_drawsDay_24 : decode cX12_drawsDay 24 = .ok (.aload_n 0, 1) := by decide +kernel
theorem dX12_drawsDay_25 : decode cX12_drawsDay 25 = .ok (.bipush 100, 2) := by decide +kernel
theorem dX12_drawsDay_27 : decode cX12_drawsDay 27 = .ok (.invokevirtual 444, 3) := by decide +kernel
theorem dX12_drawsDay_30 : decode cX12_drawsDay 30 = .ok (.iload_n 1, 1) := by decide +kernel
theorem dX12_drawsDay_31 : decode cX12_drawsDay 31 = .ok (.if_icmp .lt 6, 3) := by decide +kernel
theorem dX12_drawsDay_34 : decode cX12_drawsDay 34 = .ok (.goto 49, 3) := by decide +kernel
theorem dX12_drawsDay_37 : decode cX12_drawsDay 37 = .ok (.aload_n 0, 1) := by decide +kernel
theorem dX12_drawsDay_38 : decode cX12_drawsDay 38 = .ok (.aload_n 0, 1) := by decide +kernel
theorem dX12_drawsDay_39 : decode cX12_drawsDay 39 = .ok (.getfield 39, 3) := by decide +kernel
theorem dX12_drawsDay_42 : decode cX12_drawsDay 42 = .ok (.iconst 0, 1) := by decide +kernel
theorem dX12_drawsDay_43 : decode cX12_drawsDay 43 = .ok (.iaload, 1) := by decide +kernel
theorem dX12_drawsDay_44 : decode cX12_drawsDay 44 = .ok (.iconst 1, 1) := by decide +kernel
theorem dX12_drawsDay_45 : decode cX12_drawsDay 45 = .ok (.iadd, 1) := by decide +kernel
theorem dX12_drawsDay_46 : decode cX12_drawsDay 46 = .ok (.invokevirtual 444, 3) := by decide +kernel
theorem dX12_drawsDay_49 : decode cX12_drawsDay 49 = .ok (.istore 4, 2) := by decide +kernel
theorem dX12_drawsDay_51 : decode cX12_drawsDay 51 = .ok (.aload_n 0, 1) := by decide +kernel
theorem dX12_drawsDay_52 : decode cX12_drawsDay 52 = .ok (.getfield 39, 3) := by decide +kernel
theorem dX12_drawsDay_55 : decode cX12_drawsDay 55 = .ok (.bipush 10, 2) := by decide +kernel
theorem dX12_drawsDay_57 : decode cX12_drawsDay 57 = .ok (.bipush 12, 2) := by decide +kernel
theorem dX12_drawsDay_59 : decode cX12_drawsDay 59 = .ok (.iload_n 2, 1) := by decide +kernel
theorem dX12_drawsDay_60 : decode cX12_drawsDay 60 = .ok (.imul, 1) := by decide +kernel
theorem dX12_drawsDay_61 : decode cX12_drawsDay 61 = .ok (.iadd, 1) := by decide +kernel
theorem dX12_drawsDay_62 : decode cX12_drawsDay 62 = .ok (.iload_n 3, 1) := by decide +kernel
theorem dX12_drawsDay_63 : decode cX12_drawsDay 63 = .ok (.iadd, 1) := by decide +kernel
theorem dX12_drawsDay_64 : decode cX12_drawsDay 64 = .ok (.iload 4, 2) := by decide +kernel
theorem dX12_drawsDay_66 : decode cX12_drawsDay 66 = .ok (.aload_n 0, 1) := by decide +kernel
theorem dX12_drawsDay_67 : decode cX12_drawsDay 67 = .ok (.getfield 39, 3) := by decide +kernel
theorem dX12_drawsDay_70 : decode cX12_drawsDay 70 = .ok (.iconst 0, 1) := by decide +kernel
theorem dX12_drawsDay_71 : decode cX12_drawsDay 71 = .ok (.iaload, 1) := by decide +kernel
theorem dX12_drawsDay_72 : decode cX12_drawsDay 72 = .ok (.if_icmp .ne 8, 3) := by decide +kernel
theorem dX12_drawsDay_75 : decode cX12_drawsDay 75 = .ok (.bipush 99, 2) := by decide +kernel
theorem dX12_drawsDay_77 : decode cX12_drawsDay 77 = .ok (.goto 5, 3) := by decide +kernel
theorem dX12_drawsDay_80 : decode cX12_drawsDay 80 = .ok (.iload 4, 2) := by decide +kernel
theorem dX12_drawsDay_82 : decode cX12_drawsDay 82 = .ok (.iastore, 1) := by decide +kernel
theorem dX12_drawsDay_83 : decode cX12_drawsDay 83 = .ok (.iinc 3 1, 3) := by decide +kernel
theorem dX12_drawsDay_86 : decode cX12_drawsDay 86 = .ok (.goto (-72), 3) := by decide +kernel
theorem dX12_drawsDay_89 : decode cX12_drawsDay 89 = .ok (.iinc 2 1, 3) := by decide +kernel
theorem dX12_drawsDay_92 : decode cX12_drawsDay 92 = .ok (.goto (-90), 3) := by decide +kernel
theorem dX12_drawsDay_95 : decode cX12_drawsDay 95 = .ok (.return_, 1) := by decide +kernel
set_option maxRecDepth 20000 in
theorem ggX12_drawn_X12_isTown : GoodIn wsX12_drawn wsX12_isTown := goodIn_r _ [13, 8, 99, 100, 101, 102, 103, 104, 105, 106, 107, 108, 109, 110, 111, 112, 113, 114, 115, 116, 117, 118, 119, 120, 121, 122, 123, 124, 125, 126, 127, 128, 129, 130, 131, 132, 133, 134, 135, 136, 137, 138, 139, 140, 141, 142] (by decide +kernel) (by decide +kernel)
set_option maxRecDepth 20000 in
theorem gX12_drawn_X12_isTown : GoodIn wsX12_drawn (wsV RX12 360 RX12 yX12_isTown wsX12_isTown) := goodIn_app (goodIn_of _ (by decide +kernel)) ggX12_drawn_X12_isTown
set_option maxRecDepth 20000 in
theorem ggX12_drawn_X12_in : GoodIn wsX12_drawn wsX12_in := goodIn_r _ [16] (by decide +kernel) (by decide +kernel)
set_option maxRecDepth 20000 in
theorem gX12_drawn_X12_in : GoodIn wsX12_drawn (va_wsS RX12 127 yX12_in wsX12_in) := goodIn_app (goodIn_of _ (by decide +kernel)) ggX12_drawn_X12_in
set_option maxRecDepth 20000 in
theorem ggX12_drawn_X12_totalOf : GoodIn wsX12_drawn wsX12_totalOf := goodIn_r _ [20, 8, 21, 22, 23, 12, 24, 25, 26, 27, 28, 29, 30, 31, 32, 33, 34, 35, 36, 37, 38, 39, 40, 41, 42, 43, 44, 45, 46, 47, 48, 49, 50, 51, 52, 53, 54, 55, 56, 57, 58, 59, 60, 61, 62, 63, 64, 65, 66, 67, 68, 69, 70, 71, 72, 73, 74, 75, 76, 77, 78, 79, 80, 81, 82, 83, 84, 85, 86, 99, 100, 101, 102, 103, 104, 105, 106, 107, 108, 109, 110, 111, 112, 113, 114, 115, 116, 117, 118, 119, 120, 121, 122, 123, 124, 125, 126, 127, 128, 129, 130, 131, 132, 133, 134, 135, 136, 137, 138, 139, 140, 141, 142] (by decide +kernel) (by decide +kernel)
set_option maxRecDepth 20000 in
theorem gX12_drawn_X12_totalOf : GoodIn wsX12_drawn (wsV RX12 357 RX12 yX12_totalOf wsX12_totalOf) := goodIn_app (goodIn_of _ (by decide +kernel)) ggX12_drawn_X12_totalOf
set_option maxRecDepth 20000 in
theorem ggX12_drawn_X12_drawsDay : GoodIn wsX12_drawn wsX12_drawsDay := goodIn_r _ [90, 8, 91, 92, 93, 12, 94, 6, 95, 96, 97, 98, 99, 100, 101, 102, 103, 104, 105, 106, 107, 108, 109, 110, 111, 112, 113, 114, 115, 116, 117, 118, 119, 120, 121, 122, 123, 124, 125, 126, 127, 128, 129, 130, 131, 132, 133, 134, 135, 136, 137, 138, 139, 140, 141, 142] (by decide +kernel) (by decide +kernel)
set_option maxRecDepth 20000 in
theorem gX12_drawn_X12_drawsDay : GoodIn wsX12_drawn (wsV RX12 451 RX12 yX12_drawsDay wsX12_drawsDay) := goodIn_app (goodIn_of _ (by decide +kernel)) ggX12_drawn_X12_drawsDay
theorem dX12_drawn_0 : decode cX12_drawn 0 = .ok (.aload_n 0, 1) := by decide +kernel
theorem dX12_drawn_1 : decode cX12_drawn 1 = .ok (.invokevirtual 360, 3) := by decide +kernel
theorem dX12_drawn_4 : decode cX12_drawn 4 = .ok (.ifCond .eq 39, 3) := by decide +kernel
theorem dX12_drawn_7 : decode cX12_drawn 7 = .ok (.iload_n 1, 1) := by decide +kernel
theorem dX12_drawn_8 : decode cX12_drawn 8 = .ok (.i2l, 1) := by decide +kernel
theorem dX12_drawn_9 : decode cX12_drawn 9 = .ok (.lconst 1, 1) := by decide +kernel
theorem dX12_drawn_10 : decode cX12_drawn 10 = .ok (.ldc2_w 447, 3) := by decide +kernel
theorem dX12_drawn_13 : decode cX12_drawn 13 = .ok (.invokestatic 127, 3) := by decide +kernel
theorem dX12_drawn_16 : decode cX12_drawn 16 = .ok (.ifCond .eq 27, 3) := by decide +kernel
theorem dX12_drawn_19 : decode cX12_drawn 19 = .ok (.iload_n 2, 1) := by decide +kernel
theorem dX12_drawn_20 : decode cX12_drawn 20 = .ok (.i2l, 1) := by decide +kernel
theorem dX12_drawn_21 : decode cX12_drawn 21 = .ok (.lconst 0, 1) := by decide +kernel
theorem dX12_drawn_22 : decode cX12_drawn 22 = .ok (.ldc2_w 449, 3) := by decide +kernel
theorem dX12_drawn_25 : decode cX12_drawn 25 = .ok (.invokestatic 127, 3) := by decide +kernel
theorem dX12_drawn_28 : decode cX12_drawn 28 = .ok (.ifCond .eq 15, 3) := by decide +kernel
theorem dX12_drawn_31 : decode cX12_drawn 31 = .ok (.iload_n 3, 1) := by decide +kernel
theorem dX12_drawn_32 : decode cX12_drawn 32 = .ok (.i2l, 1) := by decide +kernel
theorem dX12_drawn_33 : decode cX12_drawn 33 = .ok (.lconst 0, 1) := by decide +kernel
theorem dX12_drawn_34 : decode cX12_drawn 34 = .ok (.ldc2_w 379, 3) := by decide +kernel
theorem dX12_drawn_37 : decode cX12_drawn 37 = .ok (.invokestatic 127, 3) := by decide +kernel
theorem dX12_drawn_40 : decode cX12_drawn 40 = .ok (.ifCond .ne 7, 3) := by decide +kernel
theorem dX12_drawn_43 : decode cX12_drawn 43 = .ok (.ldc_w 356, 3) := by decide +kernel
theorem dX12_drawn_46 : decode cX12_drawn 46 = .ok (.ireturn, 1) := by decide +kernel
theorem dX12_drawn_47 : decode cX12_drawn 47 = .ok (.aload_n 0, 1) := by decide +kernel
theorem dX12_drawn_48 : decode cX12_drawn 48 = .ok (.aload_n 0, 1) := by decide +kernel
theorem dX12_drawn_49 : decode cX12_drawn 49 = .ok (.getfield 429, 3) := by decide +kernel
theorem dX12_drawn_52 : decode cX12_drawn 52 = .ok (.i2l, 1) := by decide +kernel
theorem dX12_drawn_53 : decode cX12_drawn 53 = .ok (.putfield 432, 3) := by decide +kernel
theorem dX12_drawn_56 : decode cX12_drawn 56 = .ok (.aload_n 0, 1) := by decide +kernel
theorem dX12_drawn_57 : decode cX12_drawn 57 = .ok (.invokevirtual 357, 3) := by decide +kernel
theorem dX12_drawn_60 : decode cX12_drawn 60 = .ok (.istore 4, 2) := by decide +kernel
theorem dX12_drawn_62 : decode cX12_drawn 62 = .ok (.iconst 0, 1) := by decide +kernel
theorem dX12_drawn_63 : decode cX12_drawn 63 = .ok (.istore 5, 2) := by decide +kernel
theorem dX12_drawn_65 : decode cX12_drawn 65 = .ok (.iconst 0, 1) := by decide +kernel
theorem dX12_drawn_66 : decode cX12_drawn 66 = .ok (.istore 6, 2) := by decide +kernel
theorem dX12_drawn_68 : decode cX12_drawn 68 = .ok (.iconst 0, 1) := by decide +kernel
theorem dX12_drawn_69 : decode cX12_drawn 69 = .ok (.istore 7, 2) := by decide +kernel
theorem dX12_drawn_71 : decode cX12_drawn 71 = .ok (.iconst 0, 1) := by decide +kernel
theorem dX12_drawn_72 : decode cX12_drawn 72 = .ok (.istore 8, 2) := by decide +kernel
theorem dX12_drawn_74 : decode cX12_drawn 74 = .ok (.iload 8, 2) := by decide +kernel
theorem dX12_drawn_76 : decode cX12_drawn 76 = .ok (.sipush 130, 3) := by decide +kernel
theorem dX12_drawn_79 : decode cX12_drawn 79 = .ok (.if_icmp .ge 23, 3) := by decide +kernel
theorem dX12_drawn_82 : decode cX12_drawn 82 = .ok (.aload_n 0, 1) := by decide +kernel
theorem dX12_drawn_83 : decode cX12_drawn 83 = .ok (.getfield 67, 3) := by decide +kernel
theorem dX12_drawn_86 : decode cX12_drawn 86 = .ok (.iload 8, 2) := by decide +kernel
theorem dX12_drawn_88 : decode cX12_drawn 88 = .ok (.aload_n 0, 1) := by decide +kernel
theorem dX12_drawn_89 : decode cX12_drawn 89 = .ok (.getfield 39, 3) := by decide +kernel
theorem dX12_drawn_92 : decode cX12_drawn 92 = .ok (.iload 8, 2) := by decide +kernel
theorem dX12_drawn_94 : decode cX12_drawn 94 = .ok (.iaload, 1) := by decide +kernel
theorem dX12_drawn_95 : decode cX12_drawn 95 = .ok (.iastore, 1) := by decide +kernel
theorem dX12_drawn_96 : decode cX12_drawn 96 = .ok (.iinc 8 1, 3) := by decide +kernel
theorem dX12_drawn_99 : decode cX12_drawn 99 = .ok (.goto (-25), 3) := by decide +kernel
theorem dX12_drawn_102 : decode cX12_drawn 102 = .ok (.iconst 0, 1) := by decide +kernel
theorem dX12_drawn_103 : decode cX12_drawn 103 = .ok (.istore 8, 2) := by decide +kernel
theorem dX12_drawn_105 : decode cX12_drawn 105 = .ok (.iload 8, 2) := by decide +kernel
theorem dX12_drawn_107 : decode cX12_drawn 107 = .ok (.iload_n 1, 1) := by decide +kernel
theorem dX12_drawn_108 : decode cX12_drawn 108 = .ok (.if_icmp .ge 92, 3) := by decide +kernel
theorem dX12_drawn_111 : decode cX12_drawn 111 = .ok (.aload_n 0, 1) := by decide +kernel
theorem dX12_drawn_112 : decode cX12_drawn 112 = .ok (.iload_n 2, 1) := by decide +kernel
theorem dX12_drawn_113 : decode cX12_drawn 113 = .ok (.invokevirtual 451, 3) := by decide +kernel
theorem dX12_drawn_116 : decode cX12_drawn 116 = .ok (.aload_n 0, 1) := by decide +kernel
theorem dX12_drawn_117 : decode cX12_drawn 117 = .ok (.invokevirtual 357, 3) := by decide +kernel
theorem dX12_drawn_120 : decode cX12_drawn 120 = .ok (.istore 9, 2) := by decide +kernel
theorem dX12_drawn_122 : decode cX12_drawn 122 = .ok (.iload 5, 2) := by decide +kernel
theorem dX12_drawn_124 : decode cX12_drawn 124 = .ok (.iload 9, 2) := by decide +kernel
theorem dX12_drawn_126 : decode cX12_drawn 126 = .ok (.iadd, 1) := by decide +kernel
theorem dX12_drawn_127 : decode cX12_drawn 127 = .ok (.istore 5, 2) := by decide +kernel
theorem dX12_drawn_129 : decode cX12_drawn 129 = .ok (.iload 6, 2) := by decide +kernel
theorem dX12_drawn_131 : decode cX12_drawn 131 = .ok (.iload 9, 2) := by decide +kernel
theorem dX12_drawn_133 : decode cX12_drawn 133 = .ok (.iconst 2, 1) := by decide +kernel
theorem dX12_drawn_134 : decode cX12_drawn 134 = .ok (.irem, 1) := by decide +kernel
theorem dX12_drawn_135 : decode cX12_drawn 135 = .ok (.ifCond .eq 7, 3) := by decide +kernel
theorem dX12_drawn_138 : decode cX12_drawn 138 = .ok (.iconst 1, 1) := by decide +kernel
theorem dX12_drawn_139 : decode cX12_drawn 139 = .ok (.goto 4, 3) := by decide +kernel
theorem dX12_drawn_142 : decode cX12_drawn 142 = .ok (.iconst 0, 1) := by decide +kernel
theorem dX12_drawn_143 : decode cX12_drawn 143 = .ok (.iadd, 1) := by decide +kernel
theorem dX12_drawn_144 : decode cX12_drawn 144 = .ok (.istore 6, 2) := by decide +kernel
theorem dX12_drawn_146 : decode cX12_drawn 146 = .ok (.iload 7, 2) := by decide +kernel
theorem dX12_drawn_148 : decode cX12_drawn 148 = .ok (.iload 9, 2) := by decide +kernel
theorem dX12_drawn_150 : decode cX12_drawn 150 = .ok (.iload 4, 2) := by decide +kernel
theorem dX12_drawn_152 : decode cX12_drawn 152 = .ok (.if_icmp .ne 7, 3) := by decide +kernel
theorem dX12_drawn_155 : decode cX12_drawn 155 = .ok (.iconst 1, 1) := by decide +kernel
theorem dX12_drawn_156 : decode cX12_drawn 156 = .ok (.goto 4, 3) := by decide +kernel
theorem dX12_drawn_159 : decode cX12_drawn 159 = .ok (.iconst 0, 1) := by decide +kernel
theorem dX12_drawn_160 : decode cX12_drawn 160 = .ok (.iadd, 1) := by decide +kernel
theorem dX12_drawn_161 : decode cX12_drawn 161 = .ok (.istore 7, 2) := by decide +kernel
theorem dX12_drawn_163 : decode cX12_drawn 163 = .ok (.iconst 0, 1) := by decide +kernel
theorem dX12_drawn_164 : decode cX12_drawn 164 = .ok (.istore 10, 2) := by decide +kernel
theorem dX12_drawn_166 : decode cX12_drawn 166 = .ok (.iload 10, 2) := by decide +kernel
theorem dX12_drawn_168 : decode cX12_drawn 168 = .ok (.sipush 130, 3) := by decide +kernel
theorem dX12_drawn_171 : decode cX12_drawn 171 = .ok (.if_icmp .ge 23, 3) := by decide +kernel
theorem dX12_drawn_174 : decode cX12_drawn 174 = .ok (.aload_n 0, 1) := by decide +kernel
theorem dX12_drawn_175 : decode cX12_drawn 175 = .ok (.getfield 39, 3) := by decide +kernel
theorem dX12_drawn_178 : decode cX12_drawn 178 = .ok (.iload 10, 2) := by decide +kernel
theorem dX12_drawn_180 : decode cX12_drawn 180 = .ok (.aload_n 0, 1) := by decide +kernel
theorem dX12_drawn_181 : decode cX12_drawn 181 = .ok (.getfield 67, 3) := by decide +kernel
theorem dX12_drawn_184 : decode cX12_drawn 184 = .ok (.iload 10, 2) := by decide +kernel
theorem dX12_drawn_186 : decode cX12_drawn 186 = .ok (.iaload, 1) := by decide +kernel
theorem dX12_drawn_187 : decode cX12_drawn 187 = .ok (.iastore, 1) := by decide +kernel
theorem dX12_drawn_188 : decode cX12_drawn 188 = .ok (.iinc 10 1, 3) := by decide +kernel
theorem dX12_drawn_191 : decode cX12_drawn 191 = .ok (.goto (-25), 3) := by decide +kernel
theorem dX12_drawn_194 : decode cX12_drawn 194 = .ok (.iinc 8 1, 3) := by decide +kernel
theorem dX12_drawn_197 : decode cX12_drawn 197 = .ok (.goto (-92), 3) := by decide +kernel
theorem dX12_drawn_200 : decode cX12_drawn 200 = .ok (.iload_n 3, 1) := by decide +kernel
theorem dX12_drawn_201 : decode cX12_drawn 201 = .ok (.ifCond .ne 8, 3) := by decide +kernel
theorem dX12_drawn_204 : decode cX12_drawn 204 = .ok (.iload 5, 2) := by decide +kernel
theorem dX12_drawn_206 : decode cX12_drawn 206 = .ok (.goto 15, 3) := by decide +kernel
theorem dX12_drawn_209 : decode cX12_drawn 209 = .ok (.iload_n 3, 1) := by decide +kernel
theorem dX12_drawn_210 : decode cX12_drawn 210 = .ok (.iconst 1, 1) := by decide +kernel
theorem dX12_drawn_211 : decode cX12_drawn 211 = .ok (.if_icmp .ne 8, 3) := by decide +kernel
theorem dX12_drawn_214 : decode cX12_drawn 214 = .ok (.iload 6, 2) := by decide +kernel
theorem dX12_drawn_216 : decode cX12_drawn 216 = .ok (.goto 5, 3) := by decide +kernel
theorem dX12_drawn_219 : decode cX12_drawn 219 = .ok (.iload 7, 2) := by decide +kernel
theorem dX12_drawn_221 : decode cX12_drawn 221 = .ok (.ireturn, 1) := by decide +kernel
set_option maxRecDepth 20000 in
theorem ggX12_count_X12_gathersTwos : GoodIn wsX12_count wsX12_gathersTwos := goodIn_r _ [12, 4, 1, 13, 14, 15, 16, 17, 11, 18, 19, 20, 21, 22, 23, 24, 25, 26, 27, 28, 29, 30, 31, 32, 33, 34, 35, 36, 37, 38, 39, 40, 41, 42, 43, 44, 45, 46, 47, 48, 49, 50, 51, 52, 53, 54, 55, 56, 57, 58, 59, 60, 61, 62, 63, 64, 65, 66, 67, 68, 69, 70] (by decide +kernel) (by decide +kernel)
set_option maxRecDepth 20000 in
theorem gX12_count_X12_gathersTwos : GoodIn wsX12_count (wsV RX12 406 RX12 yX12_gathersTwos wsX12_gathersTwos) := goodIn_app (goodIn_of _ (by decide +kernel)) ggX12_count_X12_gathersTwos
theorem dX12_count_0 : decode cX12_count 0 = .ok (.iconst 0, 1) := by decide +kernel
theorem dX12_count_1 : decode cX12_count 1 = .ok (.istore_n 2, 1) := by decide +kernel
theorem dX12_count_2 : decode cX12_count 2 = .ok (.iload_n 1, 1) := by decide +kernel
theorem dX12_count_3 : decode cX12_count 3 = .ok (.tableswitch 170 0 12 #[65, 65, 65, 72, 77, 82, 89, 96, 105, 114, 155, 160, 165], 65) := by decide +kernel
theorem dX12_count_68 : decode cX12_count 68 = .ok (.aload_n 0, 1) := by decide +kernel
theorem dX12_count_69 : decode cX12_count 69 = .ok (.getfield 39, 3) := by decide +kernel
theorem dX12_count_72 : decode cX12_count 72 = .ok (.iload_n 1, 1) := by decide +kernel
theorem dX12_count_73 : decode cX12_count 73 = .ok (.iaload, 1) := by decide +kernel
theorem dX12_count_74 : decode cX12_count 74 = .ok (.ireturn, 1) := by decide +kernel
theorem dX12_count_75 : decode cX12_count 75 = .ok (.aload_n 0, 1) := by decide +kernel
theorem dX12_count_76 : decode cX12_count 76 = .ok (.getfield 267, 3) := by decide +kernel
theorem dX12_count_79 : decode cX12_count 79 = .ok (.ireturn, 1) := by decide +kernel
theorem dX12_count_80 : decode cX12_count 80 = .ok (.aload_n 0, 1) := by decide +kernel
theorem dX12_count_81 : decode cX12_count 81 = .ok (.getfield 42, 3) := by decide +kernel
theorem dX12_count_84 : decode cX12_count 84 = .ok (.ireturn, 1) := by decide +kernel
theorem dX12_count_85 : decode cX12_count 85 = .ok (.aload_n 0, 1) := by decide +kernel
theorem dX12_count_86 : decode cX12_count 86 = .ok (.getfield 39, 3) := by decide +kernel
theorem dX12_count_89 : decode cX12_count 89 = .ok (.iconst 3, 1) := by decide +kernel
theorem dX12_count_90 : decode cX12_count 90 = .ok (.iaload, 1) := by decide +kernel
theorem dX12_count_91 : decode cX12_count 91 = .ok (.ireturn, 1) := by decide +kernel
theorem dX12_count_92 : decode cX12_count 92 = .ok (.aload_n 0, 1) := by decide +kernel
theorem dX12_count_93 : decode cX12_count 93 = .ok (.getfield 39, 3) := by decide +kernel
theorem dX12_count_96 : decode cX12_count 96 = .ok (.iconst 4, 1) := by decide +kernel
theorem dX12_count_97 : decode cX12_count 97 = .ok (.iaload, 1) := by decide +kernel
theorem dX12_count_98 : decode cX12_count 98 = .ok (.ireturn, 1) := by decide +kernel
theorem dX12_count_99 : decode cX12_count 99 = .ok (.aload_n 0, 1) := by decide +kernel
theorem dX12_count_100 : decode cX12_count 100 = .ok (.invokevirtual 406, 3) := by decide +kernel
theorem dX12_count_103 : decode cX12_count 103 = .ok (.aload_n 0, 1) := by decide +kernel
theorem dX12_count_104 : decode cX12_count 104 = .ok (.getfield 403, 3) := by decide +kernel
theorem dX12_count_107 : decode cX12_count 107 = .ok (.ireturn, 1) := by decide +kernel
theorem dX12_count_108 : decode cX12_count 108 = .ok (.aload_n 0, 1) := by decide +kernel
theorem dX12_count_109 : decode cX12_count 109 = .ok (.getfield 39, 3) := by decide +kernel
theorem dX12_count_112 : decode cX12_count 112 = .ok (.sipush 210, 3) := by decide +kernel
theorem dX12_count_115 : decode cX12_count 115 = .ok (.iaload, 1) := by decide +kernel
theorem dX12_count_116 : decode cX12_count 116 = .ok (.ireturn, 1) := by decide +kernel
theorem dX12_count_117 : decode cX12_count 117 = .ok (.iconst 0, 1) := by decide +kernel
theorem dX12_count_118 : decode cX12_count 118 = .ok (.istore_n 3, 1) := by decide +kernel
theorem dX12_count_119 : decode cX12_count 119 = .ok (.iload_n 3, 1) := by decide +kernel
theorem dX12_count_120 : decode cX12_count 120 = .ok (.aload_n 0, 1) := by decide +kernel
theorem dX12_count_121 : decode cX12_count 121 = .ok (.getfield 39, 3) := by decide +kernel
theorem dX12_count_124 : decode cX12_count 124 = .ok (.iconst 2, 1) := by decide +kernel
theorem dX12_count_125 : decode cX12_count 125 = .ok (.iaload, 1) := by decide +kernel
theorem dX12_count_126 : decode cX12_count 126 = .ok (.if_icmp .ge 30, 3) := by decide +kernel
theorem dX12_count_129 : decode cX12_count 129 = .ok (.iload_n 2, 1) := by decide +kernel
theorem dX12_count_130 : decode cX12_count 130 = .ok (.aload_n 0, 1) := by decide +kernel
theorem dX12_count_131 : decode cX12_count 131 = .ok (.getfield 39, 3) := by decide +kernel
theorem dX12_count_134 : decode cX12_count 134 = .ok (.sipush 200, 3) := by decide +kernel
theorem dX12_count_137 : decode cX12_count 137 = .ok (.iload_n 3, 1) := by decide +kernel
theorem dX12_count_138 : decode cX12_count 138 = .ok (.iadd, 1) := by decide +kernel
theorem dX12_count_139 : decode cX12_count 139 = .ok (.iaload, 1) := by decide +kernel
theorem dX12_count_140 : decode cX12_count 140 = .ok (.ifCond .ge 7, 3) := by decide +kernel
theorem dX12_count_143 : decode cX12_count 143 = .ok (.iconst 0, 1) := by decide +kernel
theorem dX12_count_144 : decode cX12_count 144 = .ok (.goto 4, 3) := by decide +kernel
theorem dX12_count_147 : decode cX12_count 147 = .ok (.iconst 1, 1) := by decide +kernel
theorem dX12_count_148 : decode cX12_count 148 = .ok (.iadd, 1) := by decide +kernel
theorem dX12_count_149 : decode cX12_count 149 = .ok (.istore_n 2, 1) := by decide +kernel
theorem dX12_count_150 : decode cX12_count 150 = .ok (.iinc 3 1, 3) := by decide +kernel
theorem dX12_count_153 : decode cX12_count 153 = .ok (.goto (-34), 3) := by decide +kernel
theorem dX12_count_156 : decode cX12_count 156 = .ok (.iload_n 2, 1) := by decide +kernel
theorem dX12_count_157 : decode cX12_count 157 = .ok (.ireturn, 1) := by decide +kernel
theorem dX12_count_158 : decode cX12_count 158 = .ok (.aload_n 0, 1) := by decide +kernel
theorem dX12_count_159 : decode cX12_count 159 = .ok (.getfield 273, 3) := by decide +kernel
theorem dX12_count_162 : decode cX12_count 162 = .ok (.ireturn, 1) := by decide +kernel
theorem dX12_count_163 : decode cX12_count 163 = .ok (.aload_n 0, 1) := by decide +kernel
theorem dX12_count_164 : decode cX12_count 164 = .ok (.getfield 429, 3) := by decide +kernel
theorem dX12_count_167 : decode cX12_count 167 = .ok (.ireturn, 1) := by decide +kernel
theorem dX12_count_168 : decode cX12_count 168 = .ok (.aload_n 0, 1) := by decide +kernel
theorem dX12_count_169 : decode cX12_count 169 = .ok (.getfield 89, 3) := by decide +kernel
theorem dX12_count_172 : decode cX12_count 172 = .ok (.ireturn, 1) := by decide +kernel
theorem dX12_count_173 : decode cX12_count 173 = .ok (.iconst (-1), 1) := by decide +kernel
theorem dX12_count_174 : decode cX12_count 174 = .ok (.ireturn, 1) := by decide +kernel
set_option maxRecDepth 20000 in
theorem ggX12_image_X12_in : GoodIn wsX12_image wsX12_in := goodIn_r _ [16] (by decide +kernel) (by decide +kernel)
set_option maxRecDepth 20000 in
theorem gX12_image_X12_in : GoodIn wsX12_image (va_wsS RX12 127 yX12_in wsX12_in) := goodIn_app (goodIn_of _ (by decide +kernel)) ggX12_image_X12_in
theorem dX12_image_0 : decode cX12_image 0 = .ok (.iload_n 1, 1) := by decide +kernel
theorem dX12_image_1 : decode cX12_image 1 = .ok (.i2l, 1) := by decide +kernel
theorem dX12_image_2 : decode cX12_image 2 = .ok (.lconst 0, 1) := by decide +kernel
theorem dX12_image_3 : decode cX12_image 3 = .ok (.ldc2_w 454, 3) := by decide +kernel
theorem dX12_image_6 : decode cX12_image 6 = .ok (.invokestatic 127, 3) := by decide +kernel
theorem dX12_image_9 : decode cX12_image 9 = .ok (.ifCond .ne 5, 3) := by decide +kernel
theorem dX12_image_12 : decode cX12_image 12 = .ok (.iconst (-1), 1) := by decide +kernel
theorem dX12_image_13 : decode cX12_image 13 = .ok (.ireturn, 1) := by decide +kernel
theorem dX12_image_14 : decode cX12_image 14 = .ok (.aload_n 0, 1) := by decide +kernel
theorem dX12_image_15 : decode cX12_image 15 = .ok (.getfield 85, 3) := by decide +kernel
theorem dX12_image_18 : decode cX12_image 18 = .ok (.iload_n 1, 1) := by decide +kernel
theorem dX12_image_19 : decode cX12_image 19 = .ok (.iconst 1, 1) := by decide +kernel
theorem dX12_image_20 : decode cX12_image 20 = .ok (.bastore, 1) := by decide +kernel
theorem dX12_image_21 : decode cX12_image 21 = .ok (.aload_n 0, 1) := by decide +kernel
theorem dX12_image_22 : decode cX12_image 22 = .ok (.getfield 76, 3) := by decide +kernel
theorem dX12_image_25 : decode cX12_image 25 = .ok (.iload_n 1, 1) := by decide +kernel
theorem dX12_image_26 : decode cX12_image 26 = .ok (.aload_n 0, 1) := by decide +kernel
theorem dX12_image_27 : decode cX12_image 27 = .ok (.getfield 273, 3) := by decide +kernel
theorem dX12_image_30 : decode cX12_image 30 = .ok (.iastore, 1) := by decide +kernel
theorem dX12_image_31 : decode cX12_image 31 = .ok (.aload_n 0, 1) := by decide +kernel
theorem dX12_image_32 : decode cX12_image 32 = .ok (.getfield 79, 3) := by decide +kernel
theorem dX12_image_35 : decode cX12_image 35 = .ok (.iload_n 1, 1) := by decide +kernel
theorem dX12_image_36 : decode cX12_image 36 = .ok (.aload_n 0, 1) := by decide +kernel
theorem dX12_image_37 : decode cX12_image 37 = .ok (.getfield 42, 3) := by decide +kernel
theorem dX12_image_40 : decode cX12_image 40 = .ok (.iastore, 1) := by decide +kernel
theorem dX12_image_41 : decode cX12_image 41 = .ok (.aload_n 0, 1) := by decide +kernel
theorem dX12_image_42 : decode cX12_image 42 = .ok (.getfield 82, 3) := by decide +kernel
theorem dX12_image_45 : decode cX12_image 45 = .ok (.iload_n 1, 1) := by decide +kernel
theorem dX12_image_46 : decode cX12_image 46 = .ok (.aload_n 0, 1) := by decide +kernel
theorem dX12_image_47 : decode cX12_image 47 = .ok (.getfield 429, 3) := by decide +kernel
theorem dX12_image_50 : decode cX12_image 50 = .ok (.iastore, 1) := by decide +kernel
theorem dX12_image_51 : decode cX12_image 51 = .ok (.iconst 0, 1) := by decide +kernel
theorem dX12_image_52 : decode cX12_image 52 = .ok (.istore_n 2, 1) := by decide +kernel
theorem dX12_image_53 : decode cX12_image 53 = .ok (.iload_n 2, 1) := by decide +kernel
theorem dX12_image_54 : decode cX12_image 54 = .ok (.sipush 211, 3) := by decide +kernel
theorem dX12_image_57 : decode cX12_image 57 = .ok (.if_icmp .ge 27, 3) := by decide +kernel
theorem dX12_image_60 : decode cX12_image 60 = .ok (.aload_n 0, 1) := by decide +kernel
theorem dX12_image_61 : decode cX12_image 61 = .ok (.getfield 70, 3) := by decide +kernel
theorem dX12_image_64 : decode cX12_image 64 = .ok (.sipush 211, 3) := by decide +kernel
theorem dX12_image_67 : decode cX12_image 67 = .ok (.iload_n 1, 1) := by decide +kernel
theorem dX12_image_68 : decode cX12_image 68 = .ok (.imul, 1) := by decide +kernel
theorem dX12_image_69 : decode cX12_image 69 = .ok (.iload_n 2, 1) := by decide +kernel
theorem dX12_image_70 : decode cX12_image 70 = .ok (.iadd, 1) := by decide +kernel
theorem dX12_image_71 : decode cX12_image 71 = .ok (.aload_n 0, 1) := by decide +kernel
theorem dX12_image_72 : decode cX12_image 72 = .ok (.getfield 39, 3) := by decide +kernel
theorem dX12_image_75 : decode cX12_image 75 = .ok (.iload_n 2, 1) := by decide +kernel
theorem dX12_image_76 : decode cX12_image 76 = .ok (.iaload, 1) := by decide +kernel
theorem dX12_image_77 : decode cX12_image 77 = .ok (.iastore, 1) := by decide +kernel
theorem dX12_image_78 : decode cX12_image 78 = .ok (.iinc 2 1, 3) := by decide +kernel
theorem dX12_image_81 : decode cX12_image 81 = .ok (.goto (-28), 3) := by decide +kernel
theorem dX12_image_84 : decode cX12_image 84 = .ok (.iconst 0, 1) := by decide +kernel
theorem dX12_image_85 : decode cX12_image 85 = .ok (.istore_n 2, 1) := by decide +kernel
theorem dX12_image_86 : decode cX12_image 86 = .ok (.iload_n 2, 1) := by decide +kernel
theorem dX12_image_87 : decode cX12_image 87 = .ok (.sipush 170, 3) := by decide +kernel
theorem dX12_image_90 : decode cX12_image 90 = .ok (.aload_n 0, 1) := by decide +kernel
theorem dX12_image_91 : decode cX12_image 91 = .ok (.getfield 273, 3) := by decide +kernel
theorem dX12_image_94 : decode cX12_image 94 = .ok (.imul, 1) := by decide +kernel
theorem dX12_image_95 : decode cX12_image 95 = .ok (.if_icmp .ge 27, 3) := by decide +kernel
theorem dX12_image_98 : decode cX12_image 98 = .ok (.aload_n 0, 1) := by decide +kernel
theorem dX12_image_99 : decode cX12_image 99 = .ok (.getfield 73, 3) := by decide +kernel
theorem dX12_image_102 : decode cX12_image 102 = .ok (.sipush 3400, 3) := by decide +kernel
theorem dX12_image_105 : decode cX12_image 105 = .ok (.iload_n 1, 1) := by decide +kernel
theorem dX12_image_106 : decode cX12_image 106 = .ok (.imul, 1) := by decide +kernel
theorem dX12_image_107 : decode cX12_image 107 = .ok (.iload_n 2, 1) := by decide +kernel
theorem dX12_image_108 : decode cX12_image 108 = .ok (.iadd, 1) := by decide +kernel
theorem dX12_image_109 : decode cX12_image 109 = .ok (.aload_n 0, 1) := by decide +kernel
theorem dX12_image_110 : decode cX12_image 110 = .ok (.getfield 46, 3) := by decide +kernel
theorem dX12_image_113 : decode cX12_image 113 = .ok (.iload_n 2, 1) := by decide +kernel
theorem dX12_image_114 : decode cX12_image 114 = .ok (.iaload, 1) := by decide +kernel
theorem dX12_image_115 : decode cX12_image 115 = .ok (.iastore, 1) := by decide +kernel
theorem dX12_image_116 : decode cX12_image 116 = .ok (.iinc 2 1, 3) := by decide +kernel
theorem dX12_image_119 : decode cX12_image 119 = .ok (.goto (-33), 3) := by decide +kernel
theorem dX12_image_122 : decode cX12_image 122 = .ok (.aload_n 0, 1) := by decide +kernel
theorem dX12_image_123 : decode cX12_image 123 = .ok (.getfield 39, 3) := by decide +kernel
theorem dX12_image_126 : decode cX12_image 126 = .ok (.iconst 3, 1) := by decide +kernel
theorem dX12_image_127 : decode cX12_image 127 = .ok (.iaload, 1) := by decide +kernel
theorem dX12_image_128 : decode cX12_image 128 = .ok (.ireturn, 1) := by decide +kernel
set_option maxRecDepth 20000 in
theorem ggX12_back_X12_in : GoodIn wsX12_back wsX12_in := goodIn_r _ [16] (by decide +kernel) (by decide +kernel)
set_option maxRecDepth 20000 in
theorem gX12_back_X12_in : GoodIn wsX12_back (va_wsS RX12 127 yX12_in wsX12_in) := goodIn_app (goodIn_of _ (by decide +kernel)) ggX12_back_X12_in
theorem dX12_back_0 : decode cX12_back 0 = .ok (.iload_n 1, 1) := by decide +kernel
theorem dX12_back_1 : decode cX12_back 1 = .ok (.i2l, 1) := by decide +kernel
theorem dX12_back_2 : decode cX12_back 2 = .ok (.lconst 0, 1) := by decide +kernel
theorem dX12_back_3 : decode cX12_back 3 = .ok (.ldc2_w 454, 3) := by decide +kernel
theorem dX12_back_6 : decode cX12_back 6 = .ok (.invokestatic 127, 3) := by decide +kernel
theorem dX12_back_9 : decode cX12_back 9 = .ok (.ifCond .eq 12, 3) := by decide +kernel
theorem dX12_back_12 : decode cX12_back 12 = .ok (.aload_n 0, 1) := by decide +kernel
theorem dX12_back_13 : decode cX12_back 13 = .ok (.getfield 85, 3) := by decide +kernel
theorem dX12_back_16 : decode cX12_back 16 = .ok (.iload_n 1, 1) := by decide +kernel
theorem dX12_back_17 : decode cX12_back 17 = .ok (.baload, 1) := by decide +kernel
theorem dX12_back_18 : decode cX12_back 18 = .ok (.ifCond .ne 5, 3) := by decide +kernel
theorem dX12_back_21 : decode cX12_back 21 = .ok (.iconst (-1), 1) := by decide +kernel
theorem dX12_back_22 : decode cX12_back 22 = .ok (.ireturn, 1) := by decide +kernel
theorem dX12_back_23 : decode cX12_back 23 = .ok (.aload_n 0, 1) := by decide +kernel
theorem dX12_back_24 : decode cX12_back 24 = .ok (.aload_n 0, 1) := by decide +kernel
theorem dX12_back_25 : decode cX12_back 25 = .ok (.getfield 76, 3) := by decide +kernel
theorem dX12_back_28 : decode cX12_back 28 = .ok (.iload_n 1, 1) := by decide +kernel
theorem dX12_back_29 : decode cX12_back 29 = .ok (.iaload, 1) := by decide +kernel
theorem dX12_back_30 : decode cX12_back 30 = .ok (.putfield 273, 3) := by decide +kernel
theorem dX12_back_33 : decode cX12_back 33 = .ok (.aload_n 0, 1) := by decide +kernel
theorem dX12_back_34 : decode cX12_back 34 = .ok (.aload_n 0, 1) := by decide +kernel
theorem dX12_back_35 : decode cX12_back 35 = .ok (.getfield 79, 3) := by decide +kernel
theorem dX12_back_38 : decode cX12_back 38 = .ok (.iload_n 1, 1) := by decide +kernel
theorem dX12_back_39 : decode cX12_back 39 = .ok (.iaload, 1) := by decide +kernel
theorem dX12_back_40 : decode cX12_back 40 = .ok (.putfield 42, 3) := by decide +kernel
theorem dX12_back_43 : decode cX12_back 43 = .ok (.aload_n 0, 1) := by decide +kernel
theorem dX12_back_44 : decode cX12_back 44 = .ok (.aload_n 0, 1) := by decide +kernel
theorem dX12_back_45 : decode cX12_back 45 = .ok (.getfield 82, 3) := by decide +kernel
theorem dX12_back_48 : decode cX12_back 48 = .ok (.iload_n 1, 1) := by decide +kernel
theorem dX12_back_49 : decode cX12_back 49 = .ok (.iaload, 1) := by decide +kernel
theorem dX12_back_50 : decode cX12_back 50 = .ok (.putfield 429, 3) := by decide +kernel
theorem dX12_back_53 : decode cX12_back 53 = .ok (.iconst 0, 1) := by decide +kernel
theorem dX12_back_54 : decode cX12_back 54 = .ok (.istore_n 2, 1) := by decide +kernel
theorem dX12_back_55 : decode cX12_back 55 = .ok (.iload_n 2, 1) := by decide +kernel
theorem dX12_back_56 : decode cX12_back 56 = .ok (.sipush 211, 3) := by decide +kernel
theorem dX12_back_59 : decode cX12_back 59 = .ok (.if_icmp .ge 27, 3) := by decide +kernel
theorem dX12_back_62 : decode cX12_back 62 = .ok (.aload_n 0, 1) := by decide +kernel
theorem dX12_back_63 : decode cX12_back 63 = .ok (.getfield 39, 3) := by decide +kernel
theorem dX12_back_66 : decode cX12_back 66 = .ok (.iload_n 2, 1) := by decide +kernel
theorem dX12_back_67 : decode cX12_back 67 = .ok (.aload_n 0, 1) := by decide +kernel
theorem dX12_back_68 : decode cX12_back 68 = .ok (.getfield 70, 3) := by decide +kernel
theorem dX12_back_71 : decode cX12_back 71 = .ok (.sipush 211, 3) := by decide +kernel
theorem dX12_back_74 : decode cX12_back 74 = .ok (.iload_n 1, 1) := by decide +kernel
theorem dX12_back_75 : decode cX12_back 75 = .ok (.imul, 1) := by decide +kernel
theorem dX12_back_76 : decode cX12_back 76 = .ok (.iload_n 2, 1) := by decide +kernel
theorem dX12_back_77 : decode cX12_back 77 = .ok (.iadd, 1) := by decide +kernel
theorem dX12_back_78 : decode cX12_back 78 = .ok (.iaload, 1) := by decide +kernel
theorem dX12_back_79 : decode cX12_back 79 = .ok (.iastore, 1) := by decide +kernel
theorem dX12_back_80 : decode cX12_back 80 = .ok (.iinc 2 1, 3) := by decide +kernel
theorem dX12_back_83 : decode cX12_back 83 = .ok (.goto (-28), 3) := by decide +kernel
theorem dX12_back_86 : decode cX12_back 86 = .ok (.iconst 0, 1) := by decide +kernel
theorem dX12_back_87 : decode cX12_back 87 = .ok (.istore_n 2, 1) := by decide +kernel
theorem dX12_back_88 : decode cX12_back 88 = .ok (.iload_n 2, 1) := by decide +kernel
theorem dX12_back_89 : decode cX12_back 89 = .ok (.sipush 170, 3) := by decide +kernel
theorem dX12_back_92 : decode cX12_back 92 = .ok (.aload_n 0, 1) := by decide +kernel
theorem dX12_back_93 : decode cX12_back 93 = .ok (.getfield 273, 3) := by decide +kernel
theorem dX12_back_96 : decode cX12_back 96 = .ok (.imul, 1) := by decide +kernel
theorem dX12_back_97 : decode cX12_back 97 = .ok (.if_icmp .ge 27, 3) := by decide +kernel
theorem dX12_back_100 : decode cX12_back 100 = .ok (.aload_n 0, 1) := by decide +kernel
theorem dX12_back_101 : decode cX12_back 101 = .ok (.getfield 46, 3) := by decide +kernel
theorem dX12_back_104 : decode cX12_back 104 = .ok (.iload_n 2, 1) := by decide +kernel
theorem dX12_back_105 : decode cX12_back 105 = .ok (.aload_n 0, 1) := by decide +kernel
theorem dX12_back_106 : decode cX12_back 106 = .ok (.getfield 73, 3) := by decide +kernel
theorem dX12_back_109 : decode cX12_back 109 = .ok (.sipush 3400, 3) := by decide +kernel
theorem dX12_back_112 : decode cX12_back 112 = .ok (.iload_n 1, 1) := by decide +kernel
theorem dX12_back_113 : decode cX12_back 113 = .ok (.imul, 1) := by decide +kernel
theorem dX12_back_114 : decode cX12_back 114 = .ok (.iload_n 2, 1) := by decide +kernel
theorem dX12_back_115 : decode cX12_back 115 = .ok (.iadd, 1) := by decide +kernel
theorem dX12_back_116 : decode cX12_back 116 = .ok (.iaload, 1) := by decide +kernel
theorem dX12_back_117 : decode cX12_back 117 = .ok (.iastore, 1) := by decide +kernel
theorem dX12_back_118 : decode cX12_back 118 = .ok (.iinc 2 1, 3) := by decide +kernel
theorem dX12_back_121 : decode cX12_back 121 = .ok (.goto (-33), 3) := by decide +kernel
theorem dX12_back_124 : decode cX12_back 124 = .ok (.aload_n 0, 1) := by decide +kernel
theorem dX12_back_125 : decode cX12_back 125 = .ok (.getfield 39, 3) := by decide +kernel
theorem dX12_back_128 : decode cX12_back 128 = .ok (.iconst 3, 1) := by decide +kernel
theorem dX12_back_129 : decode cX12_back 129 = .ok (.iaload, 1) := by decide +kernel
theorem dX12_back_130 : decode cX12_back 130 = .ok (.ireturn, 1) := by decide +kernel
theorem dJ6_bitCount_0f7a4_0 : decode cJ6_bitCount_0f7a4 0 = .ok (.iload_n 0, 1) := by decide +kernel
theorem dJ6_bitCount_0f7a4_1 : decode cJ6_bitCount_0f7a4 1 = .ok (.iload_n 0, 1) := by decide +kernel
theorem dJ6_bitCount_0f7a4_2 : decode cJ6_bitCount_0f7a4 2 = .ok (.iconst 1, 1) := by decide +kernel
theorem dJ6_bitCount_0f7a4_3 : decode cJ6_bitCount_0f7a4 3 = .ok (.iushr, 1) := by decide +kernel
theorem dJ6_bitCount_0f7a4_4 : decode cJ6_bitCount_0f7a4 4 = .ok (.ldc_w 265, 3) := by decide +kernel
theorem dJ6_bitCount_0f7a4_7 : decode cJ6_bitCount_0f7a4 7 = .ok (.iand, 1) := by decide +kernel
theorem dJ6_bitCount_0f7a4_8 : decode cJ6_bitCount_0f7a4 8 = .ok (.isub, 1) := by decide +kernel
theorem dJ6_bitCount_0f7a4_9 : decode cJ6_bitCount_0f7a4 9 = .ok (.istore_n 0, 1) := by decide +kernel
theorem dJ6_bitCount_0f7a4_10 : decode cJ6_bitCount_0f7a4 10 = .ok (.iload_n 0, 1) := by decide +kernel
theorem dJ6_bitCount_0f7a4_11 : decode cJ6_bitCount_0f7a4 11 = .ok (.ldc_w 266, 3) := by decide +kernel
theorem dJ6_bitCount_0f7a4_14 : decode cJ6_bitCount_0f7a4 14 = .ok (.iand, 1) := by decide +kernel
theorem dJ6_bitCount_0f7a4_15 : decode cJ6_bitCount_0f7a4 15 = .ok (.iload_n 0, 1) := by decide +kernel
theorem dJ6_bitCount_0f7a4_16 : decode cJ6_bitCount_0f7a4 16 = .ok (.iconst 2, 1) := by decide +kernel
theorem dJ6_bitCount_0f7a4_17 : decode cJ6_bitCount_0f7a4 17 = .ok (.iushr, 1) := by decide +kernel
theorem dJ6_bitCount_0f7a4_18 : decode cJ6_bitCount_0f7a4 18 = .ok (.ldc_w 266, 3) := by decide +kernel
theorem dJ6_bitCount_0f7a4_21 : decode cJ6_bitCount_0f7a4 21 = .ok (.iand, 1) := by decide +kernel
theorem dJ6_bitCount_0f7a4_22 : decode cJ6_bitCount_0f7a4 22 = .ok (.iadd, 1) := by decide +kernel
theorem dJ6_bitCount_0f7a4_23 : decode cJ6_bitCount_0f7a4 23 = .ok (.istore_n 0, 1) := by decide +kernel
theorem dJ6_bitCount_0f7a4_24 : decode cJ6_bitCount_0f7a4 24 = .ok (.iload_n 0, 1) := by decide +kernel
theorem dJ6_bitCount_0f7a4_25 : decode cJ6_bitCount_0f7a4 25 = .ok (.iload_n 0, 1) := by decide +kernel
theorem dJ6_bitCount_0f7a4_26 : decode cJ6_bitCount_0f7a4 26 = .ok (.iconst 4, 1) := by decide +kernel
theorem dJ6_bitCount_0f7a4_27 : decode cJ6_bitCount_0f7a4 27 = .ok (.iushr, 1) := by decide +kernel
theorem dJ6_bitCount_0f7a4_28 : decode cJ6_bitCount_0f7a4 28 = .ok (.iadd, 1) := by decide +kernel
theorem dJ6_bitCount_0f7a4_29 : decode cJ6_bitCount_0f7a4 29 = .ok (.ldc_w 267, 3) := by decide +kernel
theorem dJ6_bitCount_0f7a4_32 : decode cJ6_bitCount_0f7a4 32 = .ok (.iand, 1) := by decide +kernel
theorem dJ6_bitCount_0f7a4_33 : decode cJ6_bitCount_0f7a4 33 = .ok (.istore_n 0, 1) := by decide +kernel
theorem dJ6_bitCount_0f7a4_34 : decode cJ6_bitCount_0f7a4 34 = .ok (.iload_n 0, 1) := by decide +kernel
theorem dJ6_bitCount_0f7a4_35 : decode cJ6_bitCount_0f7a4 35 = .ok (.iload_n 0, 1) := by decide +kernel
theorem dJ6_bitCount_0f7a4_36 : decode cJ6_bitCount_0f7a4 36 = .ok (.bipush 8, 2) := by decide +kernel
theorem dJ6_bitCount_0f7a4_38 : decode cJ6_bitCount_0f7a4 38 = .ok (.iushr, 1) := by decide +kernel
theorem dJ6_bitCount_0f7a4_39 : decode cJ6_bitCount_0f7a4 39 = .ok (.iadd, 1) := by decide +kernel
theorem dJ6_bitCount_0f7a4_40 : decode cJ6_bitCount_0f7a4 40 = .ok (.istore_n 0, 1) := by decide +kernel
theorem dJ6_bitCount_0f7a4_41 : decode cJ6_bitCount_0f7a4 41 = .ok (.iload_n 0, 1) := by decide +kernel
theorem dJ6_bitCount_0f7a4_42 : decode cJ6_bitCount_0f7a4 42 = .ok (.iload_n 0, 1) := by decide +kernel
theorem dJ6_bitCount_0f7a4_43 : decode cJ6_bitCount_0f7a4 43 = .ok (.bipush 16, 2) := by decide +kernel
theorem dJ6_bitCount_0f7a4_45 : decode cJ6_bitCount_0f7a4 45 = .ok (.iushr, 1) := by decide +kernel
theorem dJ6_bitCount_0f7a4_46 : decode cJ6_bitCount_0f7a4 46 = .ok (.iadd, 1) := by decide +kernel
theorem dJ6_bitCount_0f7a4_47 : decode cJ6_bitCount_0f7a4 47 = .ok (.istore_n 0, 1) := by decide +kernel
theorem dJ6_bitCount_0f7a4_48 : decode cJ6_bitCount_0f7a4 48 = .ok (.iload_n 0, 1) := by decide +kernel
theorem dJ6_bitCount_0f7a4_49 : decode cJ6_bitCount_0f7a4 49 = .ok (.bipush 63, 2) := by decide +kernel
theorem dJ6_bitCount_0f7a4_51 : decode cJ6_bitCount_0f7a4 51 = .ok (.iand, 1) := by decide +kernel
theorem dJ6_bitCount_0f7a4_52 : decode cJ6_bitCount_0f7a4 52 = .ok (.ireturn, 1) := by decide +kernel
theorem dJ9_abs_0f7a4_0 : decode cJ9_abs_0f7a4 0 = .ok (.iload_n 0, 1) := by decide +kernel
theorem dJ9_abs_0f7a4_1 : decode cJ9_abs_0f7a4 1 = .ok (.ifCond .ge 8, 3) := by decide +kernel
theorem dJ9_abs_0f7a4_4 : decode cJ9_abs_0f7a4 4 = .ok (.iload_n 0, 1) := by decide +kernel
theorem dJ9_abs_0f7a4_5 : decode cJ9_abs_0f7a4 5 = .ok (.ineg, 1) := by decide +kernel
theorem dJ9_abs_0f7a4_6 : decode cJ9_abs_0f7a4 6 = .ok (.goto 4, 3) := by decide +kernel
theorem dJ9_abs_0f7a4_9 : decode cJ9_abs_0f7a4 9 = .ok (.iload_n 0, 1) := by decide +kernel
theorem dJ9_abs_0f7a4_10 : decode cJ9_abs_0f7a4 10 = .ok (.ireturn, 1) := by decide +kernel
theorem dJ9_max_7cf53_0 : decode cJ9_max_7cf53 0 = .ok (.iload_n 0, 1) := by decide +kernel
theorem dJ9_max_7cf53_1 : decode cJ9_max_7cf53 1 = .ok (.iload_n 1, 1) := by decide +kernel
theorem dJ9_max_7cf53_2 : decode cJ9_max_7cf53 2 = .ok (.if_icmp .lt 7, 3) := by decide +kernel
theorem dJ9_max_7cf53_5 : decode cJ9_max_7cf53 5 = .ok (.iload_n 0, 1) := by decide +kernel
theorem dJ9_max_7cf53_6 : decode cJ9_max_7cf53 6 = .ok (.goto 4, 3) := by decide +kernel
theorem dJ9_max_7cf53_9 : decode cJ9_max_7cf53 9 = .ok (.iload_n 1, 1) := by decide +kernel
theorem dJ9_max_7cf53_10 : decode cJ9_max_7cf53 10 = .ok (.ireturn, 1) := by decide +kernel
theorem dJ9_max_f86c9_0 : decode cJ9_max_f86c9 0 = .ok (.lload_n 0, 1) := by decide +kernel
theorem dJ9_max_f86c9_1 : decode cJ9_max_f86c9 1 = .ok (.lload_n 2, 1) := by decide +kernel
theorem dJ9_max_f86c9_2 : decode cJ9_max_f86c9 2 = .ok (.lcmp, 1) := by decide +kernel
theorem dJ9_max_f86c9_3 : decode cJ9_max_f86c9 3 = .ok (.ifCond .lt 7, 3) := by decide +kernel
theorem dJ9_max_f86c9_6 : decode cJ9_max_f86c9 6 = .ok (.lload_n 0, 1) := by decide +kernel
theorem dJ9_max_f86c9_7 : decode cJ9_max_f86c9 7 = .ok (.goto 4, 3) := by decide +kernel
theorem dJ9_max_f86c9_10 : decode cJ9_max_f86c9 10 = .ok (.lload_n 2, 1) := by decide +kernel
theorem dJ9_max_f86c9_11 : decode cJ9_max_f86c9 11 = .ok (.lreturn, 1) := by decide +kernel
theorem dJ9_min_7cf53_0 : decode cJ9_min_7cf53 0 = .ok (.iload_n 0, 1) := by decide +kernel
theorem dJ9_min_7cf53_1 : decode cJ9_min_7cf53 1 = .ok (.iload_n 1, 1) := by decide +kernel
theorem dJ9_min_7cf53_2 : decode cJ9_min_7cf53 2 = .ok (.if_icmp .gt 7, 3) := by decide +kernel
theorem dJ9_min_7cf53_5 : decode cJ9_min_7cf53 5 = .ok (.iload_n 0, 1) := by decide +kernel
theorem dJ9_min_7cf53_6 : decode cJ9_min_7cf53 6 = .ok (.goto 4, 3) := by decide +kernel
theorem dJ9_min_7cf53_9 : decode cJ9_min_7cf53 9 = .ok (.iload_n 1, 1) := by decide +kernel
theorem dJ9_min_7cf53_10 : decode cJ9_min_7cf53 10 = .ok (.ireturn, 1) := by decide +kernel
theorem dJ9_min_f86c9_0 : decode cJ9_min_f86c9 0 = .ok (.lload_n 0, 1) := by decide +kernel
theorem dJ9_min_f86c9_1 : decode cJ9_min_f86c9 1 = .ok (.lload_n 2, 1) := by decide +kernel
theorem dJ9_min_f86c9_2 : decode cJ9_min_f86c9 2 = .ok (.lcmp, 1) := by decide +kernel
theorem dJ9_min_f86c9_3 : decode cJ9_min_f86c9 3 = .ok (.ifCond .gt 7, 3) := by decide +kernel
theorem dJ9_min_f86c9_6 : decode cJ9_min_f86c9 6 = .ok (.lload_n 0, 1) := by decide +kernel
theorem dJ9_min_f86c9_7 : decode cJ9_min_f86c9 7 = .ok (.goto 4, 3) := by decide +kernel
theorem dJ9_min_f86c9_10 : decode cJ9_min_f86c9 10 = .ok (.lload_n 2, 1) := by decide +kernel
theorem dJ9_min_f86c9_11 : decode cJ9_min_f86c9 11 = .ok (.lreturn, 1) := by decide +kernel
set_option maxRecDepth 20000 in
theorem ggJ0_length_8abf5_J0_coder_7d493 : GoodIn wsJ0_length_8abf5 wsJ0_coder_7d493 := goodIn_r _ [6, 7, 8] (by decide +kernel) (by decide +kernel)
set_option maxRecDepth 20000 in
theorem gJ0_length_8abf5_J0_coder_7d493 : GoodIn wsJ0_length_8abf5 (wsV RJ0 335 RJ0 yJ0_coder_7d493 wsJ0_coder_7d493) := goodIn_app (goodIn_of _ (by decide +kernel)) ggJ0_length_8abf5_J0_coder_7d493
theorem dJ0_length_8abf5_0 : decode cJ0_length_8abf5 0 = .ok (.aload_n 0, 1) := by decide +kernel
theorem dJ0_length_8abf5_1 : decode cJ0_length_8abf5 1 = .ok (.getfield 9, 3) := by decide +kernel
theorem dJ0_length_8abf5_4 : decode cJ0_length_8abf5 4 = .ok (.arraylength, 1) := by decide +kernel
theorem dJ0_length_8abf5_5 : decode cJ0_length_8abf5 5 = .ok (.aload_n 0, 1) := by decide +kernel
theorem dJ0_length_8abf5_6 : decode cJ0_length_8abf5 6 = .ok (.invokevirtual 335, 3) := by decide +kernel
theorem dJ0_length_8abf5_9 : decode cJ0_length_8abf5 9 = .ok (.ishr, 1) := by decide +kernel
theorem dJ0_length_8abf5_10 : decode cJ0_length_8abf5 10 = .ok (.ireturn, 1) := by decide +kernel
set_option maxRecDepth 20000 in
theorem ggJ0_charAt_5068e_J0_isLatin1_aae02 : GoodIn wsJ0_charAt_5068e wsJ0_isLatin1_aae02 := goodIn_r _ [6, 7, 8] (by decide +kernel) (by decide +kernel)
set_option maxRecDepth 20000 in
theorem gJ0_charAt_5068e_J0_isLatin1_aae02 : GoodIn wsJ0_charAt_5068e (wsV RJ0 492 RJ0 yJ0_isLatin1_aae02 wsJ0_isLatin1_aae02) := goodIn_app (goodIn_of _ (by decide +kernel)) ggJ0_charAt_5068e_J0_isLatin1_aae02
set_option maxRecDepth 20000 in
theorem ggJ0_charAt_5068e_J1_charAt_3b067 : GoodIn wsJ0_charAt_5068e wsJ1_charAt_3b067 := goodIn_r _ [12, 13, 14, 5, 15, 16, 17, 18, 19, 20] (by decide +kernel) (by decide +kernel)
set_option maxRecDepth 20000 in
theorem gJ0_charAt_5068e_J1_charAt_3b067 : GoodIn wsJ0_charAt_5068e (va_wsS RJ0 495 yJ1_charAt_3b067 wsJ1_charAt_3b067) := goodIn_app (goodIn_of _ (by decide +kernel)) ggJ0_charAt_5068e_J1_charAt_3b067
set_option maxRecDepth 20000 in
theorem ggJ0_charAt_5068e_J2_charAt_3b067 : GoodIn wsJ0_charAt_5068e wsJ2_charAt_3b067 := goodIn_r _ [24, 25, 26, 23, 27, 28, 29, 30, 31, 14, 5, 15, 16, 17, 18, 19, 20, 32, 33, 34, 35, 36, 37] (by decide +kernel) (by decide +kernel)
set_option maxRecDepth 20000 in
theorem gJ0_charAt_5068e_J2_charAt_3b067 : GoodIn wsJ0_charAt_5068e (va_wsS RJ0 498 yJ2_charAt_3b067 wsJ2_charAt_3b067) := goodIn_app (goodIn_of _ (by decide +kernel)) ggJ0_charAt_5068e_J2_charAt_3b067
theorem dJ0_charAt_5068e_0 : decode cJ0_charAt_5068e 0 = .ok (.aload_n 0, 1) := by decide +kernel
theorem dJ0_charAt_5068e_1 : decode cJ0_charAt_5068e 1 = .ok (.invokevirtual 492, 3) := by decide +kernel
theorem dJ0_charAt_5068e_4 : decode cJ0_charAt_5068e 4 = .ok (.ifCond .eq 12, 3) := by decide +kernel
theorem dJ0_charAt_5068e_7 : decode cJ0_charAt_5068e 7 = .ok (.aload_n 0, 1) := by decide +kernel
theorem dJ0_charAt_5068e_8 : decode cJ0_charAt_5068e 8 = .ok (.getfield 9, 3) := by decide +kernel
theorem dJ0_charAt_5068e_11 : decode cJ0_charAt_5068e 11 = .ok (.iload_n 1, 1) := by decide +kernel
theorem dJ0_charAt_5068e_12 : decode cJ0_charAt_5068e 12 = .ok (.invokestatic 495, 3) := by decide +kernel
theorem dJ0_charAt_5068e_15 : decode cJ0_charAt_5068e 15 = .ok (.ireturn, 1) := by decide +kernel
theorem dJ0_charAt_5068e_16 : decode cJ0_charAt_5068e 16 = .ok (.aload_n 0, 1) := by decide +kernel
theorem dJ0_charAt_5068e_17 : decode cJ0_charAt_5068e 17 = .ok (.getfield 9, 3) := by decide +kernel
theorem dJ0_charAt_5068e_20 : decode cJ0_charAt_5068e 20 = .ok (.iload_n 1, 1) := by decide +kernel
theorem dJ0_charAt_5068e_21 : decode cJ0_charAt_5068e 21 = .ok (.invokestatic 498, 3) := by decide +kernel
theorem dJ0_charAt_5068e_24 : decode cJ0_charAt_5068e 24 = .ok (.ireturn, 1) := by decide +kernel
theorem dJ0_coder_7d493_0 : decode cJ0_coder_7d493 0 = .ok (.getstatic 38, 3) := by decide +kernel
theorem dJ0_coder_7d493_3 : decode cJ0_coder_7d493 3 = .ok (.ifCond .eq 10, 3) := by decide +kernel
theorem dJ0_coder_7d493_6 : decode cJ0_coder_7d493 6 = .ok (.aload_n 0, 1) := by decide +kernel
theorem dJ0_coder_7d493_7 : decode cJ0_coder_7d493 7 = .ok (.getfield 15, 3) := by decide +kernel
theorem dJ0_coder_7d493_10 : decode cJ0_coder_7d493 10 = .ok (.goto 4, 3) := by decide +kernel
theorem dJ0_coder_7d493_13 : decode cJ0_coder_7d493 13 = .ok (.iconst 1, 1) := by decide +kernel
theorem dJ0_coder_7d493_14 : decode cJ0_coder_7d493 14 = .ok (.ireturn, 1) := by decide +kernel
theorem dJ0_isLatin1_aae02_0 : decode cJ0_isLatin1_aae02 0 = .ok (.getstatic 38, 3) := by decide +kernel
theorem dJ0_isLatin1_aae02_3 : decode cJ0_isLatin1_aae02 3 = .ok (.ifCond .eq 14, 3) := by decide +kernel
theorem dJ0_isLatin1_aae02_6 : decode cJ0_isLatin1_aae02 6 = .ok (.aload_n 0, 1) := by decide +kernel
theorem dJ0_isLatin1_aae02_7 : decode cJ0_isLatin1_aae02 7 = .ok (.getfield 15, 3) := by decide +kernel
theorem dJ0_isLatin1_aae02_10 : decode cJ0_isLatin1_aae02 10 = .ok (.ifCond .ne 7, 3) := by decide +kernel
theorem dJ0_isLatin1_aae02_13 : decode cJ0_isLatin1_aae02 13 = .ok (.iconst 1, 1) := by decide +kernel
theorem dJ0_isLatin1_aae02_14 : decode cJ0_isLatin1_aae02 14 = .ok (.goto 4, 3) := by decide +kernel
theorem dJ0_isLatin1_aae02_17 : decode cJ0_isLatin1_aae02 17 = .ok (.iconst 0, 1) := by decide +kernel
theorem dJ0_isLatin1_aae02_18 : decode cJ0_isLatin1_aae02 18 = .ok (.ireturn, 1) := by decide +kernel
set_option maxRecDepth 20000 in
theorem ggJ0_checkIndex_df160_J3_checkIndex_8e157 : GoodIn wsJ0_checkIndex_df160 wsJ3_checkIndex_8e157 := goodIn_r _ [5] (by decide +kernel) (by decide +kernel)
set_option maxRecDepth 20000 in
theorem gJ0_checkIndex_df160_J3_checkIndex_8e157 : GoodIn wsJ0_checkIndex_df160 (va_wsS RJ0 1059 yJ3_checkIndex_8e157 wsJ3_checkIndex_8e157) := goodIn_app (goodIn_of _ (by decide +kernel)) ggJ0_checkIndex_df160_J3_checkIndex_8e157
theorem dJ0_checkIndex_df160_0 : decode cJ0_checkIndex_df160 0 = .ok (.iload_n 0, 1) := by decide +kernel
theorem dJ0_checkIndex_df160_1 : decode cJ0_checkIndex_df160 1 = .ok (.iload_n 1, 1) := by decide +kernel
theorem dJ0_checkIndex_df160_2 : decode cJ0_checkIndex_df160 2 = .ok (.getstatic 1053, 3) := by decide +kernel
theorem dJ0_checkIndex_df160_5 : decode cJ0_checkIndex_df160 5 = .ok (.invokestatic 1059, 3) := by decide +kernel
theorem dJ0_checkIndex_df160_8 : decode cJ0_checkIndex_df160 8 = .ok (.pop, 1) := by decide +kernel
theorem dJ0_checkIndex_df160_9 : decode cJ0_checkIndex_df160 9 = .ok (.return_, 1) := by decide +kernel
set_option maxRecDepth 20000 in
theorem ggJ1_charAt_3b067_J0_checkIndex_df160 : GoodIn wsJ1_charAt_3b067 wsJ0_checkIndex_df160 := goodIn_r _ [4, 5, 6, 7, 8, 9] (by decide +kernel) (by decide +kernel)
set_option maxRecDepth 20000 in
theorem gJ1_charAt_3b067_J0_checkIndex_df160 : GoodIn wsJ1_charAt_3b067 (va_wsS RJ1 9 yJ0_checkIndex_df160 wsJ0_checkIndex_df160) := goodIn_app (goodIn_of _ (by decide +kernel)) ggJ1_charAt_3b067_J0_checkIndex_df160
theorem dJ1_charAt_3b067_0 : decode cJ1_charAt_3b067 0 = .ok (.iload_n 1, 1) := by decide +kernel
theorem dJ1_charAt_3b067_1 : decode cJ1_charAt_3b067 1 = .ok (.aload_n 0, 1) := by decide +kernel
theorem dJ1_charAt_3b067_2 : decode cJ1_charAt_3b067 2 = .ok (.arraylength, 1) := by decide +kernel
theorem dJ1_charAt_3b067_3 : decode cJ1_charAt_3b067 3 = .ok (.invokestatic 9, 3) := by decide +kernel
theorem dJ1_charAt_3b067_6 : decode cJ1_charAt_3b067 6 = .ok (.aload_n 0, 1) := by decide +kernel
theorem dJ1_charAt_3b067_7 : decode cJ1_charAt_3b067 7 = .ok (.iload_n 1, 1) := by decide +kernel
theorem dJ1_charAt_3b067_8 : decode cJ1_charAt_3b067 8 = .ok (.baload, 1) := by decide +kernel
theorem dJ1_charAt_3b067_9 : decode cJ1_charAt_3b067 9 = .ok (.sipush 255, 3) := by decide +kernel
theorem dJ1_charAt_3b067_12 : decode cJ1_charAt_3b067 12 = .ok (.iand, 1) := by decide +kernel
theorem dJ1_charAt_3b067_13 : decode cJ1_charAt_3b067 13 = .ok (.i2c, 1) := by decide +kernel
theorem dJ1_charAt_3b067_14 : decode cJ1_charAt_3b067 14 = .ok (.ireturn, 1) := by decide +kernel
set_option maxRecDepth 20000 in
theorem ggJ2_getChar_3b067_J2_length_9d52b : GoodIn wsJ2_getChar_3b067 wsJ2_length_9d52b := goodIn_r _ [7] (by decide +kernel) (by decide +kernel)
set_option maxRecDepth 20000 in
theorem gJ2_getChar_3b067_J2_length_9d52b : GoodIn wsJ2_getChar_3b067 (va_wsS RJ2 48 yJ2_length_9d52b wsJ2_length_9d52b) := goodIn_app (goodIn_of _ (by decide +kernel)) ggJ2_getChar_3b067_J2_length_9d52b
theorem dJ2_getChar_3b067_0 : decode cJ2_getChar_3b067 0 = .ok (.getstatic 44, 3) := by decide +kernel
theorem dJ2_getChar_3b067_3 : decode cJ2_getChar_3b067 3 = .ok (.ifCond .ne 25, 3) := by decide +kernel
theorem dJ2_getChar_3b067_6 : decode cJ2_getChar_3b067 6 = .ok (.iload_n 1, 1) := by decide +kernel
theorem dJ2_getChar_3b067_7 : decode cJ2_getChar_3b067 7 = .ok (.ifCond .lt 11, 3) := by decide +kernel
theorem dJ2_getChar_3b067_10 : decode cJ2_getChar_3b067 10 = .ok (.iload_n 1, 1) := by decide +kernel
theorem dJ2_getChar_3b067_11 : decode cJ2_getChar_3b067 11 = .ok (.aload_n 0, 1) := by decide +kernel
theorem dJ2_getChar_3b067_12 : decode cJ2_getChar_3b067 12 = .ok (.invokestatic 48, 3) := by decide +kernel
theorem dJ2_getChar_3b067_15 : decode cJ2_getChar_3b067 15 = .ok (.if_icmp .lt 13, 3) := by decide +kernel
theorem dJ2_getChar_3b067_18 : decode cJ2_getChar_3b067 18 = .ok (.new 52, 3) := by decide +kernel
theorem dJ2_getChar_3b067_21 : decode cJ2_getChar_3b067 21 = .ok (.dup, 1) := by decide +kernel
theorem dJ2_getChar_3b067_22 : decode cJ2_getChar_3b067 22 = .ok (.ldc 54, 2) := by decide +kernel
theorem dJ2_getChar_3b067_24 : decode cJ2_getChar_3b067 24 = .ok (.invokespecial 56, 3) := by decide +kernel
theorem dJ2_getChar_3b067_27 : decode cJ2_getChar_3b067 27 = .ok (.athrow, 1) := by decide +kernel
theorem dJ2_getChar_3b067_28 : decode cJ2_getChar_3b067 28 = .ok (.iload_n 1, 1) := by decide +kernel
theorem dJ2_getChar_3b067_29 : decode cJ2_getChar_3b067 29 = .ok (.iconst 1, 1) := by decide +kernel
theorem dJ2_getChar_3b067_30 : decode cJ2_getChar_3b067 30 = .ok (.ishl, 1) := by decide +kernel
theorem dJ2_getChar_3b067_31 : decode cJ2_getChar_3b067 31 = .ok (.istore_n 1, 1) := by decide +kernel
theorem dJ2_getChar_3b067_32 : decode cJ2_getChar_3b067 32 = .ok (.aload_n 0, 1) := by decide +kernel
theorem dJ2_getChar_3b067_33 : decode cJ2_getChar_3b067 33 = .ok (.iload_n 1, 1) := by decide +kernel
theorem dJ2_getChar_3b067_34 : decode cJ2_getChar_3b067 34 = .ok (.iinc 1 1, 3) := by decide +kernel
theorem dJ2_getChar_3b067_37 : decode cJ2_getChar_3b067 37 = .ok (.baload, 1) := by decide +kernel
theorem dJ2_getChar_3b067_38 : decode cJ2_getChar_3b067 38 = .ok (.sipush 255, 3) := by decide +kernel
theorem dJ2_getChar_3b067_41 : decode cJ2_getChar_3b067 41 = .ok (.iand, 1) := by decide +kernel
theorem dJ2_getChar_3b067_42 : decode cJ2_getChar_3b067 42 = .ok (.getstatic 59, 3) := by decide +kernel
theorem dJ2_getChar_3b067_45 : decode cJ2_getChar_3b067 45 = .ok (.ishl, 1) := by decide +kernel
theorem dJ2_getChar_3b067_46 : decode cJ2_getChar_3b067 46 = .ok (.aload_n 0, 1) := by decide +kernel
theorem dJ2_getChar_3b067_47 : decode cJ2_getChar_3b067 47 = .ok (.iload_n 1, 1) := by decide +kernel
theorem dJ2_getChar_3b067_48 : decode cJ2_getChar_3b067 48 = .ok (.baload, 1) := by decide +kernel
theorem dJ2_getChar_3b067_49 : decode cJ2_getChar_3b067 49 = .ok (.sipush 255, 3) := by decide +kernel
theorem dJ2_getChar_3b067_52 : decode cJ2_getChar_3b067 52 = .ok (.iand, 1) := by decide +kernel
theorem dJ2_getChar_3b067_53 : decode cJ2_getChar_3b067 53 = .ok (.getstatic 63, 3) := by decide +kernel
theorem dJ2_getChar_3b067_56 : decode cJ2_getChar_3b067 56 = .ok (.ishl, 1) := by decide +kernel
theorem dJ2_getChar_3b067_57 : decode cJ2_getChar_3b067 57 = .ok (.ior, 1) := by decide +kernel
theorem dJ2_getChar_3b067_58 : decode cJ2_getChar_3b067 58 = .ok (.i2c, 1) := by decide +kernel
theorem dJ2_getChar_3b067_59 : decode cJ2_getChar_3b067 59 = .ok (.ireturn, 1) := by decide +kernel
theorem dJ2_length_9d52b_0 : decode cJ2_length_9d52b 0 = .ok (.aload_n 0, 1) := by decide +kernel
theorem dJ2_length_9d52b_1 : decode cJ2_length_9d52b 1 = .ok (.arraylength, 1) := by decide +kernel
theorem dJ2_length_9d52b_2 : decode cJ2_length_9d52b 2 = .ok (.iconst 1, 1) := by decide +kernel
theorem dJ2_length_9d52b_3 : decode cJ2_length_9d52b 3 = .ok (.ishr, 1) := by decide +kernel
theorem dJ2_length_9d52b_4 : decode cJ2_length_9d52b 4 = .ok (.ireturn, 1) := by decide +kernel
set_option maxRecDepth 20000 in
theorem ggJ2_charAt_3b067_J2_checkIndex_2214a : GoodIn wsJ2_charAt_3b067 wsJ2_checkIndex_2214a := goodIn_r _ [4, 5, 6, 3, 7, 8, 9, 10, 11, 12, 13, 14, 15, 16] (by decide +kernel) (by decide +kernel)
set_option maxRecDepth 20000 in
theorem gJ2_charAt_3b067_J2_checkIndex_2214a : GoodIn wsJ2_charAt_3b067 (va_wsS RJ2 67 yJ2_checkIndex_2214a wsJ2_checkIndex_2214a) := goodIn_app (goodIn_of _ (by decide +kernel)) ggJ2_charAt_3b067_J2_checkIndex_2214a
set_option maxRecDepth 20000 in
theorem ggJ2_charAt_3b067_J2_getChar_3b067 : GoodIn wsJ2_charAt_3b067 wsJ2_getChar_3b067 := goodIn_r _ [19, 20, 21, 22, 5, 6, 3, 7] (by decide +kernel) (by decide +kernel)
set_option maxRecDepth 20000 in
theorem gJ2_charAt_3b067_J2_getChar_3b067 : GoodIn wsJ2_charAt_3b067 (va_wsS RJ2 71 yJ2_getChar_3b067 wsJ2_getChar_3b067) := goodIn_app (goodIn_of _ (by decide +kernel)) ggJ2_charAt_3b067_J2_getChar_3b067
theorem dJ2_charAt_3b067_0 : decode cJ2_charAt_3b067 0 = .ok (.iload_n 1, 1) := by decide +kernel
theorem dJ2_charAt_3b067_1 : decode cJ2_charAt_3b067 1 = .ok (.aload_n 0, 1) := by decide +kernel
theorem dJ2_charAt_3b067_2 : decode cJ2_charAt_3b067 2 = .ok (.invokestatic 67, 3) := by decide +kernel
theorem dJ2_charAt_3b067_5 : decode cJ2_charAt_3b067 5 = .ok (.aload_n 0, 1) := by decide +kernel
theorem dJ2_charAt_3b067_6 : decode cJ2_charAt_3b067 6 = .ok (.iload_n 1, 1) := by decide +kernel
theorem dJ2_charAt_3b067_7 : decode cJ2_charAt_3b067 7 = .ok (.invokestatic 71, 3) := by decide +kernel
theorem dJ2_charAt_3b067_10 : decode cJ2_charAt_3b067 10 = .ok (.ireturn, 1) := by decide +kernel
set_option maxRecDepth 20000 in
theorem ggJ2_checkIndex_2214a_J2_length_9d52b : GoodIn wsJ2_checkIndex_2214a wsJ2_length_9d52b := goodIn_r _ [4] (by decide +kernel) (by decide +kernel)
set_option maxRecDepth 20000 in
theorem gJ2_checkIndex_2214a_J2_length_9d52b : GoodIn wsJ2_checkIndex_2214a (va_wsS RJ2 48 yJ2_length_9d52b wsJ2_length_9d52b) := goodIn_app (goodIn_of _ (by decide +kernel)) ggJ2_checkIndex_2214a_J2_length_9d52b
set_option maxRecDepth 20000 in
theorem ggJ2_checkIndex_2214a_J0_checkIndex_df160 : GoodIn wsJ2_checkIndex_2214a wsJ0_checkIndex_df160 := goodIn_r _ [8, 9, 10, 11, 12, 13] (by decide +kernel) (by decide +kernel)
set_option maxRecDepth 20000 in
theorem gJ2_checkIndex_2214a_J0_checkIndex_df160 : GoodIn wsJ2_checkIndex_2214a (va_wsS RJ2 414 yJ0_checkIndex_df160 wsJ0_checkIndex_df160) := goodIn_app (goodIn_of _ (by decide +kernel)) ggJ2_checkIndex_2214a_J0_checkIndex_df160
theorem dJ2_checkIndex_2214a_0 : decode cJ2_checkIndex_2214a 0 = .ok (.iload_n 0, 1) := by decide +kernel
theorem dJ2_checkIndex_2214a_1 : decode cJ2_checkIndex_2214a 1 = .ok (.aload_n 1, 1) := by decide +kernel
theorem dJ2_checkIndex_2214a_2 : decode cJ2_checkIndex_2214a 2 = .ok (.invokestatic 48, 3) := by decide +kernel
theorem dJ2_checkIndex_2214a_5 : decode cJ2_checkIndex_2214a 5 = .ok (.invokestatic 414, 3) := by decide +kernel
theorem dJ2_checkIndex_2214a_8 : decode cJ2_checkIndex_2214a 8 = .ok (.return_, 1) := by decide +kernel
theorem dJ7_fill_53178_0 : decode cJ7_fill_53178 0 = .ok (.iconst 0, 1) := by decide +kernel
theorem dJ7_fill_53178_1 : decode cJ7_fill_53178 1 = .ok (.istore_n 2, 1) := by decide +kernel
theorem dJ7_fill_53178_2 : decode cJ7_fill_53178 2 = .ok (.aload_n 0, 1) := by decide +kernel
theorem dJ7_fill_53178_3 : decode cJ7_fill_53178 3 = .ok (.arraylength, 1) := by decide +kernel
theorem dJ7_fill_53178_4 : decode cJ7_fill_53178 4 = .ok (.istore_n 3, 1) := by decide +kernel
theorem dJ7_fill_53178_5 : decode cJ7_fill_53178 5 = .ok (.iload_n 2, 1) := by decide +kernel
theorem dJ7_fill_53178_6 : decode cJ7_fill_53178 6 = .ok (.iload_n 3, 1) := by decide +kernel
theorem dJ7_fill_53178_7 : decode cJ7_fill_53178 7 = .ok (.if_icmp .ge 13, 3) := by decide +kernel
theorem dJ7_fill_53178_10 : decode cJ7_fill_53178 10 = .ok (.aload_n 0, 1) := by decide +kernel
theorem dJ7_fill_53178_11 : decode cJ7_fill_53178 11 = .ok (.iload_n 2, 1) := by decide +kernel
theorem dJ7_fill_53178_12 : decode cJ7_fill_53178 12 = .ok (.iload_n 1, 1) := by decide +kernel
theorem dJ7_fill_53178_13 : decode cJ7_fill_53178 13 = .ok (.iastore, 1) := by decide +kernel
theorem dJ7_fill_53178_14 : decode cJ7_fill_53178 14 = .ok (.iinc 2 1, 3) := by decide +kernel
theorem dJ7_fill_53178_17 : decode cJ7_fill_53178 17 = .ok (.goto (-12), 3) := by decide +kernel
theorem dJ7_fill_53178_20 : decode cJ7_fill_53178 20 = .ok (.return_, 1) := by decide +kernel
theorem dJ7_copyOf_59c91_0 : decode cJ7_copyOf_59c91 0 = .ok (.iload_n 1, 1) := by decide +kernel
theorem dJ7_copyOf_59c91_1 : decode cJ7_copyOf_59c91 1 = .ok (.aload_n 0, 1) := by decide +kernel
theorem dJ7_copyOf_59c91_2 : decode cJ7_copyOf_59c91 2 = .ok (.arraylength, 1) := by decide +kernel
theorem dJ7_copyOf_59c91_3 : decode cJ7_copyOf_59c91 3 = .ok (.if_icmp .ne 11, 3) := by decide +kernel
theorem dJ7_copyOf_59c91_6 : decode cJ7_copyOf_59c91 6 = .ok (.aload_n 0, 1) := by decide +kernel
theorem dJ7_copyOf_59c91_7 : decode cJ7_copyOf_59c91 7 = .ok (.invokevirtual 316, 3) := by decide +kernel
theorem dJ7_copyOf_59c91_10 : decode cJ7_copyOf_59c91 10 = .ok (.checkcast 317, 3) := by decide +kernel
theorem dJ7_copyOf_59c91_13 : decode cJ7_copyOf_59c91 13 = .ok (.areturn, 1) := by decide +kernel
theorem dJ7_copyOf_59c91_14 : decode cJ7_copyOf_59c91 14 = .ok (.iload_n 1, 1) := by decide +kernel
theorem dJ7_copyOf_59c91_15 : decode cJ7_copyOf_59c91 15 = .ok (.newarray .int, 2) := by decide +kernel
theorem dJ7_copyOf_59c91_17 : decode cJ7_copyOf_59c91 17 = .ok (.astore_n 2, 1) := by decide +kernel
theorem dJ7_copyOf_59c91_18 : decode cJ7_copyOf_59c91 18 = .ok (.aload_n 0, 1) := by decide +kernel
theorem dJ7_copyOf_59c91_19 : decode cJ7_copyOf_59c91 19 = .ok (.iconst 0, 1) := by decide +kernel
theorem dJ7_copyOf_59c91_20 : decode cJ7_copyOf_59c91 20 = .ok (.aload_n 2, 1) := by decide +kernel
theorem dJ7_copyOf_59c91_21 : decode cJ7_copyOf_59c91 21 = .ok (.iconst 0, 1) := by decide +kernel
theorem dJ7_copyOf_59c91_22 : decode cJ7_copyOf_59c91 22 = .ok (.aload_n 0, 1) := by decide +kernel
theorem dJ7_copyOf_59c91_23 : decode cJ7_copyOf_59c91 23 = .ok (.arraylength, 1) := by decide +kernel
theorem dJ7_copyOf_59c91_24 : decode cJ7_copyOf_59c91 24 = .ok (.iload_n 1, 1) := by decide +kernel
theorem dJ7_copyOf_59c91_25 : decode cJ7_copyOf_59c91 25 = .ok (.invokestatic 304, 3) := by decide +kernel
theorem dJ7_copyOf_59c91_28 : decode cJ7_copyOf_59c91 28 = .ok (.invokestatic 150, 3) := by decide +kernel
theorem dJ7_copyOf_59c91_31 : decode cJ7_copyOf_59c91 31 = .ok (.aload_n 2, 1) := by decide +kernel
theorem dJ7_copyOf_59c91_32 : decode cJ7_copyOf_59c91 32 = .ok (.areturn, 1) := by decide +kernel
theorem dJ3_checkIndex_8e157_0 : decode cJ3_checkIndex_8e157 0 = .ok (.iload_n 0, 1) := by decide +kernel
theorem dJ3_checkIndex_8e157_1 : decode cJ3_checkIndex_8e157 1 = .ok (.ifCond .lt 8, 3) := by decide +kernel
theorem dJ3_checkIndex_8e157_4 : decode cJ3_checkIndex_8e157 4 = .ok (.iload_n 0, 1) := by decide +kernel
theorem dJ3_checkIndex_8e157_5 : decode cJ3_checkIndex_8e157 5 = .ok (.iload_n 1, 1) := by decide +kernel
theorem dJ3_checkIndex_8e157_6 : decode cJ3_checkIndex_8e157 6 = .ok (.if_icmp .lt 10, 3) := by decide +kernel
theorem dJ3_checkIndex_8e157_9 : decode cJ3_checkIndex_8e157 9 = .ok (.aload_n 2, 1) := by decide +kernel
theorem dJ3_checkIndex_8e157_10 : decode cJ3_checkIndex_8e157 10 = .ok (.iload_n 0, 1) := by decide +kernel
theorem dJ3_checkIndex_8e157_11 : decode cJ3_checkIndex_8e157 11 = .ok (.iload_n 1, 1) := by decide +kernel
theorem dJ3_checkIndex_8e157_12 : decode cJ3_checkIndex_8e157 12 = .ok (.invokestatic 95, 3) := by decide +kernel
theorem dJ3_checkIndex_8e157_15 : decode cJ3_checkIndex_8e157 15 = .ok (.athrow, 1) := by decide +kernel
theorem dJ3_checkIndex_8e157_16 : decode cJ3_checkIndex_8e157 16 = .ok (.iload_n 0, 1) := by decide +kernel
theorem dJ3_checkIndex_8e157_17 : decode cJ3_checkIndex_8e157 17 = .ok (.ireturn, 1) := by decide +kernel
