theorem dX8_moveTo_35 : decode cX8_moveTo 35 = .ok (.iaload, 1) := by decide +kernel
theorem dX8_moveTo_36 : decode cX8_moveTo 36 = .ok (.istore 4, 2) := by decide +kernel
theorem dX8_moveTo_38 : decode cX8_moveTo 38 = .ok (.iconst 1, 1) := by decide +kernel
theorem dX8_moveTo_39 : decode cX8_moveTo 39 = .ok (.iload_n 1, 1) := by decide +kernel
theorem dX8_moveTo_40 : decode cX8_moveTo 40 = .ok (.ishl, 1) := by decide +kernel
theorem dX8_moveTo_41 : decode cX8_moveTo 41 = .ok (.istore 5, 2) := by decide +kernel
theorem dX8_moveTo_43 : decode cX8_moveTo 43 = .ok (.aload_n 0, 1) := by decide +kernel
theorem dX8_moveTo_44 : decode cX8_moveTo 44 = .ok (.iload 4, 2) := by decide +kernel
theorem dX8_moveTo_46 : decode cX8_moveTo 46 = .ok (.invokevirtual 58, 3) := by decide +kernel
theorem dX8_moveTo_49 : decode cX8_moveTo 49 = .ok (.ifCond .eq 22, 3) := by decide +kernel
theorem dX8_moveTo_52 : decode cX8_moveTo 52 = .ok (.aload_n 0, 1) := by decide +kernel
theorem dX8_moveTo_53 : decode cX8_moveTo 53 = .ok (.getfield 43, 3) := by decide +kernel
theorem dX8_moveTo_56 : decode cX8_moveTo 56 = .ok (.iload_n 2, 1) := by decide +kernel
theorem dX8_moveTo_57 : decode cX8_moveTo 57 = .ok (.bipush 6, 2) := by decide +kernel
theorem dX8_moveTo_59 : decode cX8_moveTo 59 = .ok (.imul, 1) := by decide +kernel
theorem dX8_moveTo_60 : decode cX8_moveTo 60 = .ok (.iload 4, 2) := by decide +kernel
theorem dX8_moveTo_62 : decode cX8_moveTo 62 = .ok (.iadd, 1) := by decide +kernel
theorem dX8_moveTo_63 : decode cX8_moveTo 63 = .ok (.dup2, 1) := by decide +kernel
theorem dX8_moveTo_64 : decode cX8_moveTo 64 = .ok (.iaload, 1) := by decide +kernel
theorem dX8_moveTo_65 : decode cX8_moveTo 65 = .ok (.iload 5, 2) := by decide +kernel
theorem dX8_moveTo_67 : decode cX8_moveTo 67 = .ok (.iconst (-1), 1) := by decide +kernel
theorem dX8_moveTo_68 : decode cX8_moveTo 68 = .ok (.ixor, 1) := by decide +kernel
theorem dX8_moveTo_69 : decode cX8_moveTo 69 = .ok (.iand, 1) := by decide +kernel
theorem dX8_moveTo_70 : decode cX8_moveTo 70 = .ok (.iastore, 1) := by decide +kernel
theorem dX8_moveTo_71 : decode cX8_moveTo 71 = .ok (.aload_n 0, 1) := by decide +kernel
theorem dX8_moveTo_72 : decode cX8_moveTo 72 = .ok (.iload_n 3, 1) := by decide +kernel
theorem dX8_moveTo_73 : decode cX8_moveTo 73 = .ok (.invokevirtual 58, 3) := by decide +kernel
theorem dX8_moveTo_76 : decode cX8_moveTo 76 = .ok (.ifCond .eq 19, 3) := by decide +kernel
theorem dX8_moveTo_79 : decode cX8_moveTo 79 = .ok (.aload_n 0, 1) := by decide +kernel
theorem dX8_moveTo_80 : decode cX8_moveTo 80 = .ok (.getfield 43, 3) := by decide +kernel
theorem dX8_moveTo_83 : decode cX8_moveTo 83 = .ok (.iload_n 2, 1) := by decide +kernel
theorem dX8_moveTo_84 : decode cX8_moveTo 84 = .ok (.bipush 6, 2) := by decide +kernel
theorem dX8_moveTo_86 : decode cX8_moveTo 86 = .ok (.imul, 1) := by decide +kernel
theorem dX8_moveTo_87 : decode cX8_moveTo 87 = .ok (.iload_n 3, 1) := by decide +kernel
theorem dX8_moveTo_88 : decode cX8_moveTo 88 = .ok (.iadd, 1) := by decide +kernel
theorem dX8_moveTo_89 : decode cX8_moveTo 89 = .ok (.dup2, 1) := by decide +kernel
theorem dX8_moveTo_90 : decode cX8_moveTo 90 = .ok (.iaload, 1) := by decide +kernel
theorem dX8_moveTo_91 : decode cX8_moveTo 91 = .ok (.iload 5, 2) := by decide +kernel
theorem dX8_moveTo_93 : decode cX8_moveTo 93 = .ok (.ior, 1) := by decide +kernel
theorem dX8_moveTo_94 : decode cX8_moveTo 94 = .ok (.iastore, 1) := by decide +kernel
theorem dX8_moveTo_95 : decode cX8_moveTo 95 = .ok (.aload_n 0, 1) := by decide +kernel
theorem dX8_moveTo_96 : decode cX8_moveTo 96 = .ok (.getfield 40, 3) := by decide +kernel
theorem dX8_moveTo_99 : decode cX8_moveTo 99 = .ok (.iload_n 1, 1) := by decide +kernel
theorem dX8_moveTo_100 : decode cX8_moveTo 100 = .ok (.bipush 12, 2) := by decide +kernel
theorem dX8_moveTo_102 : decode cX8_moveTo 102 = .ok (.imul, 1) := by decide +kernel
theorem dX8_moveTo_103 : decode cX8_moveTo 103 = .ok (.iload_n 2, 1) := by decide +kernel
theorem dX8_moveTo_104 : decode cX8_moveTo 104 = .ok (.iadd, 1) := by decide +kernel
theorem dX8_moveTo_105 : decode cX8_moveTo 105 = .ok (.iload_n 3, 1) := by decide +kernel
theorem dX8_moveTo_106 : decode cX8_moveTo 106 = .ok (.iastore, 1) := by decide +kernel
theorem dX8_moveTo_107 : decode cX8_moveTo 107 = .ok (.return_, 1) := by decide +kernel
set_option maxRecDepth 20000 in
theorem ggX8_bind_X8_isPerson : GoodIn wsX8_bind wsX8_isPerson := goodIn_r _ [6, 7, 8, 9, 10, 11, 12, 13, 14, 15, 16, 17, 18] (by decide +kernel) (by decide +kernel)
set_option maxRecDepth 20000 in
theorem gX8_bind_X8_isPerson : GoodIn wsX8_bind (wsV RX8 62 RX8 yX8_isPerson wsX8_isPerson) := goodIn_app (goodIn_of _ (by decide +kernel)) ggX8_bind_X8_isPerson
theorem dX8_bind_0 : decode cX8_bind 0 = .ok (.aload_n 0, 1) := by decide +kernel
theorem dX8_bind_1 : decode cX8_bind 1 = .ok (.iload_n 1, 1) := by decide +kernel
theorem dX8_bind_2 : decode cX8_bind 2 = .ok (.invokevirtual 62, 3) := by decide +kernel
theorem dX8_bind_5 : decode cX8_bind 5 = .ok (.ifCond .eq 35, 3) := by decide +kernel
theorem dX8_bind_8 : decode cX8_bind 8 = .ok (.aload_n 0, 1) := by decide +kernel
theorem dX8_bind_9 : decode cX8_bind 9 = .ok (.iload_n 2, 1) := by decide +kernel
theorem dX8_bind_10 : decode cX8_bind 10 = .ok (.invokevirtual 62, 3) := by decide +kernel
theorem dX8_bind_13 : decode cX8_bind 13 = .ok (.ifCond .eq 27, 3) := by decide +kernel
theorem dX8_bind_16 : decode cX8_bind 16 = .ok (.aload_n 0, 1) := by decide +kernel
theorem dX8_bind_17 : decode cX8_bind 17 = .ok (.getfield 36, 3) := by decide +kernel
theorem dX8_bind_20 : decode cX8_bind 20 = .ok (.iload_n 1, 1) := by decide +kernel
theorem dX8_bind_21 : decode cX8_bind 21 = .ok (.dup2, 1) := by decide +kernel
theorem dX8_bind_22 : decode cX8_bind 22 = .ok (.iaload, 1) := by decide +kernel
theorem dX8_bind_23 : decode cX8_bind 23 = .ok (.iconst 1, 1) := by decide +kernel
theorem dX8_bind_24 : decode cX8_bind 24 = .ok (.iload_n 2, 1) := by decide +kernel
theorem dX8_bind_25 : decode cX8_bind 25 = .ok (.ishl, 1) := by decide +kernel
theorem dX8_bind_26 : decode cX8_bind 26 = .ok (.ior, 1) := by decide +kernel
theorem dX8_bind_27 : decode cX8_bind 27 = .ok (.iastore, 1) := by decide +kernel
theorem dX8_bind_28 : decode cX8_bind 28 = .ok (.aload_n 0, 1) := by decide +kernel
theorem dX8_bind_29 : decode cX8_bind 29 = .ok (.getfield 36, 3) := by decide +kernel
theorem dX8_bind_32 : decode cX8_bind 32 = .ok (.iload_n 2, 1) := by decide +kernel
theorem dX8_bind_33 : decode cX8_bind 33 = .ok (.dup2, 1) := by decide +kernel
theorem dX8_bind_34 : decode cX8_bind 34 = .ok (.iaload, 1) := by decide +kernel
theorem dX8_bind_35 : decode cX8_bind 35 = .ok (.iconst 1, 1) := by decide +kernel
theorem dX8_bind_36 : decode cX8_bind 36 = .ok (.iload_n 1, 1) := by decide +kernel
theorem dX8_bind_37 : decode cX8_bind 37 = .ok (.ishl, 1) := by decide +kernel
theorem dX8_bind_38 : decode cX8_bind 38 = .ok (.ior, 1) := by decide +kernel
theorem dX8_bind_39 : decode cX8_bind 39 = .ok (.iastore, 1) := by decide +kernel
theorem dX8_bind_40 : decode cX8_bind 40 = .ok (.return_, 1) := by decide +kernel
set_option maxRecDepth 20000 in
theorem ggX8_areKin_X8_isPerson : GoodIn wsX8_areKin wsX8_isPerson := goodIn_r _ [6, 7, 8, 9, 10, 11, 12, 13, 14, 15, 16, 17, 18] (by decide +kernel) (by decide +kernel)
set_option maxRecDepth 20000 in
theorem gX8_areKin_X8_isPerson : GoodIn wsX8_areKin (wsV RX8 62 RX8 yX8_isPerson wsX8_isPerson) := goodIn_app (goodIn_of _ (by decide +kernel)) ggX8_areKin_X8_isPerson
theorem dX8_areKin_0 : decode cX8_areKin 0 = .ok (.aload_n 0, 1) := by decide +kernel
theorem dX8_areKin_1 : decode cX8_areKin 1 = .ok (.iload_n 1, 1) := by decide +kernel
theorem dX8_areKin_2 : decode cX8_areKin 2 = .ok (.invokevirtual 62, 3) := by decide +kernel
theorem dX8_areKin_5 : decode cX8_areKin 5 = .ok (.ifCond .eq 20, 3) := by decide +kernel
theorem dX8_areKin_8 : decode cX8_areKin 8 = .ok (.aload_n 0, 1) := by decide +kernel
theorem dX8_areKin_9 : decode cX8_areKin 9 = .ok (.getfield 36, 3) := by decide +kernel
theorem dX8_areKin_12 : decode cX8_areKin 12 = .ok (.iload_n 1, 1) := by decide +kernel
theorem dX8_areKin_13 : decode cX8_areKin 13 = .ok (.iaload, 1) := by decide +kernel
theorem dX8_areKin_14 : decode cX8_areKin 14 = .ok (.iload_n 2, 1) := by decide +kernel
theorem dX8_areKin_15 : decode cX8_areKin 15 = .ok (.ishr, 1) := by decide +kernel
theorem dX8_areKin_16 : decode cX8_areKin 16 = .ok (.iconst 1, 1) := by decide +kernel
theorem dX8_areKin_17 : decode cX8_areKin 17 = .ok (.iand, 1) := by decide +kernel
theorem dX8_areKin_18 : decode cX8_areKin 18 = .ok (.ifCond .eq 7, 3) := by decide +kernel
theorem dX8_areKin_21 : decode cX8_areKin 21 = .ok (.iconst 1, 1) := by decide +kernel
theorem dX8_areKin_22 : decode cX8_areKin 22 = .ok (.goto 4, 3) := by decide +kernel
theorem dX8_areKin_25 : decode cX8_areKin 25 = .ok (.iconst 0, 1) := by decide +kernel
theorem dX8_areKin_26 : decode cX8_areKin 26 = .ok (.ireturn, 1) := by decide +kernel
set_option maxRecDepth 20000 in
theorem ggX8_areTogether_X8_placeOf : GoodIn wsX8_areTogether wsX8_placeOf := goodIn_r _ [5, 6, 7, 8, 9, 4, 10, 11, 12, 13, 14, 15, 16, 17, 18, 19, 20, 21, 22, 23, 24, 25, 26, 27] (by decide +kernel) (by decide +kernel)
set_option maxRecDepth 20000 in
theorem gX8_areTogether_X8_placeOf : GoodIn wsX8_areTogether (wsV RX8 71 RX8 yX8_placeOf wsX8_placeOf) := goodIn_app (goodIn_of _ (by decide +kernel)) ggX8_areTogether_X8_placeOf
theorem dX8_areTogether_0 : decode cX8_areTogether 0 = .ok (.aload_n 0, 1) := by decide +kernel
theorem dX8_areTogether_1 : decode cX8_areTogether 1 = .ok (.iload_n 1, 1) := by decide +kernel
theorem dX8_areTogether_2 : decode cX8_areTogether 2 = .ok (.iload_n 3, 1) := by decide +kernel
theorem dX8_areTogether_3 : decode cX8_areTogether 3 = .ok (.invokevirtual 71, 3) := by decide +kernel
theorem dX8_areTogether_6 : decode cX8_areTogether 6 = .ok (.istore 4, 2) := by decide +kernel
theorem dX8_areTogether_8 : decode cX8_areTogether 8 = .ok (.iload 4, 2) := by decide +kernel
theorem dX8_areTogether_10 : decode cX8_areTogether 10 = .ok (.bipush 99, 2) := by decide +kernel
theorem dX8_areTogether_12 : decode cX8_areTogether 12 = .ok (.if_icmp .eq 18, 3) := by decide +kernel
theorem dX8_areTogether_15 : decode cX8_areTogether 15 = .ok (.iload 4, 2) := by decide +kernel
theorem dX8_areTogether_17 : decode cX8_areTogether 17 = .ok (.aload_n 0, 1) := by decide +kernel
theorem dX8_areTogether_18 : decode cX8_areTogether 18 = .ok (.iload_n 2, 1) := by decide +kernel
theorem dX8_areTogether_19 : decode cX8_areTogether 19 = .ok (.iload_n 3, 1) := by decide +kernel
theorem dX8_areTogether_20 : decode cX8_areTogether 20 = .ok (.invokevirtual 71, 3) := by decide +kernel
theorem dX8_areTogether_23 : decode cX8_areTogether 23 = .ok (.if_icmp .ne 7, 3) := by decide +kernel
theorem dX8_areTogether_26 : decode cX8_areTogether 26 = .ok (.iconst 1, 1) := by decide +kernel
theorem dX8_areTogether_27 : decode cX8_areTogether 27 = .ok (.goto 4, 3) := by decide +kernel
theorem dX8_areTogether_30 : decode cX8_areTogether 30 = .ok (.iconst 0, 1) := by decide +kernel
theorem dX8_areTogether_31 : decode cX8_areTogether 31 = .ok (.ireturn, 1) := by decide +kernel
set_option maxRecDepth 20000 in
theorem ggX8_metAhead_X8_isPerson : GoodIn wsX8_metAhead wsX8_isPerson := goodIn_r _ [6, 7, 13, 14, 15, 16, 17, 18, 19, 20, 21, 22, 23] (by decide +kernel) (by decide +kernel)
set_option maxRecDepth 20000 in
theorem gX8_metAhead_X8_isPerson : GoodIn wsX8_metAhead (wsV RX8 62 RX8 yX8_isPerson wsX8_isPerson) := goodIn_app (goodIn_of _ (by decide +kernel)) ggX8_metAhead_X8_isPerson
set_option maxRecDepth 20000 in
theorem ggX8_metAhead_X8_isHour : GoodIn wsX8_metAhead wsX8_isHour := goodIn_r _ [11, 12, 13, 14, 15, 16, 17, 18, 19, 20, 21, 22, 23] (by decide +kernel) (by decide +kernel)
set_option maxRecDepth 20000 in
theorem gX8_metAhead_X8_isHour : GoodIn wsX8_metAhead (wsV RX8 65 RX8 yX8_isHour wsX8_isHour) := goodIn_app (goodIn_of _ (by decide +kernel)) ggX8_metAhead_X8_isHour
theorem dX8_metAhead_0 : decode cX8_metAhead 0 = .ok (.iconst 0, 1) := by decide +kernel
theorem dX8_metAhead_1 : decode cX8_metAhead 1 = .ok (.istore 4, 2) := by decide +kernel
theorem dX8_metAhead_3 : decode cX8_metAhead 3 = .ok (.aload_n 0, 1) := by decide +kernel
theorem dX8_metAhead_4 : decode cX8_metAhead 4 = .ok (.iload_n 1, 1) := by decide +kernel
theorem dX8_metAhead_5 : decode cX8_metAhead 5 = .ok (.invokevirtual 62, 3) := by decide +kernel
theorem dX8_metAhead_8 : decode cX8_metAhead 8 = .ok (.ifCond .eq 19, 3) := by decide +kernel
theorem dX8_metAhead_11 : decode cX8_metAhead 11 = .ok (.aload_n 0, 1) := by decide +kernel
theorem dX8_metAhead_12 : decode cX8_metAhead 12 = .ok (.iload_n 2, 1) := by decide +kernel
theorem dX8_metAhead_13 : decode cX8_metAhead 13 = .ok (.invokevirtual 62, 3) := by decide +kernel
theorem dX8_metAhead_16 : decode cX8_metAhead 16 = .ok (.ifCond .eq 11, 3) := by decide +kernel
theorem dX8_metAhead_19 : decode cX8_metAhead 19 = .ok (.aload_n 0, 1) := by decide +kernel
theorem dX8_metAhead_20 : decode cX8_metAhead 20 = .ok (.iload_n 3, 1) := by decide +kernel
theorem dX8_metAhead_21 : decode cX8_metAhead 21 = .ok (.invokevirtual 65, 3) := by decide +kernel
theorem dX8_metAhead_24 : decode cX8_metAhead 24 = .ok (.ifCond .ne 6, 3) := by decide +kernel
theorem dX8_metAhead_27 : decode cX8_metAhead 27 = .ok (.iload 4, 2) := by decide +kernel
theorem dX8_metAhead_29 : decode cX8_metAhead 29 = .ok (.ireturn, 1) := by decide +kernel
theorem dX8_metAhead_30 : decode cX8_metAhead 30 = .ok (.iconst 0, 1) := by decide +kernel
theorem dX8_metAhead_31 : decode cX8_metAhead 31 = .ok (.istore 5, 2) := by decide +kernel
theorem dX8_metAhead_33 : decode cX8_metAhead 33 = .ok (.iload 5, 2) := by decide +kernel
theorem dX8_metAhead_35 : decode cX8_metAhead 35 = .ok (.iload_n 3, 1) := by decide +kernel
theorem dX8_metAhead_36 : decode cX8_metAhead 36 = .ok (.if_icmp .ge 50, 3) := by decide +kernel
theorem dX8_metAhead_39 : decode cX8_metAhead 39 = .ok (.aload_n 0, 1) := by decide +kernel
theorem dX8_metAhead_40 : decode cX8_metAhead 40 = .ok (.getfield 40, 3) := by decide +kernel
theorem dX8_metAhead_43 : decode cX8_metAhead 43 = .ok (.iload_n 1, 1) := by decide +kernel
theorem dX8_metAhead_44 : decode cX8_metAhead 44 = .ok (.bipush 12, 2) := by decide +kernel
theorem dX8_metAhead_46 : decode cX8_metAhead 46 = .ok (.imul, 1) := by decide +kernel
theorem dX8_metAhead_47 : decode cX8_metAhead 47 = .ok (.iload 5, 2) := by decide +kernel
theorem dX8_metAhead_49 : decode cX8_metAhead 49 = .ok (.iadd, 1) := by decide +kernel
theorem dX8_metAhead_50 : decode cX8_metAhead 50 = .ok (.iaload, 1) := by decide +kernel
theorem dX8_metAhead_51 : decode cX8_metAhead 51 = .ok (.istore 6, 2) := by decide +kernel
theorem dX8_metAhead_53 : decode cX8_metAhead 53 = .ok (.iload 6, 2) := by decide +kernel
theorem dX8_metAhead_55 : decode cX8_metAhead 55 = .ok (.bipush 99, 2) := by decide +kernel
theorem dX8_metAhead_57 : decode cX8_metAhead 57 = .ok (.if_icmp .eq 23, 3) := by decide +kernel
theorem dX8_metAhead_60 : decode cX8_metAhead 60 = .ok (.iload 6, 2) := by decide +kernel
theorem dX8_metAhead_62 : decode cX8_metAhead 62 = .ok (.aload_n 0, 1) := by decide +kernel
theorem dX8_metAhead_63 : decode cX8_metAhead 63 = .ok (.getfield 40, 3) := by decide +kernel
theorem dX8_metAhead_66 : decode cX8_metAhead 66 = .ok (.iload_n 2, 1) := by decide +kernel
theorem dX8_metAhead_67 : decode cX8_metAhead 67 = .ok (.bipush 12, 2) := by decide +kernel
theorem dX8_metAhead_69 : decode cX8_metAhead 69 = .ok (.imul, 1) := by decide +kernel
theorem dX8_metAhead_70 : decode cX8_metAhead 70 = .ok (.iload 5, 2) := by decide +kernel
theorem dX8_metAhead_72 : decode cX8_metAhead 72 = .ok (.iadd, 1) := by decide +kernel
theorem dX8_metAhead_73 : decode cX8_metAhead 73 = .ok (.iaload, 1) := by decide +kernel
theorem dX8_metAhead_74 : decode cX8_metAhead 74 = .ok (.if_icmp .ne 6, 3) := by decide +kernel
theorem dX8_metAhead_77 : decode cX8_metAhead 77 = .ok (.iinc 4 1, 3) := by decide +kernel
theorem dX8_metAhead_80 : decode cX8_metAhead 80 = .ok (.iinc 5 1, 3) := by decide +kernel
theorem dX8_metAhead_83 : decode cX8_metAhead 83 = .ok (.goto (-50), 3) := by decide +kernel
theorem dX8_metAhead_86 : decode cX8_metAhead 86 = .ok (.iload 4, 2) := by decide +kernel
theorem dX8_metAhead_88 : decode cX8_metAhead 88 = .ok (.ireturn, 1) := by decide +kernel
set_option maxRecDepth 20000 in
theorem ggX8_company_X8_placeOf : GoodIn wsX8_company wsX8_placeOf := goodIn_r _ [6, 7, 8, 9, 10, 5, 11, 12, 13, 14, 15, 16, 1, 27, 28, 29, 30, 31, 32, 33, 34, 35, 36, 37] (by decide +kernel) (by decide +kernel)
set_option maxRecDepth 20000 in
theorem gX8_company_X8_placeOf : GoodIn wsX8_company (wsV RX8 71 RX8 yX8_placeOf wsX8_placeOf) := goodIn_app (goodIn_of _ (by decide +kernel)) ggX8_company_X8_placeOf
set_option maxRecDepth 20000 in
theorem ggX8_company_X8_those : GoodIn wsX8_company wsX8_those := goodIn_r _ [20, 21, 22, 23, 24, 5, 25, 26, 13, 14, 15, 16, 1, 27, 28, 29, 30, 31, 32, 33, 34, 35, 36, 37] (by decide +kernel) (by decide +kernel)
set_option maxRecDepth 20000 in
theorem gX8_company_X8_those : GoodIn wsX8_company (wsV RX8 75 RX8 yX8_those wsX8_those) := goodIn_app (goodIn_of _ (by decide +kernel)) ggX8_company_X8_those
theorem dX8_company_0 : decode cX8_company 0 = .ok (.iconst 0, 1) := by decide +kernel
theorem dX8_company_1 : decode cX8_company 1 = .ok (.istore_n 2, 1) := by decide +kernel
theorem dX8_company_2 : decode cX8_company 2 = .ok (.iconst 0, 1) := by decide +kernel
theorem dX8_company_3 : decode cX8_company 3 = .ok (.istore_n 3, 1) := by decide +kernel
theorem dX8_company_4 : decode cX8_company 4 = .ok (.iload_n 3, 1) := by decide +kernel
theorem dX8_company_5 : decode cX8_company 5 = .ok (.aload_n 0, 1) := by decide +kernel
theorem dX8_company_6 : decode cX8_company 6 = .ok (.getfield 15, 3) := by decide +kernel
theorem dX8_company_9 : decode cX8_company 9 = .ok (.if_icmp .ge 23, 3) := by decide +kernel
theorem dX8_company_12 : decode cX8_company 12 = .ok (.iload_n 2, 1) := by decide +kernel
theorem dX8_company_13 : decode cX8_company 13 = .ok (.aload_n 0, 1) := by decide +kernel
theorem dX8_company_14 : decode cX8_company 14 = .ok (.aload_n 0, 1) := by decide +kernel
theorem dX8_company_15 : decode cX8_company 15 = .ok (.iload_n 1, 1) := by decide +kernel
theorem dX8_company_16 : decode cX8_company 16 = .ok (.iload_n 3, 1) := by decide +kernel
theorem dX8_company_17 : decode cX8_company 17 = .ok (.invokevirtual 71, 3) := by decide +kernel
theorem dX8_company_20 : decode cX8_company 20 = .ok (.iload_n 3, 1) := by decide +kernel
theorem dX8_company_21 : decode cX8_company 21 = .ok (.invokevirtual 75, 3) := by decide +kernel
theorem dX8_company_24 : decode cX8_company 24 = .ok (.ior, 1) := by decide +kernel
theorem dX8_company_25 : decode cX8_company 25 = .ok (.istore_n 2, 1) := by decide +kernel
theorem dX8_company_26 : decode cX8_company 26 = .ok (.iinc 3 1, 3) := by decide +kernel
theorem dX8_company_29 : decode cX8_company 29 = .ok (.goto (-25), 3) := by decide +kernel
theorem dX8_company_32 : decode cX8_company 32 = .ok (.iload_n 2, 1) := by decide +kernel
theorem dX8_company_33 : decode cX8_company 33 = .ok (.iconst 1, 1) := by decide +kernel
theorem dX8_company_34 : decode cX8_company 34 = .ok (.iload_n 1, 1) := by decide +kernel
theorem dX8_company_35 : decode cX8_company 35 = .ok (.ishl, 1) := by decide +kernel
theorem dX8_company_36 : decode cX8_company 36 = .ok (.iconst (-1), 1) := by decide +kernel
theorem dX8_company_37 : decode cX8_company 37 = .ok (.ixor, 1) := by decide +kernel
theorem dX8_company_38 : decode cX8_company 38 = .ok (.iand, 1) := by decide +kernel
theorem dX8_company_39 : decode cX8_company 39 = .ok (.ireturn, 1) := by decide +kernel
set_option maxRecDepth 20000 in
theorem ggX8_meetingTwos_X8_company : GoodIn wsX8_meetingTwos wsX8_company := goodIn_r _ [6, 7, 8, 9, 10, 5, 11, 12, 13, 14, 15, 16, 1, 17, 18, 19, 20, 21, 22, 23, 24, 25, 26, 27, 28, 29, 30, 38, 39, 40, 41, 42, 43, 44, 45, 46, 47, 48] (by decide +kernel) (by decide +kernel)
set_option maxRecDepth 20000 in
theorem gX8_meetingTwos_X8_company : GoodIn wsX8_meetingTwos (wsV RX8 78 RX8 yX8_company wsX8_company) := goodIn_app (goodIn_of _ (by decide +kernel)) ggX8_meetingTwos_X8_company
set_option maxRecDepth 20000 in
theorem ggX8_meetingTwos_J6_bitCount_0f7a4 : GoodIn wsX8_meetingTwos wsJ6_bitCount_0f7a4 := goodIn_r _ [34, 35, 36, 37] (by decide +kernel) (by decide +kernel)
set_option maxRecDepth 20000 in
theorem gX8_meetingTwos_J6_bitCount_0f7a4 : GoodIn wsX8_meetingTwos (va_wsS RX8 82 yJ6_bitCount_0f7a4 wsJ6_bitCount_0f7a4) := goodIn_app (goodIn_of _ (by decide +kernel)) ggX8_meetingTwos_J6_bitCount_0f7a4
theorem dX8_meetingTwos_0 : decode cX8_meetingTwos 0 = .ok (.iconst 0, 1) := by decide +kernel
theorem dX8_meetingTwos_1 : decode cX8_meetingTwos 1 = .ok (.istore_n 1, 1) := by decide +kernel
theorem dX8_meetingTwos_2 : decode cX8_meetingTwos 2 = .ok (.iconst 0, 1) := by decide +kernel
theorem dX8_meetingTwos_3 : decode cX8_meetingTwos 3 = .ok (.istore_n 2, 1) := by decide +kernel
theorem dX8_meetingTwos_4 : decode cX8_meetingTwos 4 = .ok (.iload_n 2, 1) := by decide +kernel
theorem dX8_meetingTwos_5 : decode cX8_meetingTwos 5 = .ok (.aload_n 0, 1) := by decide +kernel
theorem dX8_meetingTwos_6 : decode cX8_meetingTwos 6 = .ok (.getfield 18, 3) := by decide +kernel
theorem dX8_meetingTwos_9 : decode cX8_meetingTwos 9 = .ok (.if_icmp .ge 20, 3) := by decide +kernel
theorem dX8_meetingTwos_12 : decode cX8_meetingTwos 12 = .ok (.iload_n 1, 1) := by decide +kernel
theorem dX8_meetingTwos_13 : decode cX8_meetingTwos 13 = .ok (.aload_n 0, 1) := by decide +kernel
theorem dX8_meetingTwos_14 : decode cX8_meetingTwos 14 = .ok (.iload_n 2, 1) := by decide +kernel
theorem dX8_meetingTwos_15 : decode cX8_meetingTwos 15 = .ok (.invokevirtual 78, 3) := by decide +kernel
theorem dX8_meetingTwos_18 : decode cX8_meetingTwos 18 = .ok (.invokestatic 82, 3) := by decide +kernel
theorem dX8_meetingTwos_21 : decode cX8_meetingTwos 21 = .ok (.iadd, 1) := by decide +kernel
theorem dX8_meetingTwos_22 : decode cX8_meetingTwos 22 = .ok (.istore_n 1, 1) := by decide +kernel
theorem dX8_meetingTwos_23 : decode cX8_meetingTwos 23 = .ok (.iinc 2 1, 3) := by decide +kernel
theorem dX8_meetingTwos_26 : decode cX8_meetingTwos 26 = .ok (.goto (-22), 3) := by decide +kernel
theorem dX8_meetingTwos_29 : decode cX8_meetingTwos 29 = .ok (.iload_n 1, 1) := by decide +kernel
theorem dX8_meetingTwos_30 : decode cX8_meetingTwos 30 = .ok (.iconst 2, 1) := by decide +kernel
theorem dX8_meetingTwos_31 : decode cX8_meetingTwos 31 = .ok (.idiv, 1) := by decide +kernel
theorem dX8_meetingTwos_32 : decode cX8_meetingTwos 32 = .ok (.ireturn, 1) := by decide +kernel
theorem dX8_giftOf_0 : decode cX8_giftOf 0 = .ok (.aload_n 0, 1) := by decide +kernel
theorem dX8_giftOf_1 : decode cX8_giftOf 1 = .ok (.getfield 27, 3) := by decide +kernel
theorem dX8_giftOf_4 : decode cX8_giftOf 4 = .ok (.iload_n 1, 1) := by decide +kernel
theorem dX8_giftOf_5 : decode cX8_giftOf 5 = .ok (.ishr, 1) := by decide +kernel
theorem dX8_giftOf_6 : decode cX8_giftOf 6 = .ok (.iconst 1, 1) := by decide +kernel
theorem dX8_giftOf_7 : decode cX8_giftOf 7 = .ok (.iand, 1) := by decide +kernel
theorem dX8_giftOf_8 : decode cX8_giftOf 8 = .ok (.ifCond .eq 5, 3) := by decide +kernel
theorem dX8_giftOf_11 : decode cX8_giftOf 11 = .ok (.iconst 0, 1) := by decide +kernel
theorem dX8_giftOf_12 : decode cX8_giftOf 12 = .ok (.ireturn, 1) := by decide +kernel
theorem dX8_giftOf_13 : decode cX8_giftOf 13 = .ok (.aload_n 0, 1) := by decide +kernel
theorem dX8_giftOf_14 : decode cX8_giftOf 14 = .ok (.getfield 30, 3) := by decide +kernel
theorem dX8_giftOf_17 : decode cX8_giftOf 17 = .ok (.iload_n 1, 1) := by decide +kernel
theorem dX8_giftOf_18 : decode cX8_giftOf 18 = .ok (.ishr, 1) := by decide +kernel
theorem dX8_giftOf_19 : decode cX8_giftOf 19 = .ok (.iconst 1, 1) := by decide +kernel
theorem dX8_giftOf_20 : decode cX8_giftOf 20 = .ok (.iand, 1) := by decide +kernel
theorem dX8_giftOf_21 : decode cX8_giftOf 21 = .ok (.ifCond .eq 7, 3) := by decide +kernel
theorem dX8_giftOf_24 : decode cX8_giftOf 24 = .ok (.iconst 1, 1) := by decide +kernel
theorem dX8_giftOf_25 : decode cX8_giftOf 25 = .ok (.goto 4, 3) := by decide +kernel
theorem dX8_giftOf_28 : decode cX8_giftOf 28 = .ok (.iconst 2, 1) := by decide +kernel
theorem dX8_giftOf_29 : decode cX8_giftOf 29 = .ok (.istore_n 2, 1) := by decide +kernel
theorem dX8_giftOf_30 : decode cX8_giftOf 30 = .ok (.aload_n 0, 1) := by decide +kernel
theorem dX8_giftOf_31 : decode cX8_giftOf 31 = .ok (.getfield 24, 3) := by decide +kernel
theorem dX8_giftOf_34 : decode cX8_giftOf 34 = .ok (.iload_n 1, 1) := by decide +kernel
theorem dX8_giftOf_35 : decode cX8_giftOf 35 = .ok (.ishr, 1) := by decide +kernel
theorem dX8_giftOf_36 : decode cX8_giftOf 36 = .ok (.iconst 1, 1) := by decide +kernel
theorem dX8_giftOf_37 : decode cX8_giftOf 37 = .ok (.iand, 1) := by decide +kernel
theorem dX8_giftOf_38 : decode cX8_giftOf 38 = .ok (.ifCond .eq 8, 3) := by decide +kernel
theorem dX8_giftOf_41 : decode cX8_giftOf 41 = .ok (.iload_n 2, 1) := by decide +kernel
theorem dX8_giftOf_42 : decode cX8_giftOf 42 = .ok (.ineg, 1) := by decide +kernel
theorem dX8_giftOf_43 : decode cX8_giftOf 43 = .ok (.goto 4, 3) := by decide +kernel
theorem dX8_giftOf_46 : decode cX8_giftOf 46 = .ok (.iload_n 2, 1) := by decide +kernel
theorem dX8_giftOf_47 : decode cX8_giftOf 47 = .ok (.ireturn, 1) := by decide +kernel
set_option maxRecDepth 20000 in
theorem ggX8_passedOn_X8_those : GoodIn wsX8_passedOn wsX8_those := goodIn_r _ [6, 7, 8, 9, 10, 5, 11, 1, 12, 13, 14, 15, 16, 17, 18, 19, 20, 21, 22, 23, 24, 25, 26, 27] (by decide +kernel) (by decide +kernel)
set_option maxRecDepth 20000 in
theorem gX8_passedOn_X8_those : GoodIn wsX8_passedOn (wsV RX8 75 RX8 yX8_those wsX8_those) := goodIn_app (goodIn_of _ (by decide +kernel)) ggX8_passedOn_X8_those
theorem dX8_passedOn_0 : decode cX8_passedOn 0 = .ok (.iload_n 1, 1) := by decide +kernel
theorem dX8_passedOn_1 : decode cX8_passedOn 1 = .ok (.istore_n 3, 1) := by decide +kernel
theorem dX8_passedOn_2 : decode cX8_passedOn 2 = .ok (.iconst 0, 1) := by decide +kernel
theorem dX8_passedOn_3 : decode cX8_passedOn 3 = .ok (.istore 4, 2) := by decide +kernel
theorem dX8_passedOn_5 : decode cX8_passedOn 5 = .ok (.iload 4, 2) := by decide +kernel
theorem dX8_passedOn_7 : decode cX8_passedOn 7 = .ok (.aload_n 0, 1) := by decide +kernel
theorem dX8_passedOn_8 : decode cX8_passedOn 8 = .ok (.getfield 9, 3) := by decide +kernel
theorem dX8_passedOn_11 : decode cX8_passedOn 11 = .ok (.if_icmp .ge 30, 3) := by decide +kernel
theorem dX8_passedOn_14 : decode cX8_passedOn 14 = .ok (.aload_n 0, 1) := by decide +kernel
theorem dX8_passedOn_15 : decode cX8_passedOn 15 = .ok (.iload 4, 2) := by decide +kernel
theorem dX8_passedOn_17 : decode cX8_passedOn 17 = .ok (.iload_n 2, 1) := by decide +kernel
theorem dX8_passedOn_18 : decode cX8_passedOn 18 = .ok (.invokevirtual 75, 3) := by decide +kernel
theorem dX8_passedOn_21 : decode cX8_passedOn 21 = .ok (.istore 5, 2) := by decide +kernel
theorem dX8_passedOn_23 : decode cX8_passedOn 23 = .ok (.iload 5, 2) := by decide +kernel
theorem dX8_passedOn_25 : decode cX8_passedOn 25 = .ok (.iload_n 1, 1) := by decide +kernel
theorem dX8_passedOn_26 : decode cX8_passedOn 26 = .ok (.iand, 1) := by decide +kernel
theorem dX8_passedOn_27 : decode cX8_passedOn 27 = .ok (.ifCond .eq 8, 3) := by decide +kernel
theorem dX8_passedOn_30 : decode cX8_passedOn 30 = .ok (.iload_n 3, 1) := by decide +kernel
theorem dX8_passedOn_31 : decode cX8_passedOn 31 = .ok (.iload 5, 2) := by decide +kernel
theorem dX8_passedOn_33 : decode cX8_passedOn 33 = .ok (.ior, 1) := by decide +kernel
theorem dX8_passedOn_34 : decode cX8_passedOn 34 = .ok (.istore_n 3, 1) := by decide +kernel
theorem dX8_passedOn_35 : decode cX8_passedOn 35 = .ok (.iinc 4 1, 3) := by decide +kernel
theorem dX8_passedOn_38 : decode cX8_passedOn 38 = .ok (.goto (-33), 3) := by decide +kernel
theorem dX8_passedOn_41 : decode cX8_passedOn 41 = .ok (.iload_n 3, 1) := by decide +kernel
theorem dX8_passedOn_42 : decode cX8_passedOn 42 = .ok (.ireturn, 1) := by decide +kernel
set_option maxRecDepth 20000 in
theorem ggX8_islandOf_X8_passedOn : GoodIn wsX8_islandOf wsX8_passedOn := goodIn_r _ [7, 8, 9, 10, 11, 6, 12, 13, 14, 15, 16, 17, 18, 19, 20, 21, 2, 22, 23, 24, 25, 26, 27, 28, 29, 30, 31, 32] (by decide +kernel) (by decide +kernel)
set_option maxRecDepth 20000 in
theorem gX8_islandOf_X8_passedOn : GoodIn wsX8_islandOf (wsV RX8 87 RX8 yX8_passedOn wsX8_passedOn) := goodIn_app (goodIn_of _ (by decide +kernel)) ggX8_islandOf_X8_passedOn
theorem dX8_islandOf_0 : decode cX8_islandOf 0 = .ok (.iconst 1, 1) := by decide +kernel
theorem dX8_islandOf_1 : decode cX8_islandOf 1 = .ok (.iload_n 1, 1) := by decide +kernel
theorem dX8_islandOf_2 : decode cX8_islandOf 2 = .ok (.ishl, 1) := by decide +kernel
theorem dX8_islandOf_3 : decode cX8_islandOf 3 = .ok (.istore_n 2, 1) := by decide +kernel
theorem dX8_islandOf_4 : decode cX8_islandOf 4 = .ok (.iconst 0, 1) := by decide +kernel
theorem dX8_islandOf_5 : decode cX8_islandOf 5 = .ok (.istore_n 3, 1) := by decide +kernel
theorem dX8_islandOf_6 : decode cX8_islandOf 6 = .ok (.iload_n 3, 1) := by decide +kernel
theorem dX8_islandOf_7 : decode cX8_islandOf 7 = .ok (.aload_n 0, 1) := by decide +kernel
theorem dX8_islandOf_8 : decode cX8_islandOf 8 = .ok (.getfield 18, 3) := by decide +kernel
theorem dX8_islandOf_11 : decode cX8_islandOf 11 = .ok (.if_icmp .ge 35, 3) := by decide +kernel
theorem dX8_islandOf_14 : decode cX8_islandOf 14 = .ok (.iconst 0, 1) := by decide +kernel
theorem dX8_islandOf_15 : decode cX8_islandOf 15 = .ok (.istore 4, 2) := by decide +kernel
theorem dX8_islandOf_17 : decode cX8_islandOf 17 = .ok (.iload 4, 2) := by decide +kernel
theorem dX8_islandOf_19 : decode cX8_islandOf 19 = .ok (.aload_n 0, 1) := by decide +kernel
theorem dX8_islandOf_20 : decode cX8_islandOf 20 = .ok (.getfield 15, 3) := by decide +kernel
theorem dX8_islandOf_23 : decode cX8_islandOf 23 = .ok (.if_icmp .ge 17, 3) := by decide +kernel
theorem dX8_islandOf_26 : decode cX8_islandOf 26 = .ok (.aload_n 0, 1) := by decide +kernel
theorem dX8_islandOf_27 : decode cX8_islandOf 27 = .ok (.iload_n 2, 1) := by decide +kernel
theorem dX8_islandOf_28 : decode cX8_islandOf 28 = .ok (.iload 4, 2) := by decide +kernel
theorem dX8_islandOf_30 : decode cX8_islandOf 30 = .ok (.invokevirtual 87, 3) := by decide +kernel
theorem dX8_islandOf_33 : decode cX8_islandOf 33 = .ok (.istore_n 2, 1) := by decide +kernel
theorem dX8_islandOf_34 : decode cX8_islandOf 34 = .ok (.iinc 4 1, 3) := by decide +kernel
theorem dX8_islandOf_37 : decode cX8_islandOf 37 = .ok (.goto (-20), 3) := by decide +kernel
theorem dX8_islandOf_40 : decode cX8_islandOf 40 = .ok (.iinc 3 1, 3) := by decide +kernel
theorem dX8_islandOf_43 : decode cX8_islandOf 43 = .ok (.goto (-37), 3) := by decide +kernel
theorem dX8_islandOf_46 : decode cX8_islandOf 46 = .ok (.iload_n 2, 1) := by decide +kernel
theorem dX8_islandOf_47 : decode cX8_islandOf 47 = .ok (.ireturn, 1) := by decide +kernel
set_option maxRecDepth 20000 in
theorem ggX8_scatter_X8_nextDraw : GoodIn wsX8_scatter wsX8_nextDraw := goodIn_r _ [7, 8, 9] (by decide +kernel) (by decide +kernel)
set_option maxRecDepth 20000 in
theorem gX8_scatter_X8_nextDraw : GoodIn wsX8_scatter (va_wsS RX8 90 yX8_nextDraw wsX8_nextDraw) := goodIn_app (goodIn_of _ (by decide +kernel)) ggX8_scatter_X8_nextDraw
set_option maxRecDepth 20000 in
theorem ggX8_scatter_X8_moveTo : GoodIn wsX8_scatter wsX8_moveTo := goodIn_r _ [13, 14, 15, 16, 17, 18, 6, 19, 1, 20, 21, 22, 23, 2, 24, 25, 26, 27, 28, 29, 30, 31, 3, 32, 33, 34, 35, 36, 37, 38, 39, 40, 41, 42] (by decide +kernel) (by decide +kernel)
set_option maxRecDepth 20000 in
theorem gX8_scatter_X8_moveTo : GoodIn wsX8_scatter (wsV RX8 93 RX8 yX8_moveTo wsX8_moveTo) := goodIn_app (goodIn_of _ (by decide +kernel)) ggX8_scatter_X8_moveTo
theorem dX8_scatter_0 : decode cX8_scatter 0 = .ok (.iload_n 1, 1) := by decide +kernel
theorem dX8_scatter_1 : decode cX8_scatter 1 = .ok (.istore_n 3, 1) := by decide +kernel
theorem dX8_scatter_2 : decode cX8_scatter 2 = .ok (.iconst 0, 1) := by decide +kernel
theorem dX8_scatter_3 : decode cX8_scatter 3 = .ok (.istore 4, 2) := by decide +kernel
theorem dX8_scatter_5 : decode cX8_scatter 5 = .ok (.iload 4, 2) := by decide +kernel
theorem dX8_scatter_7 : decode cX8_scatter 7 = .ok (.aload_n 0, 1) := by decide +kernel
theorem dX8_scatter_8 : decode cX8_scatter 8 = .ok (.getfield 18, 3) := by decide +kernel
theorem dX8_scatter_11 : decode cX8_scatter 11 = .ok (.if_icmp .ge 85, 3) := by decide +kernel
theorem dX8_scatter_14 : decode cX8_scatter 14 = .ok (.iconst 0, 1) := by decide +kernel
theorem dX8_scatter_15 : decode cX8_scatter 15 = .ok (.istore 5, 2) := by decide +kernel
theorem dX8_scatter_17 : decode cX8_scatter 17 = .ok (.iload 5, 2) := by decide +kernel
theorem dX8_scatter_19 : decode cX8_scatter 19 = .ok (.aload_n 0, 1) := by decide +kernel
theorem dX8_scatter_20 : decode cX8_scatter 20 = .ok (.getfield 15, 3) := by decide +kernel
theorem dX8_scatter_23 : decode cX8_scatter 23 = .ok (.if_icmp .ge 67, 3) := by decide +kernel
theorem dX8_scatter_26 : decode cX8_scatter 26 = .ok (.iload_n 3, 1) := by decide +kernel
theorem dX8_scatter_27 : decode cX8_scatter 27 = .ok (.invokestatic 90, 3) := by decide +kernel
theorem dX8_scatter_30 : decode cX8_scatter 30 = .ok (.istore_n 3, 1) := by decide +kernel
theorem dX8_scatter_31 : decode cX8_scatter 31 = .ok (.iload_n 3, 1) := by decide +kernel
theorem dX8_scatter_32 : decode cX8_scatter 32 = .ok (.bipush 16, 2) := by decide +kernel
theorem dX8_scatter_34 : decode cX8_scatter 34 = .ok (.ishr, 1) := by decide +kernel
theorem dX8_scatter_35 : decode cX8_scatter 35 = .ok (.bipush 100, 2) := by decide +kernel
theorem dX8_scatter_37 : decode cX8_scatter 37 = .ok (.irem, 1) := by decide +kernel
theorem dX8_scatter_38 : decode cX8_scatter 38 = .ok (.iload_n 2, 1) := by decide +kernel
theorem dX8_scatter_39 : decode cX8_scatter 39 = .ok (.if_icmp .ge 45, 3) := by decide +kernel
theorem dX8_scatter_42 : decode cX8_scatter 42 = .ok (.iload_n 3, 1) := by decide +kernel
theorem dX8_scatter_43 : decode cX8_scatter 43 = .ok (.invokestatic 90, 3) := by decide +kernel
theorem dX8_scatter_46 : decode cX8_scatter 46 = .ok (.istore_n 3, 1) := by decide +kernel
theorem dX8_scatter_47 : decode cX8_scatter 47 = .ok (.iload_n 3, 1) := by decide +kernel
theorem dX8_scatter_48 : decode cX8_scatter 48 = .ok (.bipush 16, 2) := by decide +kernel
theorem dX8_scatter_50 : decode cX8_scatter 50 = .ok (.ishr, 1) := by decide +kernel
theorem dX8_scatter_51 : decode cX8_scatter 51 = .ok (.aload_n 0, 1) := by decide +kernel
theorem dX8_scatter_52 : decode cX8_scatter 52 = .ok (.getfield 9, 3) := by decide +kernel
theorem dX8_scatter_55 : decode cX8_scatter 55 = .ok (.iconst 1, 1) := by decide +kernel
theorem dX8_scatter_56 : decode cX8_scatter 56 = .ok (.iadd, 1) := by decide +kernel
theorem dX8_scatter_57 : decode cX8_scatter 57 = .ok (.irem, 1) := by decide +kernel
theorem dX8_scatter_58 : decode cX8_scatter 58 = .ok (.istore 6, 2) := by decide +kernel
theorem dX8_scatter_60 : decode cX8_scatter 60 = .ok (.aload_n 0, 1) := by decide +kernel
theorem dX8_scatter_61 : decode cX8_scatter 61 = .ok (.iload 4, 2) := by decide +kernel
theorem dX8_scatter_63 : decode cX8_scatter 63 = .ok (.iload 5, 2) := by decide +kernel
theorem dX8_scatter_65 : decode cX8_scatter 65 = .ok (.iload 6, 2) := by decide +kernel
theorem dX8_scatter_67 : decode cX8_scatter 67 = .ok (.aload_n 0, 1) := by decide +kernel
theorem dX8_scatter_68 : decode cX8_scatter 68 = .ok (.getfield 9, 3) := by decide +kernel
theorem dX8_scatter_71 : decode cX8_scatter 71 = .ok (.if_icmp .ne 8, 3) := by decide +kernel
theorem dX8_scatter_74 : decode cX8_scatter 74 = .ok (.bipush 99, 2) := by decide +kernel
theorem dX8_scatter_76 : decode cX8_scatter 76 = .ok (.goto 5, 3) := by decide +kernel
theorem dX8_scatter_79 : decode cX8_scatter 79 = .ok (.iload 6, 2) := by decide +kernel
theorem dX8_scatter_81 : decode cX8_scatter 81 = .ok (.invokevirtual 93, 3) := by decide +kernel
theorem dX8_scatter_84 : decode cX8_scatter 84 = .ok (.iinc 5 1, 3) := by decide +kernel
theorem dX8_scatter_87 : decode cX8_scatter 87 = .ok (.goto (-70), 3) := by decide +kernel
theorem dX8_scatter_90 : decode cX8_scatter 90 = .ok (.iinc 4 1, 3) := by decide +kernel
theorem dX8_scatter_93 : decode cX8_scatter 93 = .ok (.goto (-88), 3) := by decide +kernel
theorem dX8_scatter_96 : decode cX8_scatter 96 = .ok (.iload_n 3, 1) := by decide +kernel
theorem dX8_scatter_97 : decode cX8_scatter 97 = .ok (.ireturn, 1) := by decide +kernel
theorem dX8_nextDraw_0 : decode cX8_nextDraw 0 = .ok (.iload_n 0, 1) := by decide +kernel
theorem dX8_nextDraw_1 : decode cX8_nextDraw 1 = .ok (.ldc 97, 2) := by decide +kernel
theorem dX8_nextDraw_3 : decode cX8_nextDraw 3 = .ok (.imul, 1) := by decide +kernel
theorem dX8_nextDraw_4 : decode cX8_nextDraw 4 = .ok (.sipush 12345, 3) := by decide +kernel
theorem dX8_nextDraw_7 : decode cX8_nextDraw 7 = .ok (.iadd, 1) := by decide +kernel
theorem dX8_nextDraw_8 : decode cX8_nextDraw 8 = .ok (.ldc 98, 2) := by decide +kernel
theorem dX8_nextDraw_10 : decode cX8_nextDraw 10 = .ok (.iand, 1) := by decide +kernel
theorem dX8_nextDraw_11 : decode cX8_nextDraw 11 = .ok (.ireturn, 1) := by decide +kernel
set_option maxRecDepth 20000 in
theorem ggX9_init_X8_init : GoodIn wsX9_init wsX8_init := goodIn_r _ [11, 12, 2, 3, 13, 14, 15, 16, 17, 18, 19, 20, 21, 22, 23, 24, 25, 26, 27, 28, 29, 30, 31, 32, 33, 34, 35, 36, 37, 38, 39] (by decide +kernel) (by decide +kernel)
set_option maxRecDepth 20000 in
theorem gX9_init_X8_init : GoodIn wsX9_init (wsX8_init) := ggX9_init_X8_init
theorem dX9_init_0 : decode cX9_init 0 = .ok (.aload_n 0, 1) := by decide +kernel
theorem dX9_init_1 : decode cX9_init 1 = .ok (.invokespecial 3, 3) := by decide +kernel
theorem dX9_init_4 : decode cX9_init 4 = .ok (.aload_n 0, 1) := by decide +kernel
theorem dX9_init_5 : decode cX9_init 5 = .ok (.new 9, 3) := by decide +kernel
theorem dX9_init_8 : decode cX9_init 8 = .ok (.dup, 1) := by decide +kernel
theorem dX9_init_9 : decode cX9_init 9 = .ok (.invokespecial 11, 3) := by decide +kernel
theorem dX9_init_12 : decode cX9_init 12 = .ok (.putfield 12, 3) := by decide +kernel
theorem dX9_init_15 : decode cX9_init 15 = .ok (.aload_n 0, 1) := by decide +kernel
theorem dX9_init_16 : decode cX9_init 16 = .ok (.aload_n 1, 1) := by decide +kernel
theorem dX9_init_17 : decode cX9_init 17 = .ok (.putfield 18, 3) := by decide +kernel
theorem dX9_init_20 : decode cX9_init 20 = .ok (.return_, 1) := by decide +kernel
set_option maxRecDepth 20000 in
theorem ggX9_readTown_X8_clear : GoodIn wsX9_readTown wsX8_clear := goodIn_r _ [7, 8, 9, 10, 11, 12, 13, 14, 15, 16, 17, 18, 19, 20, 21, 22, 179, 180, 181, 182, 183, 184, 185, 186, 187, 188, 189] (by decide +kernel) (by decide +kernel)
set_option maxRecDepth 20000 in
theorem gX9_readTown_X8_clear : GoodIn wsX9_readTown (wsV RX9 22 RX8 yX8_clear wsX8_clear) := goodIn_app (goodIn_of _ (by decide +kernel)) ggX9_readTown_X8_clear
set_option maxRecDepth 20000 in
theorem ggX9_readTown_X7_startReading : GoodIn wsX9_readTown wsX7_startReading := goodIn_r _ [27, 28, 29, 30, 190, 191, 192, 193, 194] (by decide +kernel) (by decide +kernel)
set_option maxRecDepth 20000 in
theorem gX9_readTown_X7_startReading : GoodIn wsX9_readTown (wsV RX9 25 RX7 yX7_startReading wsX7_startReading) := goodIn_app (goodIn_of _ (by decide +kernel)) ggX9_readTown_X7_startReading
set_option maxRecDepth 20000 in
theorem ggX9_readTown_X9_readClause : GoodIn wsX9_readTown wsX9_readClause := goodIn_r _ [35, 2, 36, 1, 37, 38, 39, 40, 41, 26, 42, 28, 43, 44, 29, 45, 46, 47, 48, 49, 50, 51, 52, 53, 54, 55, 56, 57, 58, 59, 60, 61, 62, 63, 64, 65, 66, 67, 68, 69, 70, 71, 72, 73, 74, 75, 76, 77, 78, 79, 80, 81, 82, 83, 84, 85, 86, 87, 88, 89, 90, 91, 92, 93, 94, 95, 96, 97, 98, 99, 100, 101, 30, 102, 103, 104, 34, 105, 106, 107, 108, 109, 110, 111, 112, 113, 114, 115, 116, 117, 118, 119, 120, 121, 122, 123, 124, 125, 126, 127, 128, 129, 130, 6, 131, 8, 132, 133, 134, 135, 17, 18, 136, 137, 138, 139, 10, 140, 141, 142, 143, 9, 144, 145, 146, 147, 148, 149, 150, 151, 152, 153, 154, 155, 156, 16, 157, 158, 159, 160, 161, 162, 163, 164, 177, 178, 190, 191, 192, 193, 194, 179, 180, 181, 182, 183, 184, 185, 186, 187, 188, 189] (by decide +kernel) (by decide +kernel)
set_option maxRecDepth 20000 in
theorem gX9_readTown_X9_readClause : GoodIn wsX9_readTown (wsV RX9 30 RX9 yX9_readClause wsX9_readClause) := goodIn_app (goodIn_of _ (by decide +kernel)) ggX9_readTown_X9_readClause
set_option maxRecDepth 20000 in
theorem ggX9_readTown_X7_isAtEnd : GoodIn wsX9_readTown wsX7_isAtEnd := goodIn_r _ [168, 28, 43, 45, 46, 47, 26, 48, 44, 190, 191, 192, 193, 194] (by decide +kernel) (by decide +kernel)
set_option maxRecDepth 20000 in
theorem gX9_readTown_X7_isAtEnd : GoodIn wsX9_readTown (wsV RX9 34 RX7 yX7_isAtEnd wsX7_isAtEnd) := goodIn_app (goodIn_of _ (by decide +kernel)) ggX9_readTown_X7_isAtEnd
set_option maxRecDepth 20000 in
theorem ggX9_readTown_X7_needSign : GoodIn wsX9_readTown wsX7_needSign := goodIn_r _ [172, 28, 173, 174, 175, 26, 176, 29, 45, 46, 47, 48, 43, 44, 49, 50, 51, 52, 53, 54, 55, 56, 57, 58, 59, 60, 116, 117, 118, 119, 61, 62, 63, 64, 65, 66, 67, 68, 69, 70, 71, 72, 73, 74, 75, 76, 77, 78, 79, 80, 81, 82, 83, 84, 85, 86, 87, 88, 89, 90, 91, 92, 93, 94, 95, 96, 97, 120, 99, 100, 101, 30, 190, 191, 192, 193, 194] (by decide +kernel) (by decide +kernel)
set_option maxRecDepth 20000 in
theorem gX9_readTown_X7_needSign : GoodIn wsX9_readTown (wsV RX9 40 RX7 yX7_needSign wsX7_needSign) := goodIn_app (goodIn_of _ (by decide +kernel)) ggX9_readTown_X7_needSign
theorem dX9_readTown_0 : decode cX9_readTown 0 = .ok (.aload_n 0, 1) := by decide +kernel
theorem dX9_readTown_1 : decode cX9_readTown 1 = .ok (.getfield 12, 3) := by decide +kernel
theorem dX9_readTown_4 : decode cX9_readTown 4 = .ok (.invokevirtual 22, 3) := by decide +kernel
theorem dX9_readTown_7 : decode cX9_readTown 7 = .ok (.aload_n 0, 1) := by decide +kernel
theorem dX9_readTown_8 : decode cX9_readTown 8 = .ok (.getfield 18, 3) := by decide +kernel
theorem dX9_readTown_11 : decode cX9_readTown 11 = .ok (.invokevirtual 25, 3) := by decide +kernel
theorem dX9_readTown_14 : decode cX9_readTown 14 = .ok (.iconst 0, 1) := by decide +kernel
theorem dX9_readTown_15 : decode cX9_readTown 15 = .ok (.istore_n 1, 1) := by decide +kernel
theorem dX9_readTown_16 : decode cX9_readTown 16 = .ok (.iload_n 1, 1) := by decide +kernel
theorem dX9_readTown_17 : decode cX9_readTown 17 = .ok (.bipush 40, 2) := by decide +kernel
theorem dX9_readTown_19 : decode cX9_readTown 19 = .ok (.if_icmp .gt 45, 3) := by decide +kernel
theorem dX9_readTown_22 : decode cX9_readTown 22 = .ok (.aload_n 0, 1) := by decide +kernel
theorem dX9_readTown_23 : decode cX9_readTown 23 = .ok (.iload_n 1, 1) := by decide +kernel
theorem dX9_readTown_24 : decode cX9_readTown 24 = .ok (.invokevirtual 30, 3) := by decide +kernel
theorem dX9_readTown_27 : decode cX9_readTown 27 = .ok (.ifCond .ne 5, 3) := by decide +kernel
theorem dX9_readTown_30 : decode cX9_readTown 30 = .ok (.iconst 0, 1) := by decide +kernel
theorem dX9_readTown_31 : decode cX9_readTown 31 = .ok (.ireturn, 1) := by decide +kernel
theorem dX9_readTown_32 : decode cX9_readTown 32 = .ok (.aload_n 0, 1) := by decide +kernel
theorem dX9_readTown_33 : decode cX9_readTown 33 = .ok (.getfield 18, 3) := by decide +kernel
theorem dX9_readTown_36 : decode cX9_readTown 36 = .ok (.invokevirtual 34, 3) := by decide +kernel
theorem dX9_readTown_39 : decode cX9_readTown 39 = .ok (.ifCond .eq 5, 3) := by decide +kernel
theorem dX9_readTown_42 : decode cX9_readTown 42 = .ok (.iconst 1, 1) := by decide +kernel
theorem dX9_readTown_43 : decode cX9_readTown 43 = .ok (.ireturn, 1) := by decide +kernel
theorem dX9_readTown_44 : decode cX9_readTown 44 = .ok (.aload_n 0, 1) := by decide +kernel
theorem dX9_readTown_45 : decode cX9_readTown 45 = .ok (.getfield 18, 3) := by decide +kernel
theorem dX9_readTown_48 : decode cX9_readTown 48 = .ok (.ldc 38, 2) := by decide +kernel
theorem dX9_readTown_50 : decode cX9_readTown 50 = .ok (.invokevirtual 40, 3) := by decide +kernel
theorem dX9_readTown_53 : decode cX9_readTown 53 = .ok (.ifCond .ne 5, 3) := by decide +kernel
theorem dX9_readTown_56 : decode cX9_readTown 56 = .ok (.iconst 0, 1) := by decide +kernel
theorem dX9_readTown_57 : decode cX9_readTown 57 = .ok (.ireturn, 1) := by decide +kernel
theorem dX9_readTown_58 : decode cX9_readTown 58 = .ok (.iinc 1 1, 3) := by decide +kernel
theorem dX9_readTown_61 : decode cX9_readTown 61 = .ok (.goto (-45), 3) := by decide +kernel
theorem dX9_readTown_64 : decode cX9_readTown 64 = .ok (.iconst 0, 1) := by decide +kernel
theorem dX9_readTown_65 : decode cX9_readTown 65 = .ok (.ireturn, 1) := by decide +kernel
set_option maxRecDepth 20000 in
theorem ggX9_readClause_X7_takeWord : GoodIn wsX9_readClause wsX7_takeWord := goodIn_r _ [10, 11, 12, 13, 14, 15, 16, 17, 9, 18, 19, 20, 21, 22, 23, 24, 25, 26, 27, 28, 29, 30, 31, 32, 33, 34, 35, 36, 37, 38, 39, 40, 41, 42, 43, 44, 45, 46, 47, 48, 49, 50, 51, 52, 53, 54, 55, 56, 57, 58, 59, 60, 61, 62, 63, 64, 65, 66, 67, 146, 147, 148, 149, 150] (by decide +kernel) (by decide +kernel)
set_option maxRecDepth 20000 in
theorem gX9_readClause_X7_takeWord : GoodIn wsX9_readClause (wsV RX9 46 RX7 yX7_takeWord wsX7_takeWord) := goodIn_app (goodIn_of _ (by decide +kernel)) ggX9_readClause_X7_takeWord
set_option maxRecDepth 20000 in
theorem ggX9_readClause_X7_blame : GoodIn wsX9_readClause wsX7_blame := goodIn_r _ [71, 72, 146, 147, 148, 149, 150] (by decide +kernel) (by decide +kernel)
set_option maxRecDepth 20000 in
theorem gX9_readClause_X7_blame : GoodIn wsX9_readClause (wsV RX9 54 RX7 yX7_blame wsX7_blame) := goodIn_app (goodIn_of _ (by decide +kernel)) ggX9_readClause_X7_blame
set_option maxRecDepth 20000 in
theorem ggX9_readClause_X9_readSize : GoodIn wsX9_readClause wsX9_readSize := goodIn_r _ [77, 1, 3, 78, 79, 80, 81, 82, 9, 83, 11, 14, 12, 15, 16, 17, 18, 13, 84, 85, 86, 87, 88, 89, 90, 91, 92, 69, 70, 71, 72, 144, 145, 151, 152, 153, 154, 155, 156, 157, 158, 159, 160, 161, 146, 147, 148, 149, 150] (by decide +kernel) (by decide +kernel)
set_option maxRecDepth 20000 in
theorem gX9_readClause_X9_readSize : GoodIn wsX9_readClause (wsV RX9 64 RX9 yX9_readSize wsX9_readSize) := goodIn_app (goodIn_of _ (by decide +kernel)) ggX9_readClause_X9_readSize
set_option maxRecDepth 20000 in
theorem ggX9_readClause_X9_readRow : GoodIn wsX9_readClause wsX9_readRow := goodIn_r _ [96, 3, 4, 1, 79, 2, 97, 16, 17, 9, 18, 11, 12, 13, 98, 85, 86, 87, 99, 89, 90, 91, 100, 101, 102, 103, 104, 105, 68, 69, 70, 71, 72, 106, 107, 108, 109, 110, 111, 112, 113, 114, 115, 116, 117, 118, 119, 120, 121, 122, 123, 124, 125, 126, 144, 145, 151, 152, 153, 154, 155, 156, 157, 158, 159, 160, 161, 146, 147, 148, 149, 150] (by decide +kernel) (by decide +kernel)
set_option maxRecDepth 20000 in
theorem gX9_readClause_X9_readRow : GoodIn wsX9_readClause (wsV RX9 67 RX9 yX9_readRow wsX9_readRow) := goodIn_app (goodIn_of _ (by decide +kernel)) ggX9_readClause_X9_readRow
set_option maxRecDepth 20000 in
theorem ggX9_readClause_X9_readKin : GoodIn wsX9_readClause wsX9_readKin := goodIn_r _ [130, 1, 3, 4, 5, 80, 81, 82, 9, 83, 11, 14, 12, 15, 16, 17, 18, 13, 84, 85, 86, 87, 88, 89, 90, 91, 92, 69, 70, 71, 72, 68, 131, 132, 133, 103, 134, 135, 112, 113, 114, 115, 116, 144, 145, 151, 152, 153, 154, 155, 156, 157, 158, 159, 160, 161, 146, 147, 148, 149, 150] (by decide +kernel) (by decide +kernel)
set_option maxRecDepth 20000 in
theorem gX9_readClause_X9_readKin : GoodIn wsX9_readClause (wsV RX9 70 RX9 yX9_readKin wsX9_readKin) := goodIn_app (goodIn_of _ (by decide +kernel)) ggX9_readClause_X9_readKin
set_option maxRecDepth 20000 in
theorem ggX9_readClause_X9_readMark : GoodIn wsX9_readClause wsX9_readMark := goodIn_r _ [139, 1, 3, 4, 78, 140, 141, 142, 143, 80, 81, 82, 9, 83, 11, 14, 12, 15, 16, 17, 18, 13, 84, 85, 86, 87, 88, 89, 90, 91, 92, 69, 70, 71, 72, 144, 145, 151, 152, 153, 154, 155, 156, 157, 158, 159, 160, 161, 146, 147, 148, 149, 150] (by decide +kernel) (by decide +kernel)
set_option maxRecDepth 20000 in
theorem gX9_readClause_X9_readMark : GoodIn wsX9_readClause (wsV RX9 73 RX9 yX9_readMark wsX9_readMark) := goodIn_app (goodIn_of _ (by decide +kernel)) ggX9_readClause_X9_readMark
theorem dX9_readClause_0 : decode cX9_readClause 0 = .ok (.aload_n 0, 1) := by decide +kernel
theorem dX9_readClause_1 : decode cX9_readClause 1 = .ok (.getfield 18, 3) := by decide +kernel
theorem dX9_readClause_4 : decode cX9_readClause 4 = .ok (.ldc 44, 2) := by decide +kernel
theorem dX9_readClause_6 : decode cX9_readClause 6 = .ok (.invokevirtual 46, 3) := by decide +kernel
theorem dX9_readClause_9 : decode cX9_readClause 9 = .ok (.istore_n 2, 1) := by decide +kernel
theorem dX9_readClause_10 : decode cX9_readClause 10 = .ok (.iload_n 2, 1) := by decide +kernel
theorem dX9_readClause_11 : decode cX9_readClause 11 = .ok (.iconst (-1), 1) := by decide +kernel
theorem dX9_readClause_12 : decode cX9_readClause 12 = .ok (.if_icmp .ne 19, 3) := by decide +kernel
theorem dX9_readClause_15 : decode cX9_readClause 15 = .ok (.aload_n 0, 1) := by decide +kernel
theorem dX9_readClause_16 : decode cX9_readClause 16 = .ok (.getfield 18, 3) := by decide +kernel
theorem dX9_readClause_19 : decode cX9_readClause 19 = .ok (.aload_n 0, 1) := by decide +kernel
theorem dX9_readClause_20 : decode cX9_readClause 20 = .ok (.getfield 18, 3) := by decide +kernel
theorem dX9_readClause_23 : decode cX9_readClause 23 = .ok (.getfield 50, 3) := by decide +kernel
theorem dX9_readClause_26 : decode cX9_readClause 26 = .ok (.iconst 0, 1) := by decide +kernel
theorem dX9_readClause_27 : decode cX9_readClause 27 = .ok (.invokevirtual 54, 3) := by decide +kernel
theorem dX9_readClause_30 : decode cX9_readClause 30 = .ok (.ireturn, 1) := by decide +kernel
theorem dX9_readClause_31 : decode cX9_readClause 31 = .ok (.iload_n 2, 1) := by decide +kernel
theorem dX9_readClause_32 : decode cX9_readClause 32 = .ok (.ifCond .ne 7, 3) := by decide +kernel
theorem dX9_readClause_35 : decode cX9_readClause 35 = .ok (.iconst 1, 1) := by decide +kernel
theorem dX9_readClause_36 : decode cX9_readClause 36 = .ok (.goto 4, 3) := by decide +kernel
theorem dX9_readClause_39 : decode cX9_readClause 39 = .ok (.iconst 0, 1) := by decide +kernel
theorem dX9_readClause_40 : decode cX9_readClause 40 = .ok (.iload_n 1, 1) := by decide +kernel
theorem dX9_readClause_41 : decode cX9_readClause 41 = .ok (.ifCond .ne 7, 3) := by decide +kernel
theorem dX9_readClause_44 : decode cX9_readClause 44 = .ok (.iconst 1, 1) := by decide +kernel
theorem dX9_readClause_45 : decode cX9_readClause 45 = .ok (.goto 4, 3) := by decide +kernel
theorem dX9_readClause_48 : decode cX9_readClause 48 = .ok (.iconst 0, 1) := by decide +kernel
theorem dX9_readClause_49 : decode cX9_readClause 49 = .ok (.if_icmp .eq 7, 3) := by decide +kernel
theorem dX9_readClause_52 : decode cX9_readClause 52 = .ok (.iconst 1, 1) := by decide +kernel
theorem dX9_readClause_53 : decode cX9_readClause 53 = .ok (.goto 4, 3) := by decide +kernel
theorem dX9_readClause_56 : decode cX9_readClause 56 = .ok (.iconst 0, 1) := by decide +kernel
theorem dX9_readClause_57 : decode cX9_readClause 57 = .ok (.istore_n 3, 1) := by decide +kernel
theorem dX9_readClause_58 : decode cX9_readClause 58 = .ok (.iload_n 2, 1) := by decide +kernel
theorem dX9_readClause_59 : decode cX9_readClause 59 = .ok (.iconst 1, 1) := by decide +kernel
theorem dX9_readClause_60 : decode cX9_readClause 60 = .ok (.if_icmp .ne 19, 3) := by decide +kernel
theorem dX9_readClause_63 : decode cX9_readClause 63 = .ok (.aload_n 0, 1) := by decide +kernel
theorem dX9_readClause_64 : decode cX9_readClause 64 = .ok (.getfield 12, 3) := by decide +kernel
theorem dX9_readClause_67 : decode cX9_readClause 67 = .ok (.getfield 58, 3) := by decide +kernel
theorem dX9_readClause_70 : decode cX9_readClause 70 = .ok (.bipush 10, 2) := by decide +kernel
theorem dX9_readClause_72 : decode cX9_readClause 72 = .ok (.if_icmp .lt 7, 3) := by decide +kernel
theorem dX9_readClause_75 : decode cX9_readClause 75 = .ok (.iconst 1, 1) := by decide +kernel
theorem dX9_readClause_76 : decode cX9_readClause 76 = .ok (.goto 4, 3) := by decide +kernel
theorem dX9_readClause_79 : decode cX9_readClause 79 = .ok (.iconst 0, 1) := by decide +kernel
theorem dX9_readClause_80 : decode cX9_readClause 80 = .ok (.istore 4, 2) := by decide +kernel
theorem dX9_readClause_82 : decode cX9_readClause 82 = .ok (.iload_n 1, 1) := by decide +kernel
theorem dX9_readClause_83 : decode cX9_readClause 83 = .ok (.bipush 40, 2) := by decide +kernel
theorem dX9_readClause_85 : decode cX9_readClause 85 = .ok (.if_icmp .ge 12, 3) := by decide +kernel
theorem dX9_readClause_88 : decode cX9_readClause 88 = .ok (.iload_n 3, 1) := by decide +kernel
theorem dX9_readClause_89 : decode cX9_readClause 89 = .ok (.ifCond .ne 8, 3) := by decide +kernel
theorem dX9_readClause_92 : decode cX9_readClause 92 = .ok (.iload 4, 2) := by decide +kernel
theorem dX9_readClause_94 : decode cX9_readClause 94 = .ok (.ifCond .eq 19, 3) := by decide +kernel
theorem dX9_readClause_97 : decode cX9_readClause 97 = .ok (.aload_n 0, 1) := by decide +kernel
theorem dX9_readClause_98 : decode cX9_readClause 98 = .ok (.getfield 18, 3) := by decide +kernel
theorem dX9_readClause_101 : decode cX9_readClause 101 = .ok (.aload_n 0, 1) := by decide +kernel
theorem dX9_readClause_102 : decode cX9_readClause 102 = .ok (.getfield 18, 3) := by decide +kernel
theorem dX9_readClause_105 : decode cX9_readClause 105 = .ok (.getfield 61, 3) := by decide +kernel
theorem dX9_readClause_108 : decode cX9_readClause 108 = .ok (.iconst 4, 1) := by decide +kernel
theorem dX9_readClause_109 : decode cX9_readClause 109 = .ok (.invokevirtual 54, 3) := by decide +kernel
theorem dX9_readClause_112 : decode cX9_readClause 112 = .ok (.ireturn, 1) := by decide +kernel
theorem dX9_readClause_113 : decode cX9_readClause 113 = .ok (.iload_n 2, 1) := by decide +kernel
theorem dX9_readClause_114 : decode cX9_readClause 114 = .ok (.lookupswitch 49 #[(0, 34), (1, 39), (5, 44)], 34) := by decide +kernel
theorem dX9_readClause_148 : decode cX9_readClause 148 = .ok (.aload_n 0, 1) := by decide +kernel
theorem dX9_readClause_149 : decode cX9_readClause 149 = .ok (.invokevirtual 64, 3) := by decide +kernel
theorem dX9_readClause_152 : decode cX9_readClause 152 = .ok (.ireturn, 1) := by decide +kernel
theorem dX9_readClause_153 : decode cX9_readClause 153 = .ok (.aload_n 0, 1) := by decide +kernel
theorem dX9_readClause_154 : decode cX9_readClause 154 = .ok (.invokevirtual 67, 3) := by decide +kernel
theorem dX9_readClause_157 : decode cX9_readClause 157 = .ok (.ireturn, 1) := by decide +kernel
theorem dX9_readClause_158 : decode cX9_readClause 158 = .ok (.aload_n 0, 1) := by decide +kernel
theorem dX9_readClause_159 : decode cX9_readClause 159 = .ok (.invokevirtual 70, 3) := by decide +kernel
theorem dX9_readClause_162 : decode cX9_readClause 162 = .ok (.ireturn, 1) := by decide +kernel
theorem dX9_readClause_163 : decode cX9_readClause 163 = .ok (.aload_n 0, 1) := by decide +kernel
theorem dX9_readClause_164 : decode cX9_readClause 164 = .ok (.iload_n 2, 1) := by decide +kernel
theorem dX9_readClause_165 : decode cX9_readClause 165 = .ok (.invokevirtual 73, 3) := by decide +kernel
theorem dX9_readClause_168 : decode cX9_readClause 168 = .ok (.ireturn, 1) := by decide +kernel
set_option maxRecDepth 20000 in
theorem ggX9_readSize_X7_takeNumber : GoodIn wsX9_readSize wsX7_takeNumber := goodIn_r _ [9, 10, 11, 12, 13, 14, 15, 8, 16, 17, 18, 19, 20, 21, 22, 23, 24, 25, 26, 27, 28, 29, 30, 44, 45, 46, 47, 48] (by decide +kernel) (by decide +kernel)
set_option maxRecDepth 20000 in
theorem gX9_readSize_X7_takeNumber : GoodIn wsX9_readSize (wsV RX9 76 RX7 yX7_takeNumber wsX7_takeNumber) := goodIn_app (goodIn_of _ (by decide +kernel)) ggX9_readSize_X7_takeNumber
theorem dX9_readSize_0 : decode cX9_readSize 0 = .ok (.aload_n 0, 1) := by decide +kernel
theorem dX9_readSize_1 : decode cX9_readSize 1 = .ok (.getfield 18, 3) := by decide +kernel
theorem dX9_readSize_4 : decode cX9_readSize 4 = .ok (.iconst 2, 1) := by decide +kernel
theorem dX9_readSize_5 : decode cX9_readSize 5 = .ok (.bipush 6, 2) := by decide +kernel
theorem dX9_readSize_7 : decode cX9_readSize 7 = .ok (.invokevirtual 76, 3) := by decide +kernel
theorem dX9_readSize_10 : decode cX9_readSize 10 = .ok (.istore_n 1, 1) := by decide +kernel
theorem dX9_readSize_11 : decode cX9_readSize 11 = .ok (.iload_n 1, 1) := by decide +kernel
theorem dX9_readSize_12 : decode cX9_readSize 12 = .ok (.iconst (-1), 1) := by decide +kernel
theorem dX9_readSize_13 : decode cX9_readSize 13 = .ok (.if_icmp .ne 5, 3) := by decide +kernel
theorem dX9_readSize_16 : decode cX9_readSize 16 = .ok (.iconst 0, 1) := by decide +kernel
theorem dX9_readSize_17 : decode cX9_readSize 17 = .ok (.ireturn, 1) := by decide +kernel
theorem dX9_readSize_18 : decode cX9_readSize 18 = .ok (.aload_n 0, 1) := by decide +kernel
theorem dX9_readSize_19 : decode cX9_readSize 19 = .ok (.getfield 18, 3) := by decide +kernel
theorem dX9_readSize_22 : decode cX9_readSize 22 = .ok (.iconst 1, 1) := by decide +kernel
theorem dX9_readSize_23 : decode cX9_readSize 23 = .ok (.bipush 12, 2) := by decide +kernel
theorem dX9_readSize_25 : decode cX9_readSize 25 = .ok (.invokevirtual 76, 3) := by decide +kernel
theorem dX9_readSize_28 : decode cX9_readSize 28 = .ok (.istore_n 2, 1) := by decide +kernel
theorem dX9_readSize_29 : decode cX9_readSize 29 = .ok (.iload_n 2, 1) := by decide +kernel
theorem dX9_readSize_30 : decode cX9_readSize 30 = .ok (.iconst (-1), 1) := by decide +kernel
theorem dX9_readSize_31 : decode cX9_readSize 31 = .ok (.if_icmp .ne 5, 3) := by decide +kernel
theorem dX9_readSize_34 : decode cX9_readSize 34 = .ok (.iconst 0, 1) := by decide +kernel
theorem dX9_readSize_35 : decode cX9_readSize 35 = .ok (.ireturn, 1) := by decide +kernel
theorem dX9_readSize_36 : decode cX9_readSize 36 = .ok (.aload_n 0, 1) := by decide +kernel
theorem dX9_readSize_37 : decode cX9_readSize 37 = .ok (.getfield 12, 3) := by decide +kernel
theorem dX9_readSize_40 : decode cX9_readSize 40 = .ok (.iload_n 1, 1) := by decide +kernel
theorem dX9_readSize_41 : decode cX9_readSize 41 = .ok (.putfield 80, 3) := by decide +kernel
theorem dX9_readSize_44 : decode cX9_readSize 44 = .ok (.aload_n 0, 1) := by decide +kernel
theorem dX9_readSize_45 : decode cX9_readSize 45 = .ok (.getfield 12, 3) := by decide +kernel
theorem dX9_readSize_48 : decode cX9_readSize 48 = .ok (.iload_n 2, 1) := by decide +kernel
theorem dX9_readSize_49 : decode cX9_readSize 49 = .ok (.putfield 83, 3) := by decide +kernel
theorem dX9_readSize_52 : decode cX9_readSize 52 = .ok (.iconst 1, 1) := by decide +kernel
theorem dX9_readSize_53 : decode cX9_readSize 53 = .ok (.ireturn, 1) := by decide +kernel
set_option maxRecDepth 20000 in
theorem ggX9_readRow_X7_skipBlanks : GoodIn wsX9_readRow wsX7_skipBlanks := goodIn_r _ [10, 11, 12, 13, 67, 68, 69, 70, 71] (by decide +kernel) (by decide +kernel)
set_option maxRecDepth 20000 in
theorem gX9_readRow_X7_skipBlanks : GoodIn wsX9_readRow (wsV RX9 86 RX7 yX7_skipBlanks wsX7_skipBlanks) := goodIn_app (goodIn_of _ (by decide +kernel)) ggX9_readRow_X7_skipBlanks
set_option maxRecDepth 20000 in
theorem ggX9_readRow_X7_isDigitAt : GoodIn wsX9_readRow wsX7_isDigitAt := goodIn_r _ [17, 12, 13, 67, 68, 69, 70, 71] (by decide +kernel) (by decide +kernel)
set_option maxRecDepth 20000 in
theorem gX9_readRow_X7_isDigitAt : GoodIn wsX9_readRow (wsV RX9 89 RX7 yX7_isDigitAt wsX7_isDigitAt) := goodIn_app (goodIn_of _ (by decide +kernel)) ggX9_readRow_X7_isDigitAt
set_option maxRecDepth 20000 in
theorem ggX9_readRow_X7_byteAt : GoodIn wsX9_readRow wsX7_byteAt := goodIn_r _ [21, 12, 13, 67, 68, 69, 70, 71] (by decide +kernel) (by decide +kernel)
set_option maxRecDepth 20000 in
theorem gX9_readRow_X7_byteAt : GoodIn wsX9_readRow (wsV RX9 92 RX7 yX7_byteAt wsX7_byteAt) := goodIn_app (goodIn_of _ (by decide +kernel)) ggX9_readRow_X7_byteAt
set_option maxRecDepth 20000 in
theorem ggX9_readRow_X8_isGate : GoodIn wsX9_readRow wsX8_isGate := goodIn_r _ [26, 27, 56, 57, 58, 59, 60, 61, 62, 63, 64, 65, 66] (by decide +kernel) (by decide +kernel)
set_option maxRecDepth 20000 in
theorem gX9_readRow_X8_isGate : GoodIn wsX9_readRow (wsV RX9 96 RX8 yX8_isGate wsX8_isGate) := goodIn_app (goodIn_of _ (by decide +kernel)) ggX9_readRow_X8_isGate
set_option maxRecDepth 20000 in
theorem ggX9_readRow_X7_blame : GoodIn wsX9_readRow wsX7_blame := goodIn_r _ [31, 32, 67, 68, 69, 70, 71] (by decide +kernel) (by decide +kernel)
set_option maxRecDepth 20000 in
theorem gX9_readRow_X7_blame : GoodIn wsX9_readRow (wsV RX9 54 RX7 yX7_blame wsX7_blame) := goodIn_app (goodIn_of _ (by decide +kernel)) ggX9_readRow_X7_blame
set_option maxRecDepth 20000 in
theorem ggX9_readRow_X8_moveTo : GoodIn wsX9_readRow wsX8_moveTo := goodIn_r _ [36, 37, 38, 39, 40, 41, 25, 42, 43, 44, 45, 46, 47, 48, 49, 50, 51, 52, 53, 23, 24, 26, 27, 56, 57, 58, 59, 60, 61, 62, 63, 64, 65, 66] (by decide +kernel) (by decide +kernel)
set_option maxRecDepth 20000 in
theorem gX9_readRow_X8_moveTo : GoodIn wsX9_readRow (wsV RX9 99 RX8 yX8_moveTo wsX8_moveTo) := goodIn_app (goodIn_of _ (by decide +kernel)) ggX9_readRow_X8_moveTo
theorem dX9_readRow_0 : decode cX9_readRow 0 = .ok (.aload_n 0, 1) := by decide +kernel
theorem dX9_readRow_1 : decode cX9_readRow 1 = .ok (.getfield 12, 3) := by decide +kernel
theorem dX9_readRow_4 : decode cX9_readRow 4 = .ok (.getfield 58, 3) := by decide +kernel
theorem dX9_readRow_7 : decode cX9_readRow 7 = .ok (.istore_n 1, 1) := by decide +kernel
theorem dX9_readRow_8 : decode cX9_readRow 8 = .ok (.aload_n 0, 1) := by decide +kernel
theorem dX9_readRow_9 : decode cX9_readRow 9 = .ok (.getfield 12, 3) := by decide +kernel
theorem dX9_readRow_12 : decode cX9_readRow 12 = .ok (.dup, 1) := by decide +kernel
theorem dX9_readRow_13 : decode cX9_readRow 13 = .ok (.getfield 58, 3) := by decide +kernel
theorem dX9_readRow_16 : decode cX9_readRow 16 = .ok (.iconst 1, 1) := by decide +kernel
theorem dX9_readRow_17 : decode cX9_readRow 17 = .ok (.iadd, 1) := by decide +kernel
theorem dX9_readRow_18 : decode cX9_readRow 18 = .ok (.putfield 58, 3) := by decide +kernel
theorem dX9_readRow_21 : decode cX9_readRow 21 = .ok (.aload_n 0, 1) := by decide +kernel
theorem dX9_readRow_22 : decode cX9_readRow 22 = .ok (.getfield 18, 3) := by decide +kernel
theorem dX9_readRow_25 : decode cX9_readRow 25 = .ok (.invokevirtual 86, 3) := by decide +kernel
theorem dX9_readRow_28 : decode cX9_readRow 28 = .ok (.iconst 0, 1) := by decide +kernel
theorem dX9_readRow_29 : decode cX9_readRow 29 = .ok (.istore_n 2, 1) := by decide +kernel
theorem dX9_readRow_30 : decode cX9_readRow 30 = .ok (.iload_n 2, 1) := by decide +kernel
theorem dX9_readRow_31 : decode cX9_readRow 31 = .ok (.aload_n 0, 1) := by decide +kernel
theorem dX9_readRow_32 : decode cX9_readRow 32 = .ok (.getfield 12, 3) := by decide +kernel
theorem dX9_readRow_35 : decode cX9_readRow 35 = .ok (.getfield 83, 3) := by decide +kernel
theorem dX9_readRow_38 : decode cX9_readRow 38 = .ok (.if_icmp .ge 132, 3) := by decide +kernel
theorem dX9_readRow_41 : decode cX9_readRow 41 = .ok (.aload_n 0, 1) := by decide +kernel
theorem dX9_readRow_42 : decode cX9_readRow 42 = .ok (.getfield 18, 3) := by decide +kernel
theorem dX9_readRow_45 : decode cX9_readRow 45 = .ok (.aload_n 0, 1) := by decide +kernel
theorem dX9_readRow_46 : decode cX9_readRow 46 = .ok (.getfield 18, 3) := by decide +kernel
theorem dX9_readRow_49 : decode cX9_readRow 49 = .ok (.getfield 50, 3) := by decide +kernel
theorem dX9_readRow_52 : decode cX9_readRow 52 = .ok (.invokevirtual 89, 3) := by decide +kernel
theorem dX9_readRow_55 : decode cX9_readRow 55 = .ok (.ifCond .eq 61, 3) := by decide +kernel
theorem dX9_readRow_58 : decode cX9_readRow 58 = .ok (.aload_n 0, 1) := by decide +kernel
theorem dX9_readRow_59 : decode cX9_readRow 59 = .ok (.getfield 18, 3) := by decide +kernel
theorem dX9_readRow_62 : decode cX9_readRow 62 = .ok (.aload_n 0, 1) := by decide +kernel
theorem dX9_readRow_63 : decode cX9_readRow 63 = .ok (.getfield 18, 3) := by decide +kernel
theorem dX9_readRow_66 : decode cX9_readRow 66 = .ok (.getfield 50, 3) := by decide +kernel
theorem dX9_readRow_69 : decode cX9_readRow 69 = .ok (.invokevirtual 92, 3) := by decide +kernel
theorem dX9_readRow_72 : decode cX9_readRow 72 = .ok (.bipush 48, 2) := by decide +kernel
theorem dX9_readRow_74 : decode cX9_readRow 74 = .ok (.isub, 1) := by decide +kernel
theorem dX9_readRow_75 : decode cX9_readRow 75 = .ok (.istore_n 3, 1) := by decide +kernel
theorem dX9_readRow_76 : decode cX9_readRow 76 = .ok (.aload_n 0, 1) := by decide +kernel
theorem dX9_readRow_77 : decode cX9_readRow 77 = .ok (.getfield 12, 3) := by decide +kernel
theorem dX9_readRow_80 : decode cX9_readRow 80 = .ok (.iload_n 3, 1) := by decide +kernel
theorem dX9_readRow_81 : decode cX9_readRow 81 = .ok (.invokevirtual 96, 3) := by decide +kernel
theorem dX9_readRow_84 : decode cX9_readRow 84 = .ok (.ifCond .ne 19, 3) := by decide +kernel
theorem dX9_readRow_87 : decode cX9_readRow 87 = .ok (.aload_n 0, 1) := by decide +kernel
theorem dX9_readRow_88 : decode cX9_readRow 88 = .ok (.getfield 18, 3) := by decide +kernel
theorem dX9_readRow_91 : decode cX9_readRow 91 = .ok (.aload_n 0, 1) := by decide +kernel
theorem dX9_readRow_92 : decode cX9_readRow 92 = .ok (.getfield 18, 3) := by decide +kernel
theorem dX9_readRow_95 : decode cX9_readRow 95 = .ok (.getfield 50, 3) := by decide +kernel
theorem dX9_readRow_98 : decode cX9_readRow 98 = .ok (.iconst 1, 1) := by decide +kernel
theorem dX9_readRow_99 : decode cX9_readRow 99 = .ok (.invokevirtual 54, 3) := by decide +kernel
theorem dX9_readRow_102 : decode cX9_readRow 102 = .ok (.ireturn, 1) := by decide +kernel
theorem dX9_readRow_103 : decode cX9_readRow 103 = .ok (.aload_n 0, 1) := by decide +kernel
theorem dX9_readRow_104 : decode cX9_readRow 104 = .ok (.getfield 12, 3) := by decide +kernel
theorem dX9_readRow_107 : decode cX9_readRow 107 = .ok (.iload_n 1, 1) := by decide +kernel
theorem dX9_readRow_108 : decode cX9_readRow 108 = .ok (.iload_n 2, 1) := by decide +kernel
theorem dX9_readRow_109 : decode cX9_readRow 109 = .ok (.iload_n 3, 1) := by decide +kernel
theorem dX9_readRow_110 : decode cX9_readRow 110 = .ok (.invokevirtual 99, 3) := by decide +kernel
theorem dX9_readRow_113 : decode cX9_readRow 113 = .ok (.goto 38, 3) := by decide +kernel
theorem dX9_readRow_116 : decode cX9_readRow 116 = .ok (.aload_n 0, 1) := by decide +kernel
theorem dX9_readRow_117 : decode cX9_readRow 117 = .ok (.getfield 18, 3) := by decide +kernel
theorem dX9_readRow_120 : decode cX9_readRow 120 = .ok (.aload_n 0, 1) := by decide +kernel
theorem dX9_readRow_121 : decode cX9_readRow 121 = .ok (.getfield 18, 3) := by decide +kernel
theorem dX9_readRow_124 : decode cX9_readRow 124 = .ok (.getfield 50, 3) := by decide +kernel
theorem dX9_readRow_127 : decode cX9_readRow 127 = .ok (.invokevirtual 92, 3) := by decide +kernel
theorem dX9_readRow_130 : decode cX9_readRow 130 = .ok (.bipush 45, 2) := by decide +kernel
theorem dX9_readRow_132 : decode cX9_readRow 132 = .ok (.if_icmp .eq 19, 3) := by decide +kernel
theorem dX9_readRow_135 : decode cX9_readRow 135 = .ok (.aload_n 0, 1) := by decide +kernel
theorem dX9_readRow_136 : decode cX9_readRow 136 = .ok (.getfield 18, 3) := by decide +kernel
theorem dX9_readRow_139 : decode cX9_readRow 139 = .ok (.aload_n 0, 1) := by decide +kernel
theorem dX9_readRow_140 : decode cX9_readRow 140 = .ok (.getfield 18, 3) := by decide +kernel
theorem dX9_readRow_143 : decode cX9_readRow 143 = .ok (.getfield 50, 3) := by decide +kernel
theorem dX9_readRow_146 : decode cX9_readRow 146 = .ok (.iconst 0, 1) := by decide +kernel
theorem dX9_readRow_147 : decode cX9_readRow 147 = .ok (.invokevirtual 54, 3) := by decide +kernel
theorem dX9_readRow_150 : decode cX9_readRow 150 = .ok (.ireturn, 1) := by decide +kernel
theorem dX9_readRow_151 : decode cX9_readRow 151 = .ok (.aload_n 0, 1) := by decide +kernel
theorem dX9_readRow_152 : decode cX9_readRow 152 = .ok (.getfield 18, 3) := by decide +kernel
theorem dX9_readRow_155 : decode cX9_readRow 155 = .ok (.dup, 1) := by decide +kernel
theorem dX9_readRow_156 : decode cX9_readRow 156 = .ok (.getfield 50, 3) := by decide +kernel
theorem dX9_readRow_159 : decode cX9_readRow 159 = .ok (.iconst 1, 1) := by decide +kernel
theorem dX9_readRow_160 : decode cX9_readRow 160 = .ok (.iadd, 1) := by decide +kernel
theorem dX9_readRow_161 : decode cX9_readRow 161 = .ok (.putfield 50, 3) := by decide +kernel
theorem dX9_readRow_164 : decode cX9_readRow 164 = .ok (.iinc 2 1, 3) := by decide +kernel
theorem dX9_readRow_167 : decode cX9_readRow 167 = .ok (.goto (-137), 3) := by decide +kernel
theorem dX9_readRow_170 : decode cX9_readRow 170 = .ok (.iconst 1, 1) := by decide +kernel
theorem dX9_readRow_171 : decode cX9_readRow 171 = .ok (.ireturn, 1) := by decide +kernel
set_option maxRecDepth 20000 in
theorem ggX9_readKin_X7_takeNumber : GoodIn wsX9_readKin wsX7_takeNumber := goodIn_r _ [9, 10, 11, 12, 13, 14, 15, 8, 16, 17, 18, 19, 20, 21, 22, 23, 24, 25, 26, 27, 28, 29, 30, 56, 57, 58, 59, 60] (by decide +kernel) (by decide +kernel)
set_option maxRecDepth 20000 in
theorem gX9_readKin_X7_takeNumber : GoodIn wsX9_readKin (wsV RX9 76 RX7 yX7_takeNumber wsX7_takeNumber) := goodIn_app (goodIn_of _ (by decide +kernel)) ggX9_readKin_X7_takeNumber
set_option maxRecDepth 20000 in
theorem ggX9_readKin_X7_blame : GoodIn wsX9_readKin wsX7_blame := goodIn_r _ [29, 30, 56, 57, 58, 59, 60] (by decide +kernel) (by decide +kernel)
set_option maxRecDepth 20000 in
theorem gX9_readKin_X7_blame : GoodIn wsX9_readKin (wsV RX9 54 RX7 yX7_blame wsX7_blame) := goodIn_app (goodIn_of _ (by decide +kernel)) ggX9_readKin_X7_blame
set_option maxRecDepth 20000 in
theorem ggX9_readKin_X8_bind : GoodIn wsX9_readKin wsX8_bind := goodIn_r _ [36, 37, 38, 39, 40, 35, 41, 42, 45, 46, 47, 48, 49, 50, 51, 52, 53, 54, 55] (by decide +kernel) (by decide +kernel)
set_option maxRecDepth 20000 in
theorem gX9_readKin_X8_bind : GoodIn wsX9_readKin (wsV RX9 103 RX8 yX8_bind wsX8_bind) := goodIn_app (goodIn_of _ (by decide +kernel)) ggX9_readKin_X8_bind
theorem dX9_readKin_0 : decode cX9_readKin 0 = .ok (.aload_n 0, 1) := by decide +kernel
theorem dX9_readKin_1 : decode cX9_readKin 1 = .ok (.getfield 18, 3) := by decide +kernel
theorem dX9_readKin_4 : decode cX9_readKin 4 = .ok (.iconst 0, 1) := by decide +kernel
theorem dX9_readKin_5 : decode cX9_readKin 5 = .ok (.aload_n 0, 1) := by decide +kernel
theorem dX9_readKin_6 : decode cX9_readKin 6 = .ok (.getfield 12, 3) := by decide +kernel
theorem dX9_readKin_9 : decode cX9_readKin 9 = .ok (.getfield 58, 3) := by decide +kernel
theorem dX9_readKin_12 : decode cX9_readKin 12 = .ok (.iconst 1, 1) := by decide +kernel
theorem dX9_readKin_13 : decode cX9_readKin 13 = .ok (.isub, 1) := by decide +kernel
theorem dX9_readKin_14 : decode cX9_readKin 14 = .ok (.invokevirtual 76, 3) := by decide +kernel
theorem dX9_readKin_17 : decode cX9_readKin 17 = .ok (.istore_n 1, 1) := by decide +kernel
theorem dX9_readKin_18 : decode cX9_readKin 18 = .ok (.iload_n 1, 1) := by decide +kernel
theorem dX9_readKin_19 : decode cX9_readKin 19 = .ok (.iconst (-1), 1) := by decide +kernel
theorem dX9_readKin_20 : decode cX9_readKin 20 = .ok (.if_icmp .ne 5, 3) := by decide +kernel
theorem dX9_readKin_23 : decode cX9_readKin 23 = .ok (.iconst 0, 1) := by decide +kernel
theorem dX9_readKin_24 : decode cX9_readKin 24 = .ok (.ireturn, 1) := by decide +kernel
theorem dX9_readKin_25 : decode cX9_readKin 25 = .ok (.aload_n 0, 1) := by decide +kernel
theorem dX9_readKin_26 : decode cX9_readKin 26 = .ok (.getfield 18, 3) := by decide +kernel
theorem dX9_readKin_29 : decode cX9_readKin 29 = .ok (.iconst 0, 1) := by decide +kernel
theorem dX9_readKin_30 : decode cX9_readKin 30 = .ok (.aload_n 0, 1) := by decide +kernel
theorem dX9_readKin_31 : decode cX9_readKin 31 = .ok (.getfield 12, 3) := by decide +kernel
theorem dX9_readKin_34 : decode cX9_readKin 34 = .ok (.getfield 58, 3) := by decide +kernel
theorem dX9_readKin_37 : decode cX9_readKin 37 = .ok (.iconst 1, 1) := by decide +kernel
theorem dX9_readKin_38 : decode cX9_readKin 38 = .ok (.isub, 1) := by decide +kernel
theorem dX9_readKin_39 : decode cX9_readKin 39 = .ok (.invokevirtual 76, 3) := by decide +kernel
theorem dX9_readKin_42 : decode cX9_readKin 42 = .ok (.istore_n 2, 1) := by decide +kernel
theorem dX9_readKin_43 : decode cX9_readKin 43 = .ok (.iload_n 2, 1) := by decide +kernel
theorem dX9_readKin_44 : decode cX9_readKin 44 = .ok (.iconst (-1), 1) := by decide +kernel
theorem dX9_readKin_45 : decode cX9_readKin 45 = .ok (.if_icmp .ne 5, 3) := by decide +kernel
theorem dX9_readKin_48 : decode cX9_readKin 48 = .ok (.iconst 0, 1) := by decide +kernel
theorem dX9_readKin_49 : decode cX9_readKin 49 = .ok (.ireturn, 1) := by decide +kernel
theorem dX9_readKin_50 : decode cX9_readKin 50 = .ok (.iload_n 1, 1) := by decide +kernel
theorem dX9_readKin_51 : decode cX9_readKin 51 = .ok (.iload_n 2, 1) := by decide +kernel
theorem dX9_readKin_52 : decode cX9_readKin 52 = .ok (.if_icmp .ne 19, 3) := by decide +kernel
theorem dX9_readKin_55 : decode cX9_readKin 55 = .ok (.aload_n 0, 1) := by decide +kernel
theorem dX9_readKin_56 : decode cX9_readKin 56 = .ok (.getfield 18, 3) := by decide +kernel
theorem dX9_readKin_59 : decode cX9_readKin 59 = .ok (.aload_n 0, 1) := by decide +kernel
theorem dX9_readKin_60 : decode cX9_readKin 60 = .ok (.getfield 18, 3) := by decide +kernel
theorem dX9_readKin_63 : decode cX9_readKin 63 = .ok (.getfield 61, 3) := by decide +kernel
theorem dX9_readKin_66 : decode cX9_readKin 66 = .ok (.iconst 1, 1) := by decide +kernel
theorem dX9_readKin_67 : decode cX9_readKin 67 = .ok (.invokevirtual 54, 3) := by decide +kernel
theorem dX9_readKin_70 : decode cX9_readKin 70 = .ok (.ireturn, 1) := by decide +kernel
theorem dX9_readKin_71 : decode cX9_readKin 71 = .ok (.aload_n 0, 1) := by decide +kernel
theorem dX9_readKin_72 : decode cX9_readKin 72 = .ok (.getfield 12, 3) := by decide +kernel
theorem dX9_readKin_75 : decode cX9_readKin 75 = .ok (.iload_n 1, 1) := by decide +kernel
theorem dX9_readKin_76 : decode cX9_readKin 76 = .ok (.iload_n 2, 1) := by decide +kernel
theorem dX9_readKin_77 : decode cX9_readKin 77 = .ok (.invokevirtual 103, 3) := by decide +kernel
theorem dX9_readKin_80 : decode cX9_readKin 80 = .ok (.iconst 1, 1) := by decide +kernel
theorem dX9_readKin_81 : decode cX9_readKin 81 = .ok (.ireturn, 1) := by decide +kernel
set_option maxRecDepth 20000 in
theorem ggX9_readMark_X7_takeNumber : GoodIn wsX9_readMark wsX7_takeNumber := goodIn_r _ [13, 14, 15, 16, 17, 18, 19, 12, 20, 21, 22, 23, 24, 25, 26, 27, 28, 29, 30, 31, 32, 33, 34, 48, 49, 50, 51, 52] (by decide +kernel) (by decide +kernel)
set_option maxRecDepth 20000 in
theorem gX9_readMark_X7_takeNumber : GoodIn wsX9_readMark (wsV RX9 76 RX7 yX7_takeNumber wsX7_takeNumber) := goodIn_app (goodIn_of _ (by decide +kernel)) ggX9_readMark_X7_takeNumber
theorem dX9_readMark_0 : decode cX9_readMark 0 = .ok (.iload_n 1, 1) := by decide +kernel
theorem dX9_readMark_1 : decode cX9_readMark 1 = .ok (.iconst 2, 1) := by decide +kernel
theorem dX9_readMark_2 : decode cX9_readMark 2 = .ok (.if_icmp .eq 13, 3) := by decide +kernel
theorem dX9_readMark_5 : decode cX9_readMark 5 = .ok (.iload_n 1, 1) := by decide +kernel
theorem dX9_readMark_6 : decode cX9_readMark 6 = .ok (.iconst 3, 1) := by decide +kernel
theorem dX9_readMark_7 : decode cX9_readMark 7 = .ok (.if_icmp .eq 8, 3) := by decide +kernel
theorem dX9_readMark_10 : decode cX9_readMark 10 = .ok (.iload_n 1, 1) := by decide +kernel
theorem dX9_readMark_11 : decode cX9_readMark 11 = .ok (.iconst 4, 1) := by decide +kernel
theorem dX9_readMark_12 : decode cX9_readMark 12 = .ok (.if_icmp .ne 7, 3) := by decide +kernel
theorem dX9_readMark_15 : decode cX9_readMark 15 = .ok (.iconst 1, 1) := by decide +kernel
theorem dX9_readMark_16 : decode cX9_readMark 16 = .ok (.goto 4, 3) := by decide +kernel
theorem dX9_readMark_19 : decode cX9_readMark 19 = .ok (.iconst 0, 1) := by decide +kernel
theorem dX9_readMark_20 : decode cX9_readMark 20 = .ok (.istore_n 2, 1) := by decide +kernel
theorem dX9_readMark_21 : decode cX9_readMark 21 = .ok (.aload_n 0, 1) := by decide +kernel
theorem dX9_readMark_22 : decode cX9_readMark 22 = .ok (.getfield 18, 3) := by decide +kernel
theorem dX9_readMark_25 : decode cX9_readMark 25 = .ok (.iconst 0, 1) := by decide +kernel
theorem dX9_readMark_26 : decode cX9_readMark 26 = .ok (.iload_n 2, 1) := by decide +kernel
theorem dX9_readMark_27 : decode cX9_readMark 27 = .ok (.ifCond .eq 13, 3) := by decide +kernel
theorem dX9_readMark_30 : decode cX9_readMark 30 = .ok (.aload_n 0, 1) := by decide +kernel
theorem dX9_readMark_31 : decode cX9_readMark 31 = .ok (.getfield 12, 3) := by decide +kernel
theorem dX9_readMark_34 : decode cX9_readMark 34 = .ok (.getfield 58, 3) := by decide +kernel
theorem dX9_readMark_37 : decode cX9_readMark 37 = .ok (.goto 10, 3) := by decide +kernel
theorem dX9_readMark_40 : decode cX9_readMark 40 = .ok (.aload_n 0, 1) := by decide +kernel
theorem dX9_readMark_41 : decode cX9_readMark 41 = .ok (.getfield 12, 3) := by decide +kernel
theorem dX9_readMark_44 : decode cX9_readMark 44 = .ok (.getfield 80, 3) := by decide +kernel
theorem dX9_readMark_47 : decode cX9_readMark 47 = .ok (.iconst 1, 1) := by decide +kernel
theorem dX9_readMark_48 : decode cX9_readMark 48 = .ok (.isub, 1) := by decide +kernel
theorem dX9_readMark_49 : decode cX9_readMark 49 = .ok (.invokevirtual 76, 3) := by decide +kernel
theorem dX9_readMark_52 : decode cX9_readMark 52 = .ok (.istore_n 3, 1) := by decide +kernel
theorem dX9_readMark_53 : decode cX9_readMark 53 = .ok (.iload_n 3, 1) := by decide +kernel
theorem dX9_readMark_54 : decode cX9_readMark 54 = .ok (.iconst (-1), 1) := by decide +kernel
theorem dX9_readMark_55 : decode cX9_readMark 55 = .ok (.if_icmp .ne 5, 3) := by decide +kernel
theorem dX9_readMark_58 : decode cX9_readMark 58 = .ok (.iconst 0, 1) := by decide +kernel
theorem dX9_readMark_59 : decode cX9_readMark 59 = .ok (.ireturn, 1) := by decide +kernel
theorem dX9_readMark_60 : decode cX9_readMark 60 = .ok (.iconst 1, 1) := by decide +kernel
theorem dX9_readMark_61 : decode cX9_readMark 61 = .ok (.iload_n 3, 1) := by decide +kernel
theorem dX9_readMark_62 : decode cX9_readMark 62 = .ok (.ishl, 1) := by decide +kernel
theorem dX9_readMark_63 : decode cX9_readMark 63 = .ok (.istore 4, 2) := by decide +kernel
theorem dX9_readMark_65 : decode cX9_readMark 65 = .ok (.iload_n 1, 1) := by decide +kernel
theorem dX9_readMark_66 : decode cX9_readMark 66 = .ok (.tableswitch 74 2 4 #[26, 42, 58], 26) := by decide +kernel
theorem dX9_readMark_92 : decode cX9_readMark 92 = .ok (.aload_n 0, 1) := by decide +kernel
theorem dX9_readMark_93 : decode cX9_readMark 93 = .ok (.getfield 12, 3) := by decide +kernel
theorem dX9_readMark_96 : decode cX9_readMark 96 = .ok (.dup, 1) := by decide +kernel
theorem dX9_readMark_97 : decode cX9_readMark 97 = .ok (.getfield 107, 3) := by decide +kernel
theorem dX9_readMark_100 : decode cX9_readMark 100 = .ok (.iload 4, 2) := by decide +kernel
theorem dX9_readMark_102 : decode cX9_readMark 102 = .ok (.ior, 1) := by decide +kernel
theorem dX9_readMark_103 : decode cX9_readMark 103 = .ok (.putfield 107, 3) := by decide +kernel
theorem dX9_readMark_106 : decode cX9_readMark 106 = .ok (.iconst 1, 1) := by decide +kernel
theorem dX9_readMark_107 : decode cX9_readMark 107 = .ok (.ireturn, 1) := by decide +kernel
theorem dX9_readMark_108 : decode cX9_readMark 108 = .ok (.aload_n 0, 1) := by decide +kernel
theorem dX9_readMark_109 : decode cX9_readMark 109 = .ok (.getfield 12, 3) := by decide +kernel
theorem dX9_readMark_112 : decode cX9_readMark 112 = .ok (.dup, 1) := by decide +kernel
theorem dX9_readMark_113 : decode cX9_readMark 113 = .ok (.getfield 110, 3) := by decide +kernel
theorem dX9_readMark_116 : decode cX9_readMark 116 = .ok (.iload 4, 2) := by decide +kernel
theorem dX9_readMark_118 : decode cX9_readMark 118 = .ok (.ior, 1) := by decide +kernel
theorem dX9_readMark_119 : decode cX9_readMark 119 = .ok (.putfield 110, 3) := by decide +kernel
theorem dX9_readMark_122 : decode cX9_readMark 122 = .ok (.iconst 1, 1) := by decide +kernel
theorem dX9_readMark_123 : decode cX9_readMark 123 = .ok (.ireturn, 1) := by decide +kernel
theorem dX9_readMark_124 : decode cX9_readMark 124 = .ok (.aload_n 0, 1) := by decide +kernel
theorem dX9_readMark_125 : decode cX9_readMark 125 = .ok (.getfield 12, 3) := by decide +kernel
theorem dX9_readMark_128 : decode cX9_readMark 128 = .ok (.dup, 1) := by decide +kernel
theorem dX9_readMark_129 : decode cX9_readMark 129 = .ok (.getfield 113, 3) := by decide +kernel
theorem dX9_readMark_132 : decode cX9_readMark 132 = .ok (.iload 4, 2) := by decide +kernel
theorem dX9_readMark_134 : decode cX9_readMark 134 = .ok (.ior, 1) := by decide +kernel
theorem dX9_readMark_135 : decode cX9_readMark 135 = .ok (.putfield 113, 3) := by decide +kernel
theorem dX9_readMark_138 : decode cX9_readMark 138 = .ok (.iconst 1, 1) := by decide +kernel
theorem dX9_readMark_139 : decode cX9_readMark 139 = .ok (.ireturn, 1) := by decide +kernel
theorem dX9_readMark_140 : decode cX9_readMark 140 = .ok (.aload_n 0, 1) := by decide +kernel
theorem dX9_readMark_141 : decode cX9_readMark 141 = .ok (.getfield 12, 3) := by decide +kernel
theorem dX9_readMark_144 : decode cX9_readMark 144 = .ok (.dup, 1) := by decide +kernel
theorem dX9_readMark_145 : decode cX9_readMark 145 = .ok (.getfield 116, 3) := by decide +kernel
theorem dX9_readMark_148 : decode cX9_readMark 148 = .ok (.iload 4, 2) := by decide +kernel
theorem dX9_readMark_150 : decode cX9_readMark 150 = .ok (.ior, 1) := by decide +kernel
theorem dX9_readMark_151 : decode cX9_readMark 151 = .ok (.putfield 116, 3) := by decide +kernel
theorem dX9_readMark_154 : decode cX9_readMark 154 = .ok (.iconst 1, 1) := by decide +kernel
theorem dX9_readMark_155 : decode cX9_readMark 155 = .ok (.ireturn, 1) := by decide +kernel
theorem dX10_init_0 : decode cX10_init 0 = .ok (.aload_n 0, 1) := by decide +kernel
theorem dX10_init_1 : decode cX10_init 1 = .ok (.invokespecial 5, 3) := by decide +kernel
theorem dX10_init_4 : decode cX10_init 4 = .ok (.aload_n 0, 1) := by decide +kernel
theorem dX10_init_5 : decode cX10_init 5 = .ok (.iconst 0, 1) := by decide +kernel
theorem dX10_init_6 : decode cX10_init 6 = .ok (.putfield 11, 3) := by decide +kernel
theorem dX10_init_9 : decode cX10_init 9 = .ok (.aload_n 0, 1) := by decide +kernel
theorem dX10_init_10 : decode cX10_init 10 = .ok (.iconst 0, 1) := by decide +kernel
theorem dX10_init_11 : decode cX10_init 11 = .ok (.putfield 15, 3) := by decide +kernel
theorem dX10_init_14 : decode cX10_init 14 = .ok (.aload_n 0, 1) := by decide +kernel
theorem dX10_init_15 : decode cX10_init 15 = .ok (.iconst 0, 1) := by decide +kernel
theorem dX10_init_16 : decode cX10_init 16 = .ok (.putfield 18, 3) := by decide +kernel
theorem dX10_init_19 : decode cX10_init 19 = .ok (.aload_n 0, 1) := by decide +kernel
theorem dX10_init_20 : decode cX10_init 20 = .ok (.iconst 0, 1) := by decide +kernel
theorem dX10_init_21 : decode cX10_init 21 = .ok (.putfield 21, 3) := by decide +kernel
theorem dX10_init_24 : decode cX10_init 24 = .ok (.aload_n 0, 1) := by decide +kernel
theorem dX10_init_25 : decode cX10_init 25 = .ok (.iconst 0, 1) := by decide +kernel
theorem dX10_init_26 : decode cX10_init 26 = .ok (.putfield 24, 3) := by decide +kernel
theorem dX10_init_29 : decode cX10_init 29 = .ok (.aload_n 0, 1) := by decide +kernel
theorem dX10_init_30 : decode cX10_init 30 = .ok (.sipush 1024, 3) := by decide +kernel
theorem dX10_init_33 : decode cX10_init 33 = .ok (.newarray .boolean, 2) := by decide +kernel
theorem dX10_init_35 : decode cX10_init 35 = .ok (.putfield 27, 3) := by decide +kernel
theorem dX10_init_38 : decode cX10_init 38 = .ok (.aload_n 0, 1) := by decide +kernel
theorem dX10_init_39 : decode cX10_init 39 = .ok (.sipush 1100, 3) := by decide +kernel
theorem dX10_init_42 : decode cX10_init 42 = .ok (.newarray .int, 2) := by decide +kernel
theorem dX10_init_44 : decode cX10_init 44 = .ok (.putfield 31, 3) := by decide +kernel
theorem dX10_init_47 : decode cX10_init 47 = .ok (.aload_n 0, 1) := by decide +kernel
theorem dX10_init_48 : decode cX10_init 48 = .ok (.sipush 1024, 3) := by decide +kernel
theorem dX10_init_51 : decode cX10_init 51 = .ok (.newarray .int, 2) := by decide +kernel
theorem dX10_init_53 : decode cX10_init 53 = .ok (.putfield 35, 3) := by decide +kernel
theorem dX10_init_56 : decode cX10_init 56 = .ok (.aload_n 0, 1) := by decide +kernel
theorem dX10_init_57 : decode cX10_init 57 = .ok (.sipush 1024, 3) := by decide +kernel
theorem dX10_init_60 : decode cX10_init 60 = .ok (.newarray .int, 2) := by decide +kernel
theorem dX10_init_62 : decode cX10_init 62 = .ok (.putfield 38, 3) := by decide +kernel
theorem dX10_init_65 : decode cX10_init 65 = .ok (.aload_n 0, 1) := by decide +kernel
theorem dX10_init_66 : decode cX10_init 66 = .ok (.bipush 10, 2) := by decide +kernel
theorem dX10_init_68 : decode cX10_init 68 = .ok (.newarray .int, 2) := by decide +kernel
theorem dX10_init_70 : decode cX10_init 70 = .ok (.putfield 41, 3) := by decide +kernel
theorem dX10_init_73 : decode cX10_init 73 = .ok (.aload_n 0, 1) := by decide +kernel
theorem dX10_init_74 : decode cX10_init 74 = .ok (.sipush 2048, 3) := by decide +kernel
theorem dX10_init_77 : decode cX10_init 77 = .ok (.newarray .int, 2) := by decide +kernel
theorem dX10_init_79 : decode cX10_init 79 = .ok (.putfield 44, 3) := by decide +kernel
theorem dX10_init_82 : decode cX10_init 82 = .ok (.aload_n 0, 1) := by decide +kernel
theorem dX10_init_83 : decode cX10_init 83 = .ok (.sipush 2048, 3) := by decide +kernel
theorem dX10_init_86 : decode cX10_init 86 = .ok (.newarray .int, 2) := by decide +kernel
theorem dX10_init_88 : decode cX10_init 88 = .ok (.putfield 47, 3) := by decide +kernel
theorem dX10_init_91 : decode cX10_init 91 = .ok (.return_, 1) := by decide +kernel
set_option maxRecDepth 20000 in
theorem ggX10_findFitting_X8_those : GoodIn wsX10_findFitting wsX8_those := goodIn_r _ [13, 14, 15, 16, 17, 12, 18, 19, 20, 21, 22, 23, 24, 143, 144, 145, 146, 147, 148, 149, 150, 151, 152, 153] (by decide +kernel) (by decide +kernel)
set_option maxRecDepth 20000 in
theorem gX10_findFitting_X8_those : GoodIn wsX10_findFitting (wsV RX10 70 RX8 yX8_those wsX8_those) := goodIn_app (goodIn_of _ (by decide +kernel)) ggX10_findFitting_X8_those
set_option maxRecDepth 20000 in
theorem ggX10_findFitting_X10_findSums : GoodIn wsX10_findFitting wsX10_findSums := goodIn_r _ [29, 7, 30, 31, 32, 28, 33, 34, 35, 36, 37, 38, 39, 40, 41, 42, 43, 44, 45, 46, 47, 48, 49, 50, 51, 52, 53, 54, 55, 56, 57, 58, 12, 59, 60, 61, 62, 63, 64, 65, 20, 21, 22, 23, 24, 66, 67, 68, 69, 70, 71, 72, 73, 74, 75, 76, 77, 78, 79, 80, 81, 82, 83, 84, 85, 86, 87, 88, 89, 90, 91, 92, 93, 94, 95, 96, 97, 98, 99, 100, 101, 102, 103, 104, 105, 106, 107, 108, 109, 110, 111, 112, 113, 114, 154, 155, 156, 157, 158, 159, 160, 161, 162, 163, 164, 165, 166, 167, 168, 169, 170, 171, 143, 144, 145, 146, 147, 148, 149, 150, 151, 152, 153] (by decide +kernel) (by decide +kernel)
set_option maxRecDepth 20000 in
theorem gX10_findFitting_X10_findSums : GoodIn wsX10_findFitting (wsV RX10 74 RX10 yX10_findSums wsX10_findSums) := goodIn_app (goodIn_of _ (by decide +kernel)) ggX10_findFitting_X10_findSums
set_option maxRecDepth 20000 in
theorem ggX10_findFitting_X10_summarize : GoodIn wsX10_findFitting wsX10_summarize := goodIn_r _ [118, 119, 120, 121, 122, 123, 3, 124, 125, 102, 126, 127, 128, 129, 110, 83, 84, 85, 86, 87, 88, 154, 155, 156, 157, 158, 159, 160, 161, 162, 163, 164, 165] (by decide +kernel) (by decide +kernel)
set_option maxRecDepth 20000 in
theorem gX10_findFitting_X10_summarize : GoodIn wsX10_findFitting (wsV RX10 81 RX10 yX10_summarize wsX10_summarize) := goodIn_app (goodIn_of _ (by decide +kernel)) ggX10_findFitting_X10_summarize
theorem dX10_findFitting_0 : decode cX10_findFitting 0 = .ok (.aload_n 2, 1) := by decide +kernel
theorem dX10_findFitting_1 : decode cX10_findFitting 1 = .ok (.getfield 50, 3) := by decide +kernel
theorem dX10_findFitting_4 : decode cX10_findFitting 4 = .ok (.astore_n 3, 1) := by decide +kernel
theorem dX10_findFitting_5 : decode cX10_findFitting 5 = .ok (.iconst 1, 1) := by decide +kernel
theorem dX10_findFitting_6 : decode cX10_findFitting 6 = .ok (.aload_n 3, 1) := by decide +kernel
theorem dX10_findFitting_7 : decode cX10_findFitting 7 = .ok (.getfield 56, 3) := by decide +kernel
theorem dX10_findFitting_10 : decode cX10_findFitting 10 = .ok (.ishl, 1) := by decide +kernel
theorem dX10_findFitting_11 : decode cX10_findFitting 11 = .ok (.istore 4, 2) := by decide +kernel
theorem dX10_findFitting_13 : decode cX10_findFitting 13 = .ok (.iconst 0, 1) := by decide +kernel
theorem dX10_findFitting_14 : decode cX10_findFitting 14 = .ok (.istore 5, 2) := by decide +kernel
theorem dX10_findFitting_16 : decode cX10_findFitting 16 = .ok (.iload 5, 2) := by decide +kernel
theorem dX10_findFitting_18 : decode cX10_findFitting 18 = .ok (.iload 4, 2) := by decide +kernel
theorem dX10_findFitting_20 : decode cX10_findFitting 20 = .ok (.if_icmp .ge 17, 3) := by decide +kernel
theorem dX10_findFitting_23 : decode cX10_findFitting 23 = .ok (.aload_n 0, 1) := by decide +kernel
theorem dX10_findFitting_24 : decode cX10_findFitting 24 = .ok (.getfield 27, 3) := by decide +kernel
theorem dX10_findFitting_27 : decode cX10_findFitting 27 = .ok (.iload 5, 2) := by decide +kernel
theorem dX10_findFitting_29 : decode cX10_findFitting 29 = .ok (.iconst 1, 1) := by decide +kernel
theorem dX10_findFitting_30 : decode cX10_findFitting 30 = .ok (.bastore, 1) := by decide +kernel
theorem dX10_findFitting_31 : decode cX10_findFitting 31 = .ok (.iinc 5 1, 3) := by decide +kernel
theorem dX10_findFitting_34 : decode cX10_findFitting 34 = .ok (.goto (-18), 3) := by decide +kernel
theorem dX10_findFitting_37 : decode cX10_findFitting 37 = .ok (.iconst 0, 1) := by decide +kernel
theorem dX10_findFitting_38 : decode cX10_findFitting 38 = .ok (.istore 5, 2) := by decide +kernel
theorem dX10_findFitting_40 : decode cX10_findFitting 40 = .ok (.iload 5, 2) := by decide +kernel
theorem dX10_findFitting_42 : decode cX10_findFitting 42 = .ok (.aload_n 2, 1) := by decide +kernel
theorem dX10_findFitting_43 : decode cX10_findFitting 43 = .ok (.getfield 61, 3) := by decide +kernel
theorem dX10_findFitting_46 : decode cX10_findFitting 46 = .ok (.if_icmp .ge 95, 3) := by decide +kernel
theorem dX10_findFitting_49 : decode cX10_findFitting 49 = .ok (.aload_n 3, 1) := by decide +kernel
theorem dX10_findFitting_50 : decode cX10_findFitting 50 = .ok (.aload_n 2, 1) := by decide +kernel
theorem dX10_findFitting_51 : decode cX10_findFitting 51 = .ok (.getfield 64, 3) := by decide +kernel
theorem dX10_findFitting_54 : decode cX10_findFitting 54 = .ok (.iload 5, 2) := by decide +kernel
theorem dX10_findFitting_56 : decode cX10_findFitting 56 = .ok (.iaload, 1) := by decide +kernel
theorem dX10_findFitting_57 : decode cX10_findFitting 57 = .ok (.aload_n 2, 1) := by decide +kernel
theorem dX10_findFitting_58 : decode cX10_findFitting 58 = .ok (.getfield 67, 3) := by decide +kernel
theorem dX10_findFitting_61 : decode cX10_findFitting 61 = .ok (.iload 5, 2) := by decide +kernel
theorem dX10_findFitting_63 : decode cX10_findFitting 63 = .ok (.iaload, 1) := by decide +kernel
theorem dX10_findFitting_64 : decode cX10_findFitting 64 = .ok (.invokevirtual 70, 3) := by decide +kernel
theorem dX10_findFitting_67 : decode cX10_findFitting 67 = .ok (.istore 6, 2) := by decide +kernel
theorem dX10_findFitting_69 : decode cX10_findFitting 69 = .ok (.aload_n 0, 1) := by decide +kernel
theorem dX10_findFitting_70 : decode cX10_findFitting 70 = .ok (.aload_n 1, 1) := by decide +kernel
theorem dX10_findFitting_71 : decode cX10_findFitting 71 = .ok (.aload_n 3, 1) := by decide +kernel
theorem dX10_findFitting_72 : decode cX10_findFitting 72 = .ok (.iload 6, 2) := by decide +kernel
theorem dX10_findFitting_74 : decode cX10_findFitting 74 = .ok (.aload_n 2, 1) := by decide +kernel
theorem dX10_findFitting_75 : decode cX10_findFitting 75 = .ok (.getfield 67, 3) := by decide +kernel
theorem dX10_findFitting_78 : decode cX10_findFitting 78 = .ok (.iload 5, 2) := by decide +kernel
theorem dX10_findFitting_80 : decode cX10_findFitting 80 = .ok (.iaload, 1) := by decide +kernel
theorem dX10_findFitting_81 : decode cX10_findFitting 81 = .ok (.invokevirtual 74, 3) := by decide +kernel
theorem dX10_findFitting_84 : decode cX10_findFitting 84 = .ok (.iconst 0, 1) := by decide +kernel
theorem dX10_findFitting_85 : decode cX10_findFitting 85 = .ok (.istore 7, 2) := by decide +kernel
theorem dX10_findFitting_87 : decode cX10_findFitting 87 = .ok (.iload 7, 2) := by decide +kernel
theorem dX10_findFitting_89 : decode cX10_findFitting 89 = .ok (.iload 4, 2) := by decide +kernel
theorem dX10_findFitting_91 : decode cX10_findFitting 91 = .ok (.if_icmp .ge 44, 3) := by decide +kernel
theorem dX10_findFitting_94 : decode cX10_findFitting 94 = .ok (.aload_n 0, 1) := by decide +kernel
theorem dX10_findFitting_95 : decode cX10_findFitting 95 = .ok (.getfield 27, 3) := by decide +kernel
theorem dX10_findFitting_98 : decode cX10_findFitting 98 = .ok (.iload 7, 2) := by decide +kernel
theorem dX10_findFitting_100 : decode cX10_findFitting 100 = .ok (.dup2, 1) := by decide +kernel
theorem dX10_findFitting_101 : decode cX10_findFitting 101 = .ok (.baload, 1) := by decide +kernel
theorem dX10_findFitting_102 : decode cX10_findFitting 102 = .ok (.aload_n 0, 1) := by decide +kernel
theorem dX10_findFitting_103 : decode cX10_findFitting 103 = .ok (.getfield 35, 3) := by decide +kernel
theorem dX10_findFitting_106 : decode cX10_findFitting 106 = .ok (.iload 7, 2) := by decide +kernel
theorem dX10_findFitting_108 : decode cX10_findFitting 108 = .ok (.iload 6, 2) := by decide +kernel
theorem dX10_findFitting_110 : decode cX10_findFitting 110 = .ok (.iand, 1) := by decide +kernel
theorem dX10_findFitting_111 : decode cX10_findFitting 111 = .ok (.iaload, 1) := by decide +kernel
theorem dX10_findFitting_112 : decode cX10_findFitting 112 = .ok (.aload_n 2, 1) := by decide +kernel
theorem dX10_findFitting_113 : decode cX10_findFitting 113 = .ok (.getfield 78, 3) := by decide +kernel
theorem dX10_findFitting_116 : decode cX10_findFitting 116 = .ok (.iload 5, 2) := by decide +kernel
theorem dX10_findFitting_118 : decode cX10_findFitting 118 = .ok (.iaload, 1) := by decide +kernel
theorem dX10_findFitting_119 : decode cX10_findFitting 119 = .ok (.if_icmp .ne 7, 3) := by decide +kernel
theorem dX10_findFitting_122 : decode cX10_findFitting 122 = .ok (.iconst 1, 1) := by decide +kernel
theorem dX10_findFitting_123 : decode cX10_findFitting 123 = .ok (.goto 4, 3) := by decide +kernel
theorem dX10_findFitting_126 : decode cX10_findFitting 126 = .ok (.iconst 0, 1) := by decide +kernel
theorem dX10_findFitting_127 : decode cX10_findFitting 127 = .ok (.iand, 1) := by decide +kernel
theorem dX10_findFitting_128 : decode cX10_findFitting 128 = .ok (.bastore, 1) := by decide +kernel
theorem dX10_findFitting_129 : decode cX10_findFitting 129 = .ok (.iinc 7 1, 3) := by decide +kernel
theorem dX10_findFitting_132 : decode cX10_findFitting 132 = .ok (.goto (-45), 3) := by decide +kernel
theorem dX10_findFitting_135 : decode cX10_findFitting 135 = .ok (.iinc 5 1, 3) := by decide +kernel
theorem dX10_findFitting_138 : decode cX10_findFitting 138 = .ok (.goto (-98), 3) := by decide +kernel
theorem dX10_findFitting_141 : decode cX10_findFitting 141 = .ok (.aload_n 0, 1) := by decide +kernel
theorem dX10_findFitting_142 : decode cX10_findFitting 142 = .ok (.iload 4, 2) := by decide +kernel
theorem dX10_findFitting_144 : decode cX10_findFitting 144 = .ok (.invokevirtual 81, 3) := by decide +kernel
theorem dX10_findFitting_147 : decode cX10_findFitting 147 = .ok (.return_, 1) := by decide +kernel
set_option maxRecDepth 20000 in
theorem ggX10_summarize_J6_bitCount_0f7a4 : GoodIn wsX10_summarize wsJ6_bitCount_0f7a4 := goodIn_r _ [17, 18, 19, 20] (by decide +kernel) (by decide +kernel)
set_option maxRecDepth 20000 in
theorem gX10_summarize_J6_bitCount_0f7a4 : GoodIn wsX10_summarize (va_wsS RX10 85 yJ6_bitCount_0f7a4 wsJ6_bitCount_0f7a4) := goodIn_app (goodIn_of _ (by decide +kernel)) ggX10_summarize_J6_bitCount_0f7a4
theorem dX10_summarize_0 : decode cX10_summarize 0 = .ok (.aload_n 0, 1) := by decide +kernel
theorem dX10_summarize_1 : decode cX10_summarize 1 = .ok (.iconst 0, 1) := by decide +kernel
theorem dX10_summarize_2 : decode cX10_summarize 2 = .ok (.putfield 11, 3) := by decide +kernel
theorem dX10_summarize_5 : decode cX10_summarize 5 = .ok (.aload_n 0, 1) := by decide +kernel
theorem dX10_summarize_6 : decode cX10_summarize 6 = .ok (.bipush 10, 2) := by decide +kernel
theorem dX10_summarize_8 : decode cX10_summarize 8 = .ok (.putfield 15, 3) := by decide +kernel
theorem dX10_summarize_11 : decode cX10_summarize 11 = .ok (.aload_n 0, 1) := by decide +kernel
theorem dX10_summarize_12 : decode cX10_summarize 12 = .ok (.iconst 0, 1) := by decide +kernel
theorem dX10_summarize_13 : decode cX10_summarize 13 = .ok (.putfield 18, 3) := by decide +kernel
theorem dX10_summarize_16 : decode cX10_summarize 16 = .ok (.aload_n 0, 1) := by decide +kernel
theorem dX10_summarize_17 : decode cX10_summarize 17 = .ok (.iload_n 1, 1) := by decide +kernel
theorem dX10_summarize_18 : decode cX10_summarize 18 = .ok (.iconst 1, 1) := by decide +kernel
theorem dX10_summarize_19 : decode cX10_summarize 19 = .ok (.isub, 1) := by decide +kernel
theorem dX10_summarize_20 : decode cX10_summarize 20 = .ok (.putfield 21, 3) := by decide +kernel
theorem dX10_summarize_23 : decode cX10_summarize 23 = .ok (.aload_n 0, 1) := by decide +kernel
theorem dX10_summarize_24 : decode cX10_summarize 24 = .ok (.iload_n 1, 1) := by decide +kernel
theorem dX10_summarize_25 : decode cX10_summarize 25 = .ok (.iconst 1, 1) := by decide +kernel
theorem dX10_summarize_26 : decode cX10_summarize 26 = .ok (.isub, 1) := by decide +kernel
theorem dX10_summarize_27 : decode cX10_summarize 27 = .ok (.putfield 24, 3) := by decide +kernel
theorem dX10_summarize_30 : decode cX10_summarize 30 = .ok (.iconst 0, 1) := by decide +kernel
theorem dX10_summarize_31 : decode cX10_summarize 31 = .ok (.istore_n 2, 1) := by decide +kernel
theorem dX10_summarize_32 : decode cX10_summarize 32 = .ok (.iload_n 2, 1) := by decide +kernel
theorem dX10_summarize_33 : decode cX10_summarize 33 = .ok (.iload_n 1, 1) := by decide +kernel
theorem dX10_summarize_34 : decode cX10_summarize 34 = .ok (.if_icmp .ge 80, 3) := by decide +kernel
theorem dX10_summarize_37 : decode cX10_summarize 37 = .ok (.aload_n 0, 1) := by decide +kernel
theorem dX10_summarize_38 : decode cX10_summarize 38 = .ok (.getfield 27, 3) := by decide +kernel
theorem dX10_summarize_41 : decode cX10_summarize 41 = .ok (.iload_n 2, 1) := by decide +kernel
theorem dX10_summarize_42 : decode cX10_summarize 42 = .ok (.baload, 1) := by decide +kernel
theorem dX10_summarize_43 : decode cX10_summarize 43 = .ok (.ifCond .eq 65, 3) := by decide +kernel
theorem dX10_summarize_46 : decode cX10_summarize 46 = .ok (.aload_n 0, 1) := by decide +kernel
theorem dX10_summarize_47 : decode cX10_summarize 47 = .ok (.dup, 1) := by decide +kernel
theorem dX10_summarize_48 : decode cX10_summarize 48 = .ok (.getfield 11, 3) := by decide +kernel
theorem dX10_summarize_51 : decode cX10_summarize 51 = .ok (.iconst 1, 1) := by decide +kernel
theorem dX10_summarize_52 : decode cX10_summarize 52 = .ok (.iadd, 1) := by decide +kernel
theorem dX10_summarize_53 : decode cX10_summarize 53 = .ok (.putfield 11, 3) := by decide +kernel
theorem dX10_summarize_56 : decode cX10_summarize 56 = .ok (.aload_n 0, 1) := by decide +kernel
theorem dX10_summarize_57 : decode cX10_summarize 57 = .ok (.aload_n 0, 1) := by decide +kernel
theorem dX10_summarize_58 : decode cX10_summarize 58 = .ok (.getfield 15, 3) := by decide +kernel
theorem dX10_summarize_61 : decode cX10_summarize 61 = .ok (.iload_n 2, 1) := by decide +kernel
theorem dX10_summarize_62 : decode cX10_summarize 62 = .ok (.invokestatic 85, 3) := by decide +kernel
theorem dX10_summarize_65 : decode cX10_summarize 65 = .ok (.invokestatic 91, 3) := by decide +kernel
theorem dX10_summarize_68 : decode cX10_summarize 68 = .ok (.putfield 15, 3) := by decide +kernel
theorem dX10_summarize_71 : decode cX10_summarize 71 = .ok (.aload_n 0, 1) := by decide +kernel
theorem dX10_summarize_72 : decode cX10_summarize 72 = .ok (.aload_n 0, 1) := by decide +kernel
theorem dX10_summarize_73 : decode cX10_summarize 73 = .ok (.getfield 18, 3) := by decide +kernel
theorem dX10_summarize_76 : decode cX10_summarize 76 = .ok (.iload_n 2, 1) := by decide +kernel
theorem dX10_summarize_77 : decode cX10_summarize 77 = .ok (.invokestatic 85, 3) := by decide +kernel
theorem dX10_summarize_80 : decode cX10_summarize 80 = .ok (.invokestatic 96, 3) := by decide +kernel
theorem dX10_summarize_83 : decode cX10_summarize 83 = .ok (.putfield 18, 3) := by decide +kernel
theorem dX10_summarize_86 : decode cX10_summarize 86 = .ok (.aload_n 0, 1) := by decide +kernel
theorem dX10_summarize_87 : decode cX10_summarize 87 = .ok (.dup, 1) := by decide +kernel
theorem dX10_summarize_88 : decode cX10_summarize 88 = .ok (.getfield 21, 3) := by decide +kernel
theorem dX10_summarize_91 : decode cX10_summarize 91 = .ok (.iload_n 2, 1) := by decide +kernel
theorem dX10_summarize_92 : decode cX10_summarize 92 = .ok (.iand, 1) := by decide +kernel
theorem dX10_summarize_93 : decode cX10_summarize 93 = .ok (.putfield 21, 3) := by decide +kernel
theorem dX10_summarize_96 : decode cX10_summarize 96 = .ok (.aload_n 0, 1) := by decide +kernel
theorem dX10_summarize_97 : decode cX10_summarize 97 = .ok (.dup, 1) := by decide +kernel
theorem dX10_summarize_98 : decode cX10_summarize 98 = .ok (.getfield 24, 3) := by decide +kernel
theorem dX10_summarize_101 : decode cX10_summarize 101 = .ok (.iload_n 2, 1) := by decide +kernel
theorem dX10_summarize_102 : decode cX10_summarize 102 = .ok (.iconst (-1), 1) := by decide +kernel
theorem dX10_summarize_103 : decode cX10_summarize 103 = .ok (.ixor, 1) := by decide +kernel
theorem dX10_summarize_104 : decode cX10_summarize 104 = .ok (.iand, 1) := by decide +kernel
theorem dX10_summarize_105 : decode cX10_summarize 105 = .ok (.putfield 24, 3) := by decide +kernel
theorem dX10_summarize_108 : decode cX10_summarize 108 = .ok (.iinc 2 1, 3) := by decide +kernel
theorem dX10_summarize_111 : decode cX10_summarize 111 = .ok (.goto (-79), 3) := by decide +kernel
theorem dX10_summarize_114 : decode cX10_summarize 114 = .ok (.return_, 1) := by decide +kernel
set_option maxRecDepth 20000 in
theorem ggX10_findQuestion_X0_forget : GoodIn wsX10_findQuestion wsX0_forget := goodIn_r _ [7, 8, 156, 157, 158, 159] (by decide +kernel) (by decide +kernel)
set_option maxRecDepth 20000 in
theorem gX10_findQuestion_X0_forget : GoodIn wsX10_findQuestion (wsV RX10 99 RX0 yX0_forget wsX0_forget) := goodIn_app (goodIn_of _ (by decide +kernel)) ggX10_findQuestion_X0_forget
set_option maxRecDepth 20000 in
theorem ggX10_findQuestion_X8_those : GoodIn wsX10_findQuestion wsX8_those := goodIn_r _ [13, 14, 15, 16, 17, 12, 18, 19, 20, 21, 22, 23, 24, 145, 146, 147, 148, 149, 150, 151, 152, 153, 154, 155] (by decide +kernel) (by decide +kernel)
set_option maxRecDepth 20000 in
theorem gX10_findQuestion_X8_those : GoodIn wsX10_findQuestion (wsV RX10 70 RX8 yX8_those wsX8_those) := goodIn_app (goodIn_of _ (by decide +kernel)) ggX10_findQuestion_X8_those
set_option maxRecDepth 20000 in
theorem ggX10_findQuestion_X10_mostAlike : GoodIn wsX10_findQuestion wsX10_mostAlike := goodIn_r _ [29, 30, 31, 32, 33, 34, 35, 36, 37, 38, 39, 40, 41, 42, 43, 44, 45, 46, 47, 48, 49, 28, 50, 51, 52, 53, 54, 55, 56, 57, 58, 59, 60, 61, 62, 63, 64, 65, 66, 67, 68, 69, 70, 71, 72, 73, 74, 75, 76, 77, 78, 79, 12, 80, 81, 82, 83, 84, 85, 86, 20, 21, 22, 23, 24, 87, 88, 89, 90, 91, 92, 93, 94, 95, 96, 97, 98, 99, 100, 101, 102, 103, 104, 105, 106, 107, 108, 109, 110, 111, 112, 113, 114, 115, 116, 117, 118, 119, 120, 121, 122, 123, 124, 125, 126, 127, 128, 129, 130, 131, 132, 133, 134, 135, 136, 137, 160, 161, 162, 163, 164, 165, 166, 167, 168, 169, 170, 171, 145, 146, 147, 148, 149, 150, 151, 152, 153, 154, 155, 172, 173, 174, 175, 176, 177] (by decide +kernel) (by decide +kernel)
set_option maxRecDepth 20000 in
theorem gX10_findQuestion_X10_mostAlike : GoodIn wsX10_findQuestion (wsV RX10 110 RX10 yX10_mostAlike wsX10_mostAlike) := goodIn_app (goodIn_of _ (by decide +kernel)) ggX10_findQuestion_X10_mostAlike
set_option maxRecDepth 20000 in
theorem ggX10_findQuestion_X0_offer : GoodIn wsX10_findQuestion wsX0_offer := goodIn_r _ [141, 8, 142, 143, 144, 156, 157, 158, 159] (by decide +kernel) (by decide +kernel)
set_option maxRecDepth 20000 in
theorem gX10_findQuestion_X0_offer : GoodIn wsX10_findQuestion (wsV RX10 114 RX0 yX0_offer wsX0_offer) := goodIn_app (goodIn_of _ (by decide +kernel)) ggX10_findQuestion_X0_offer
theorem dX10_findQuestion_0 : decode cX10_findQuestion 0 = .ok (.aload_n 3, 1) := by decide +kernel
theorem dX10_findQuestion_1 : decode cX10_findQuestion 1 = .ok (.invokevirtual 99, 3) := by decide +kernel
theorem dX10_findQuestion_4 : decode cX10_findQuestion 4 = .ok (.iconst 0, 1) := by decide +kernel
theorem dX10_findQuestion_5 : decode cX10_findQuestion 5 = .ok (.istore 4, 2) := by decide +kernel
theorem dX10_findQuestion_7 : decode cX10_findQuestion 7 = .ok (.iload 4, 2) := by decide +kernel
theorem dX10_findQuestion_9 : decode cX10_findQuestion 9 = .ok (.aload_n 2, 1) := by decide +kernel
theorem dX10_findQuestion_10 : decode cX10_findQuestion 10 = .ok (.getfield 104, 3) := by decide +kernel
theorem dX10_findQuestion_13 : decode cX10_findQuestion 13 = .ok (.if_icmp .ge 56, 3) := by decide +kernel
theorem dX10_findQuestion_16 : decode cX10_findQuestion 16 = .ok (.iconst 0, 1) := by decide +kernel
theorem dX10_findQuestion_17 : decode cX10_findQuestion 17 = .ok (.istore 5, 2) := by decide +kernel
theorem dX10_findQuestion_19 : decode cX10_findQuestion 19 = .ok (.iload 5, 2) := by decide +kernel
theorem dX10_findQuestion_21 : decode cX10_findQuestion 21 = .ok (.aload_n 2, 1) := by decide +kernel
theorem dX10_findQuestion_22 : decode cX10_findQuestion 22 = .ok (.getfield 107, 3) := by decide +kernel
theorem dX10_findQuestion_25 : decode cX10_findQuestion 25 = .ok (.if_icmp .ge 38, 3) := by decide +kernel
theorem dX10_findQuestion_28 : decode cX10_findQuestion 28 = .ok (.aload_n 2, 1) := by decide +kernel
theorem dX10_findQuestion_29 : decode cX10_findQuestion 29 = .ok (.iload 5, 2) := by decide +kernel
theorem dX10_findQuestion_31 : decode cX10_findQuestion 31 = .ok (.iload 4, 2) := by decide +kernel
theorem dX10_findQuestion_33 : decode cX10_findQuestion 33 = .ok (.invokevirtual 70, 3) := by decide +kernel
theorem dX10_findQuestion_36 : decode cX10_findQuestion 36 = .ok (.istore 6, 2) := by decide +kernel
theorem dX10_findQuestion_38 : decode cX10_findQuestion 38 = .ok (.aload_n 3, 1) := by decide +kernel
theorem dX10_findQuestion_39 : decode cX10_findQuestion 39 = .ok (.aload_n 0, 1) := by decide +kernel
theorem dX10_findQuestion_40 : decode cX10_findQuestion 40 = .ok (.aload_n 1, 1) := by decide +kernel
theorem dX10_findQuestion_41 : decode cX10_findQuestion 41 = .ok (.aload_n 2, 1) := by decide +kernel
theorem dX10_findQuestion_42 : decode cX10_findQuestion 42 = .ok (.iload 6, 2) := by decide +kernel
theorem dX10_findQuestion_44 : decode cX10_findQuestion 44 = .ok (.iload 4, 2) := by decide +kernel
theorem dX10_findQuestion_46 : decode cX10_findQuestion 46 = .ok (.invokevirtual 110, 3) := by decide +kernel
theorem dX10_findQuestion_49 : decode cX10_findQuestion 49 = .ok (.ineg, 1) := by decide +kernel
theorem dX10_findQuestion_50 : decode cX10_findQuestion 50 = .ok (.iload 4, 2) := by decide +kernel
theorem dX10_findQuestion_52 : decode cX10_findQuestion 52 = .ok (.iload 5, 2) := by decide +kernel
theorem dX10_findQuestion_54 : decode cX10_findQuestion 54 = .ok (.invokevirtual 114, 3) := by decide +kernel
theorem dX10_findQuestion_57 : decode cX10_findQuestion 57 = .ok (.iinc 5 1, 3) := by decide +kernel
theorem dX10_findQuestion_60 : decode cX10_findQuestion 60 = .ok (.goto (-41), 3) := by decide +kernel
theorem dX10_findQuestion_63 : decode cX10_findQuestion 63 = .ok (.iinc 4 1, 3) := by decide +kernel
theorem dX10_findQuestion_66 : decode cX10_findQuestion 66 = .ok (.goto (-59), 3) := by decide +kernel
theorem dX10_findQuestion_69 : decode cX10_findQuestion 69 = .ok (.return_, 1) := by decide +kernel
set_option maxRecDepth 20000 in
theorem ggX10_mostAlike_J6_bitCount_0f7a4 : GoodIn wsX10_mostAlike wsJ6_bitCount_0f7a4 := goodIn_r _ [14, 15, 16, 17] (by decide +kernel) (by decide +kernel)
set_option maxRecDepth 20000 in
theorem gX10_mostAlike_J6_bitCount_0f7a4 : GoodIn wsX10_mostAlike (va_wsS RX10 85 yJ6_bitCount_0f7a4 wsJ6_bitCount_0f7a4) := goodIn_app (goodIn_of _ (by decide +kernel)) ggX10_mostAlike_J6_bitCount_0f7a4
set_option maxRecDepth 20000 in
theorem ggX10_mostAlike_X10_findSums : GoodIn wsX10_mostAlike wsX10_findSums := goodIn_r _ [22, 6, 23, 24, 25, 21, 26, 27, 28, 29, 30, 31, 32, 33, 34, 35, 36, 37, 38, 39, 40, 41, 42, 43, 44, 45, 46, 47, 48, 49, 50, 51, 52, 53, 54, 55, 56, 57, 58, 59, 60, 61, 62, 63, 64, 65, 66, 67, 68, 69, 70, 71, 72, 73, 74, 75, 76, 77, 78, 79, 80, 81, 12, 13, 14, 15, 16, 17, 82, 83, 84, 85, 86, 87, 88, 89, 90, 91, 92, 93, 94, 9, 95, 96, 97, 98, 99, 100, 101, 11, 102, 103, 104, 105, 116, 117, 118, 119, 120, 121, 122, 123, 124, 125, 126, 127, 139, 140, 141, 142, 143, 144, 128, 129, 130, 131, 132, 133, 134, 135, 136, 137, 138] (by decide +kernel) (by decide +kernel)
set_option maxRecDepth 20000 in
theorem gX10_mostAlike_X10_findSums : GoodIn wsX10_mostAlike (wsV RX10 74 RX10 yX10_findSums wsX10_findSums) := goodIn_app (goodIn_of _ (by decide +kernel)) ggX10_mostAlike_X10_findSums
set_option maxRecDepth 20000 in
theorem ggX10_mostAlike_J7_fill_53178 : GoodIn wsX10_mostAlike wsJ7_fill_53178 := goodIn_r _ [109] (by decide +kernel) (by decide +kernel)
set_option maxRecDepth 20000 in
theorem gX10_mostAlike_J7_fill_53178 : GoodIn wsX10_mostAlike (va_wsS RX10 118 yJ7_fill_53178 wsJ7_fill_53178) := goodIn_app (goodIn_of _ (by decide +kernel)) ggX10_mostAlike_J7_fill_53178
set_option maxRecDepth 20000 in
theorem ggX10_mostAlike_X10_shareWith : GoodIn wsX10_mostAlike wsX10_shareWith := goodIn_r _ [113, 114, 5, 115, 116, 117, 118, 119, 120, 121, 122, 123, 124, 125, 126, 127] (by decide +kernel) (by decide +kernel)
set_option maxRecDepth 20000 in
theorem gX10_mostAlike_X10_shareWith : GoodIn wsX10_mostAlike (wsV RX10 124 RX10 yX10_shareWith wsX10_shareWith) := goodIn_app (goodIn_of _ (by decide +kernel)) ggX10_mostAlike_X10_shareWith
theorem dX10_mostAlike_0 : decode cX10_mostAlike 0 = .ok (.iload_n 3, 1) := by decide +kernel
theorem dX10_mostAlike_1 : decode cX10_mostAlike 1 = .ok (.invokestatic 85, 3) := by decide +kernel
theorem dX10_mostAlike_4 : decode cX10_mostAlike 4 = .ok (.istore 5, 2) := by decide +kernel
theorem dX10_mostAlike_6 : decode cX10_mostAlike 6 = .ok (.iload 5, 2) := by decide +kernel
theorem dX10_mostAlike_8 : decode cX10_mostAlike 8 = .ok (.iconst 2, 1) := by decide +kernel
theorem dX10_mostAlike_9 : decode cX10_mostAlike 9 = .ok (.if_icmp .ge 8, 3) := by decide +kernel
theorem dX10_mostAlike_12 : decode cX10_mostAlike 12 = .ok (.aload_n 0, 1) := by decide +kernel
theorem dX10_mostAlike_13 : decode cX10_mostAlike 13 = .ok (.getfield 11, 3) := by decide +kernel
theorem dX10_mostAlike_16 : decode cX10_mostAlike 16 = .ok (.ireturn, 1) := by decide +kernel
theorem dX10_mostAlike_17 : decode cX10_mostAlike 17 = .ok (.aload_n 0, 1) := by decide +kernel
theorem dX10_mostAlike_18 : decode cX10_mostAlike 18 = .ok (.aload_n 1, 1) := by decide +kernel
theorem dX10_mostAlike_19 : decode cX10_mostAlike 19 = .ok (.aload_n 2, 1) := by decide +kernel
theorem dX10_mostAlike_20 : decode cX10_mostAlike 20 = .ok (.iload_n 3, 1) := by decide +kernel
theorem dX10_mostAlike_21 : decode cX10_mostAlike 21 = .ok (.iload 4, 2) := by decide +kernel
theorem dX10_mostAlike_23 : decode cX10_mostAlike 23 = .ok (.invokevirtual 74, 3) := by decide +kernel
theorem dX10_mostAlike_26 : decode cX10_mostAlike 26 = .ok (.aload_n 0, 1) := by decide +kernel
theorem dX10_mostAlike_27 : decode cX10_mostAlike 27 = .ok (.getfield 38, 3) := by decide +kernel
theorem dX10_mostAlike_30 : decode cX10_mostAlike 30 = .ok (.iconst 0, 1) := by decide +kernel
theorem dX10_mostAlike_31 : decode cX10_mostAlike 31 = .ok (.invokestatic 118, 3) := by decide +kernel
theorem dX10_mostAlike_34 : decode cX10_mostAlike 34 = .ok (.iconst 0, 1) := by decide +kernel
theorem dX10_mostAlike_35 : decode cX10_mostAlike 35 = .ok (.istore 6, 2) := by decide +kernel
theorem dX10_mostAlike_37 : decode cX10_mostAlike 37 = .ok (.iload 6, 2) := by decide +kernel
theorem dX10_mostAlike_39 : decode cX10_mostAlike 39 = .ok (.iconst 1, 1) := by decide +kernel
theorem dX10_mostAlike_40 : decode cX10_mostAlike 40 = .ok (.aload_n 2, 1) := by decide +kernel
theorem dX10_mostAlike_41 : decode cX10_mostAlike 41 = .ok (.getfield 56, 3) := by decide +kernel
theorem dX10_mostAlike_44 : decode cX10_mostAlike 44 = .ok (.ishl, 1) := by decide +kernel
theorem dX10_mostAlike_45 : decode cX10_mostAlike 45 = .ok (.if_icmp .ge 32, 3) := by decide +kernel
theorem dX10_mostAlike_48 : decode cX10_mostAlike 48 = .ok (.aload_n 0, 1) := by decide +kernel
theorem dX10_mostAlike_49 : decode cX10_mostAlike 49 = .ok (.getfield 27, 3) := by decide +kernel
theorem dX10_mostAlike_52 : decode cX10_mostAlike 52 = .ok (.iload 6, 2) := by decide +kernel
theorem dX10_mostAlike_54 : decode cX10_mostAlike 54 = .ok (.baload, 1) := by decide +kernel
theorem dX10_mostAlike_55 : decode cX10_mostAlike 55 = .ok (.ifCond .eq 16, 3) := by decide +kernel
theorem dX10_mostAlike_58 : decode cX10_mostAlike 58 = .ok (.aload_n 0, 1) := by decide +kernel
theorem dX10_mostAlike_59 : decode cX10_mostAlike 59 = .ok (.getfield 38, 3) := by decide +kernel
theorem dX10_mostAlike_62 : decode cX10_mostAlike 62 = .ok (.iload 6, 2) := by decide +kernel
theorem dX10_mostAlike_64 : decode cX10_mostAlike 64 = .ok (.iload_n 3, 1) := by decide +kernel
theorem dX10_mostAlike_65 : decode cX10_mostAlike 65 = .ok (.iand, 1) := by decide +kernel
theorem dX10_mostAlike_66 : decode cX10_mostAlike 66 = .ok (.dup2, 1) := by decide +kernel
theorem dX10_mostAlike_67 : decode cX10_mostAlike 67 = .ok (.iaload, 1) := by decide +kernel
theorem dX10_mostAlike_68 : decode cX10_mostAlike 68 = .ok (.iconst 1, 1) := by decide +kernel
theorem dX10_mostAlike_69 : decode cX10_mostAlike 69 = .ok (.iadd, 1) := by decide +kernel
theorem dX10_mostAlike_70 : decode cX10_mostAlike 70 = .ok (.iastore, 1) := by decide +kernel
theorem dX10_mostAlike_71 : decode cX10_mostAlike 71 = .ok (.iinc 6 1, 3) := by decide +kernel
theorem dX10_mostAlike_74 : decode cX10_mostAlike 74 = .ok (.goto (-37), 3) := by decide +kernel
theorem dX10_mostAlike_77 : decode cX10_mostAlike 77 = .ok (.aload_n 0, 1) := by decide +kernel
theorem dX10_mostAlike_78 : decode cX10_mostAlike 78 = .ok (.getfield 47, 3) := by decide +kernel
theorem dX10_mostAlike_81 : decode cX10_mostAlike 81 = .ok (.iconst 0, 1) := by decide +kernel
theorem dX10_mostAlike_82 : decode cX10_mostAlike 82 = .ok (.invokestatic 118, 3) := by decide +kernel
theorem dX10_mostAlike_85 : decode cX10_mostAlike 85 = .ok (.iconst 0, 1) := by decide +kernel
theorem dX10_mostAlike_86 : decode cX10_mostAlike 86 = .ok (.istore 6, 2) := by decide +kernel
theorem dX10_mostAlike_88 : decode cX10_mostAlike 88 = .ok (.iconst 0, 1) := by decide +kernel
theorem dX10_mostAlike_89 : decode cX10_mostAlike 89 = .ok (.istore 7, 2) := by decide +kernel
theorem dX10_mostAlike_91 : decode cX10_mostAlike 91 = .ok (.iconst 0, 1) := by decide +kernel
theorem dX10_mostAlike_92 : decode cX10_mostAlike 92 = .ok (.istore 8, 2) := by decide +kernel
theorem dX10_mostAlike_94 : decode cX10_mostAlike 94 = .ok (.iload 8, 2) := by decide +kernel
theorem dX10_mostAlike_96 : decode cX10_mostAlike 96 = .ok (.iconst 1, 1) := by decide +kernel
theorem dX10_mostAlike_97 : decode cX10_mostAlike 97 = .ok (.iload 5, 2) := by decide +kernel
theorem dX10_mostAlike_99 : decode cX10_mostAlike 99 = .ok (.ishl, 1) := by decide +kernel
theorem dX10_mostAlike_100 : decode cX10_mostAlike 100 = .ok (.if_icmp .ge 52, 3) := by decide +kernel
theorem dX10_mostAlike_103 : decode cX10_mostAlike 103 = .ok (.aload_n 0, 1) := by decide +kernel
theorem dX10_mostAlike_104 : decode cX10_mostAlike 104 = .ok (.getfield 38, 3) := by decide +kernel
theorem dX10_mostAlike_107 : decode cX10_mostAlike 107 = .ok (.iload 7, 2) := by decide +kernel
theorem dX10_mostAlike_109 : decode cX10_mostAlike 109 = .ok (.iaload, 1) := by decide +kernel
theorem dX10_mostAlike_110 : decode cX10_mostAlike 110 = .ok (.ifCond .le 28, 3) := by decide +kernel
theorem dX10_mostAlike_113 : decode cX10_mostAlike 113 = .ok (.iload 6, 2) := by decide +kernel
theorem dX10_mostAlike_115 : decode cX10_mostAlike 115 = .ok (.aload_n 0, 1) := by decide +kernel
theorem dX10_mostAlike_116 : decode cX10_mostAlike 116 = .ok (.aload_n 0, 1) := by decide +kernel
theorem dX10_mostAlike_117 : decode cX10_mostAlike 117 = .ok (.getfield 35, 3) := by decide +kernel
theorem dX10_mostAlike_120 : decode cX10_mostAlike 120 = .ok (.iload 7, 2) := by decide +kernel
theorem dX10_mostAlike_122 : decode cX10_mostAlike 122 = .ok (.iaload, 1) := by decide +kernel
theorem dX10_mostAlike_123 : decode cX10_mostAlike 123 = .ok (.aload_n 0, 1) := by decide +kernel
theorem dX10_mostAlike_124 : decode cX10_mostAlike 124 = .ok (.getfield 38, 3) := by decide +kernel
theorem dX10_mostAlike_127 : decode cX10_mostAlike 127 = .ok (.iload 7, 2) := by decide +kernel
theorem dX10_mostAlike_129 : decode cX10_mostAlike 129 = .ok (.iaload, 1) := by decide +kernel
theorem dX10_mostAlike_130 : decode cX10_mostAlike 130 = .ok (.invokevirtual 124, 3) := by decide +kernel
theorem dX10_mostAlike_133 : decode cX10_mostAlike 133 = .ok (.invokestatic 96, 3) := by decide +kernel
theorem dX10_mostAlike_136 : decode cX10_mostAlike 136 = .ok (.istore 6, 2) := by decide +kernel
theorem dX10_mostAlike_138 : decode cX10_mostAlike 138 = .ok (.iload 7, 2) := by decide +kernel
theorem dX10_mostAlike_140 : decode cX10_mostAlike 140 = .ok (.iload_n 3, 1) := by decide +kernel
theorem dX10_mostAlike_141 : decode cX10_mostAlike 141 = .ok (.isub, 1) := by decide +kernel
theorem dX10_mostAlike_142 : decode cX10_mostAlike 142 = .ok (.iload_n 3, 1) := by decide +kernel
theorem dX10_mostAlike_143 : decode cX10_mostAlike 143 = .ok (.iand, 1) := by decide +kernel
theorem dX10_mostAlike_144 : decode cX10_mostAlike 144 = .ok (.istore 7, 2) := by decide +kernel
theorem dX10_mostAlike_146 : decode cX10_mostAlike 146 = .ok (.iinc 8 1, 3) := by decide +kernel
theorem dX10_mostAlike_149 : decode cX10_mostAlike 149 = .ok (.goto (-55), 3) := by decide +kernel
theorem dX10_mostAlike_152 : decode cX10_mostAlike 152 = .ok (.iload 6, 2) := by decide +kernel
theorem dX10_mostAlike_154 : decode cX10_mostAlike 154 = .ok (.ireturn, 1) := by decide +kernel
theorem dX10_shareWith_0 : decode cX10_shareWith 0 = .ok (.iload_n 1, 1) := by decide +kernel
theorem dX10_shareWith_1 : decode cX10_shareWith 1 = .ok (.ldc 127, 2) := by decide +kernel
theorem dX10_shareWith_3 : decode cX10_shareWith 3 = .ok (.imul, 1) := by decide +kernel
theorem dX10_shareWith_4 : decode cX10_shareWith 4 = .ok (.bipush 21, 2) := by decide +kernel
theorem dX10_shareWith_6 : decode cX10_shareWith 6 = .ok (.iushr, 1) := by decide +kernel
theorem dX10_shareWith_7 : decode cX10_shareWith 7 = .ok (.istore_n 3, 1) := by decide +kernel
theorem dX10_shareWith_8 : decode cX10_shareWith 8 = .ok (.iconst 0, 1) := by decide +kernel
theorem dX10_shareWith_9 : decode cX10_shareWith 9 = .ok (.istore 4, 2) := by decide +kernel
theorem dX10_shareWith_11 : decode cX10_shareWith 11 = .ok (.iload 4, 2) := by decide +kernel
theorem dX10_shareWith_13 : decode cX10_shareWith 13 = .ok (.sipush 2048, 3) := by decide +kernel
theorem dX10_shareWith_16 : decode cX10_shareWith 16 = .ok (.if_icmp .ge 60, 3) := by decide +kernel
theorem dX10_shareWith_19 : decode cX10_shareWith 19 = .ok (.aload_n 0, 1) := by decide +kernel
theorem dX10_shareWith_20 : decode cX10_shareWith 20 = .ok (.getfield 47, 3) := by decide +kernel
theorem dX10_shareWith_23 : decode cX10_shareWith 23 = .ok (.iload_n 3, 1) := by decide +kernel
theorem dX10_shareWith_24 : decode cX10_shareWith 24 = .ok (.iaload, 1) := by decide +kernel
theorem dX10_shareWith_25 : decode cX10_shareWith 25 = .ok (.ifCond .eq 13, 3) := by decide +kernel
theorem dX10_shareWith_28 : decode cX10_shareWith 28 = .ok (.aload_n 0, 1) := by decide +kernel
theorem dX10_shareWith_29 : decode cX10_shareWith 29 = .ok (.getfield 44, 3) := by decide +kernel
theorem dX10_shareWith_32 : decode cX10_shareWith 32 = .ok (.iload_n 3, 1) := by decide +kernel
theorem dX10_shareWith_33 : decode cX10_shareWith 33 = .ok (.iaload, 1) := by decide +kernel
theorem dX10_shareWith_34 : decode cX10_shareWith 34 = .ok (.iload_n 1, 1) := by decide +kernel
theorem dX10_shareWith_35 : decode cX10_shareWith 35 = .ok (.if_icmp .ne 27, 3) := by decide +kernel
theorem dX10_shareWith_38 : decode cX10_shareWith 38 = .ok (.aload_n 0, 1) := by decide +kernel
theorem dX10_shareWith_39 : decode cX10_shareWith 39 = .ok (.getfield 44, 3) := by decide +kernel
theorem dX10_shareWith_42 : decode cX10_shareWith 42 = .ok (.iload_n 3, 1) := by decide +kernel
theorem dX10_shareWith_43 : decode cX10_shareWith 43 = .ok (.iload_n 1, 1) := by decide +kernel
theorem dX10_shareWith_44 : decode cX10_shareWith 44 = .ok (.iastore, 1) := by decide +kernel
theorem dX10_shareWith_45 : decode cX10_shareWith 45 = .ok (.aload_n 0, 1) := by decide +kernel
theorem dX10_shareWith_46 : decode cX10_shareWith 46 = .ok (.getfield 47, 3) := by decide +kernel
theorem dX10_shareWith_49 : decode cX10_shareWith 49 = .ok (.iload_n 3, 1) := by decide +kernel
theorem dX10_shareWith_50 : decode cX10_shareWith 50 = .ok (.dup2, 1) := by decide +kernel
theorem dX10_shareWith_51 : decode cX10_shareWith 51 = .ok (.iaload, 1) := by decide +kernel
theorem dX10_shareWith_52 : decode cX10_shareWith 52 = .ok (.iload_n 2, 1) := by decide +kernel
theorem dX10_shareWith_53 : decode cX10_shareWith 53 = .ok (.iadd, 1) := by decide +kernel
theorem dX10_shareWith_54 : decode cX10_shareWith 54 = .ok (.iastore, 1) := by decide +kernel
theorem dX10_shareWith_55 : decode cX10_shareWith 55 = .ok (.aload_n 0, 1) := by decide +kernel
theorem dX10_shareWith_56 : decode cX10_shareWith 56 = .ok (.getfield 47, 3) := by decide +kernel
theorem dX10_shareWith_59 : decode cX10_shareWith 59 = .ok (.iload_n 3, 1) := by decide +kernel
theorem dX10_shareWith_60 : decode cX10_shareWith 60 = .ok (.iaload, 1) := by decide +kernel
theorem dX10_shareWith_61 : decode cX10_shareWith 61 = .ok (.ireturn, 1) := by decide +kernel
theorem dX10_shareWith_62 : decode cX10_shareWith 62 = .ok (.iload_n 3, 1) := by decide +kernel
theorem dX10_shareWith_63 : decode cX10_shareWith 63 = .ok (.iconst 1, 1) := by decide +kernel
theorem dX10_shareWith_64 : decode cX10_shareWith 64 = .ok (.iadd, 1) := by decide +kernel
theorem dX10_shareWith_65 : decode cX10_shareWith 65 = .ok (.sipush 2047, 3) := by decide +kernel
theorem dX10_shareWith_68 : decode cX10_shareWith 68 = .ok (.iand, 1) := by decide +kernel
theorem dX10_shareWith_69 : decode cX10_shareWith 69 = .ok (.istore_n 3, 1) := by decide +kernel
theorem dX10_shareWith_70 : decode cX10_shareWith 70 = .ok (.iinc 4 1, 3) := by decide +kernel
theorem dX10_shareWith_73 : decode cX10_shareWith 73 = .ok (.goto (-62), 3) := by decide +kernel
theorem dX10_shareWith_76 : decode cX10_shareWith 76 = .ok (.iload_n 2, 1) := by decide +kernel
theorem dX10_shareWith_77 : decode cX10_shareWith 77 = .ok (.ireturn, 1) := by decide +kernel
set_option maxRecDepth 20000 in
theorem ggX10_findSums_X10_findWorths : GoodIn wsX10_findSums wsX10_findWorths := goodIn_r _ [6, 7, 8, 9, 10, 11, 12, 13, 14, 15, 16, 17, 18, 19, 20, 21, 22, 23, 24, 25, 26, 27, 28, 29, 30, 31, 32, 33, 34, 35, 36, 37, 38, 39, 40, 41, 42, 43, 44, 45, 46, 47, 48, 49, 50, 51, 52, 53, 54, 55, 56, 57, 58, 59, 60, 61, 62, 63, 64, 65, 66, 67, 68, 69, 70, 71, 72, 73, 74, 75, 76, 77, 78, 79, 80, 81, 82, 83, 84, 85, 86, 87, 88, 94, 95, 96, 97, 98, 99, 100, 101, 102, 103, 104, 105, 106, 107, 108, 109, 110, 111, 112, 113, 114, 115, 116, 117, 118, 119, 120, 121, 122] (by decide +kernel) (by decide +kernel)
set_option maxRecDepth 20000 in
theorem gX10_findSums_X10_findWorths : GoodIn wsX10_findSums (wsV RX10 128 RX10 yX10_findWorths wsX10_findWorths) := goodIn_app (goodIn_of _ (by decide +kernel)) ggX10_findSums_X10_findWorths
set_option maxRecDepth 20000 in
theorem ggX10_findSums_J6_bitCount_0f7a4 : GoodIn wsX10_findSums wsJ6_bitCount_0f7a4 := goodIn_r _ [64, 65, 66, 67] (by decide +kernel) (by decide +kernel)
set_option maxRecDepth 20000 in
theorem gX10_findSums_J6_bitCount_0f7a4 : GoodIn wsX10_findSums (va_wsS RX10 85 yJ6_bitCount_0f7a4 wsJ6_bitCount_0f7a4) := goodIn_app (goodIn_of _ (by decide +kernel)) ggX10_findSums_J6_bitCount_0f7a4
set_option maxRecDepth 20000 in
theorem ggX10_findSums_X10_sumWithin : GoodIn wsX10_findSums wsX10_sumWithin := goodIn_r _ [93, 7, 8, 9, 10, 11, 94, 95, 96, 97, 98, 99, 100, 101, 102, 103, 104, 105] (by decide +kernel) (by decide +kernel)
set_option maxRecDepth 20000 in
theorem gX10_findSums_X10_sumWithin : GoodIn wsX10_findSums (wsV RX10 131 RX10 yX10_sumWithin wsX10_sumWithin) := goodIn_app (goodIn_of _ (by decide +kernel)) ggX10_findSums_X10_sumWithin
theorem dX10_findSums_0 : decode cX10_findSums 0 = .ok (.aload_n 0, 1) := by decide +kernel
theorem dX10_findSums_1 : decode cX10_findSums 1 = .ok (.aload_n 1, 1) := by decide +kernel
theorem dX10_findSums_2 : decode cX10_findSums 2 = .ok (.aload_n 2, 1) := by decide +kernel
theorem dX10_findSums_3 : decode cX10_findSums 3 = .ok (.iload_n 3, 1) := by decide +kernel
theorem dX10_findSums_4 : decode cX10_findSums 4 = .ok (.iload 4, 2) := by decide +kernel
theorem dX10_findSums_6 : decode cX10_findSums 6 = .ok (.invokevirtual 128, 3) := by decide +kernel
theorem dX10_findSums_9 : decode cX10_findSums 9 = .ok (.iconst 1, 1) := by decide +kernel
theorem dX10_findSums_10 : decode cX10_findSums 10 = .ok (.iload_n 3, 1) := by decide +kernel
theorem dX10_findSums_11 : decode cX10_findSums 11 = .ok (.invokestatic 85, 3) := by decide +kernel
theorem dX10_findSums_14 : decode cX10_findSums 14 = .ok (.ishl, 1) := by decide +kernel
theorem dX10_findSums_15 : decode cX10_findSums 15 = .ok (.istore 5, 2) := by decide +kernel
theorem dX10_findSums_17 : decode cX10_findSums 17 = .ok (.iconst 0, 1) := by decide +kernel
theorem dX10_findSums_18 : decode cX10_findSums 18 = .ok (.istore 6, 2) := by decide +kernel
theorem dX10_findSums_20 : decode cX10_findSums 20 = .ok (.iconst 0, 1) := by decide +kernel
theorem dX10_findSums_21 : decode cX10_findSums 21 = .ok (.istore 7, 2) := by decide +kernel
theorem dX10_findSums_23 : decode cX10_findSums 23 = .ok (.iload 7, 2) := by decide +kernel
theorem dX10_findSums_25 : decode cX10_findSums 25 = .ok (.iload 5, 2) := by decide +kernel
theorem dX10_findSums_27 : decode cX10_findSums 27 = .ok (.if_icmp .ge 30, 3) := by decide +kernel
theorem dX10_findSums_30 : decode cX10_findSums 30 = .ok (.aload_n 0, 1) := by decide +kernel
theorem dX10_findSums_31 : decode cX10_findSums 31 = .ok (.getfield 35, 3) := by decide +kernel
theorem dX10_findSums_34 : decode cX10_findSums 34 = .ok (.iload 6, 2) := by decide +kernel
theorem dX10_findSums_36 : decode cX10_findSums 36 = .ok (.aload_n 0, 1) := by decide +kernel
theorem dX10_findSums_37 : decode cX10_findSums 37 = .ok (.iload 6, 2) := by decide +kernel
theorem dX10_findSums_39 : decode cX10_findSums 39 = .ok (.invokevirtual 131, 3) := by decide +kernel
theorem dX10_findSums_42 : decode cX10_findSums 42 = .ok (.iastore, 1) := by decide +kernel
theorem dX10_findSums_43 : decode cX10_findSums 43 = .ok (.iload 6, 2) := by decide +kernel
theorem dX10_findSums_45 : decode cX10_findSums 45 = .ok (.iload_n 3, 1) := by decide +kernel
theorem dX10_findSums_46 : decode cX10_findSums 46 = .ok (.isub, 1) := by decide +kernel
theorem dX10_findSums_47 : decode cX10_findSums 47 = .ok (.iload_n 3, 1) := by decide +kernel
theorem dX10_findSums_48 : decode cX10_findSums 48 = .ok (.iand, 1) := by decide +kernel
theorem dX10_findSums_49 : decode cX10_findSums 49 = .ok (.istore 6, 2) := by decide +kernel
theorem dX10_findSums_51 : decode cX10_findSums 51 = .ok (.iinc 7 1, 3) := by decide +kernel
theorem dX10_findSums_54 : decode cX10_findSums 54 = .ok (.goto (-31), 3) := by decide +kernel
theorem dX10_findSums_57 : decode cX10_findSums 57 = .ok (.return_, 1) := by decide +kernel
set_option maxRecDepth 20000 in
theorem ggX10_findWorths_X11_listMembers : GoodIn wsX10_findWorths wsX11_listMembers := goodIn_r _ [5] (by decide +kernel) (by decide +kernel)
set_option maxRecDepth 20000 in
theorem gX10_findWorths_X11_listMembers_n134 : GoodIn wsX10_findWorths (wsX11_listMembers) := ggX10_findWorths_X11_listMembers
set_option maxRecDepth 20000 in
theorem ggX10_findWorths_X5_mindsCrowd : GoodIn wsX10_findWorths wsX5_mindsCrowd := goodIn_r _ [10, 11, 12, 95, 96, 97, 98, 99, 100] (by decide +kernel) (by decide +kernel)
set_option maxRecDepth 20000 in
theorem gX10_findWorths_X5_mindsCrowd : GoodIn wsX10_findWorths (wsV RX10 138 RX5 yX5_mindsCrowd wsX5_mindsCrowd) := goodIn_app (goodIn_of _ (by decide +kernel)) ggX10_findWorths_X5_mindsCrowd
set_option maxRecDepth 20000 in
theorem ggX10_findWorths_X5_worthOf : GoodIn wsX10_findWorths wsX5_worthOf := goodIn_r _ [16, 11, 17, 18, 19, 20, 21, 22, 23, 24, 25, 26, 27, 28, 29, 30, 31, 32, 33, 34, 35, 36, 37, 38, 39, 40, 41, 42, 43, 44, 45, 46, 47, 48, 49, 50, 51, 52, 53, 54, 55, 56, 57, 58, 59, 60, 61, 62, 63, 64, 65, 66, 67, 68, 69, 70, 71, 72, 73, 74, 75, 76, 77, 78, 79, 80, 81, 82, 95, 96, 97, 98, 101, 102, 103, 104, 105, 106, 107, 108, 109, 110, 111, 99, 100] (by decide +kernel) (by decide +kernel)
set_option maxRecDepth 20000 in
theorem gX10_findWorths_X5_worthOf : GoodIn wsX10_findWorths (wsV RX10 144 RX5 yX5_worthOf wsX5_worthOf) := goodIn_app (goodIn_of _ (by decide +kernel)) ggX10_findWorths_X5_worthOf
theorem dX10_findWorths_0 : decode cX10_findWorths 0 = .ok (.iload_n 3, 1) := by decide +kernel
theorem dX10_findWorths_1 : decode cX10_findWorths 1 = .ok (.aload_n 0, 1) := by decide +kernel
theorem dX10_findWorths_2 : decode cX10_findWorths 2 = .ok (.getfield 41, 3) := by decide +kernel
theorem dX10_findWorths_5 : decode cX10_findWorths 5 = .ok (.invokestatic 134, 3) := by decide +kernel
theorem dX10_findWorths_8 : decode cX10_findWorths 8 = .ok (.istore 5, 2) := by decide +kernel
theorem dX10_findWorths_10 : decode cX10_findWorths 10 = .ok (.iconst 0, 1) := by decide +kernel
theorem dX10_findWorths_11 : decode cX10_findWorths 11 = .ok (.istore 6, 2) := by decide +kernel
theorem dX10_findWorths_13 : decode cX10_findWorths 13 = .ok (.iload 6, 2) := by decide +kernel
theorem dX10_findWorths_15 : decode cX10_findWorths 15 = .ok (.iload 5, 2) := by decide +kernel
theorem dX10_findWorths_17 : decode cX10_findWorths 17 = .ok (.if_icmp .ge 116, 3) := by decide +kernel
theorem dX10_findWorths_20 : decode cX10_findWorths 20 = .ok (.iload 6, 2) := by decide +kernel
theorem dX10_findWorths_22 : decode cX10_findWorths 22 = .ok (.iconst 1, 1) := by decide +kernel
theorem dX10_findWorths_23 : decode cX10_findWorths 23 = .ok (.iadd, 1) := by decide +kernel
theorem dX10_findWorths_24 : decode cX10_findWorths 24 = .ok (.istore 7, 2) := by decide +kernel
theorem dX10_findWorths_26 : decode cX10_findWorths 26 = .ok (.iload 7, 2) := by decide +kernel
theorem dX10_findWorths_28 : decode cX10_findWorths 28 = .ok (.iload 5, 2) := by decide +kernel
theorem dX10_findWorths_30 : decode cX10_findWorths 30 = .ok (.if_icmp .ge 97, 3) := by decide +kernel
theorem dX10_findWorths_33 : decode cX10_findWorths 33 = .ok (.iconst 0, 1) := by decide +kernel
theorem dX10_findWorths_34 : decode cX10_findWorths 34 = .ok (.istore 8, 2) := by decide +kernel
theorem dX10_findWorths_36 : decode cX10_findWorths 36 = .ok (.iconst 2, 1) := by decide +kernel
theorem dX10_findWorths_37 : decode cX10_findWorths 37 = .ok (.istore 9, 2) := by decide +kernel
theorem dX10_findWorths_39 : decode cX10_findWorths 39 = .ok (.iload 9, 2) := by decide +kernel
theorem dX10_findWorths_41 : decode cX10_findWorths 41 = .ok (.iload 5, 2) := by decide +kernel
theorem dX10_findWorths_43 : decode cX10_findWorths 43 = .ok (.if_icmp .gt 78, 3) := by decide +kernel
theorem dX10_findWorths_46 : decode cX10_findWorths 46 = .ok (.iload 9, 2) := by decide +kernel
theorem dX10_findWorths_48 : decode cX10_findWorths 48 = .ok (.iconst 2, 1) := by decide +kernel
theorem dX10_findWorths_49 : decode cX10_findWorths 49 = .ok (.if_icmp .eq 10, 3) := by decide +kernel
theorem dX10_findWorths_52 : decode cX10_findWorths 52 = .ok (.aload_n 1, 1) := by decide +kernel
theorem dX10_findWorths_53 : decode cX10_findWorths 53 = .ok (.invokevirtual 138, 3) := by decide +kernel
theorem dX10_findWorths_56 : decode cX10_findWorths 56 = .ok (.ifCond .eq 28, 3) := by decide +kernel
theorem dX10_findWorths_59 : decode cX10_findWorths 59 = .ok (.aload_n 1, 1) := by decide +kernel
theorem dX10_findWorths_60 : decode cX10_findWorths 60 = .ok (.aload_n 2, 1) := by decide +kernel
theorem dX10_findWorths_61 : decode cX10_findWorths 61 = .ok (.aload_n 0, 1) := by decide +kernel
theorem dX10_findWorths_62 : decode cX10_findWorths 62 = .ok (.getfield 41, 3) := by decide +kernel
theorem dX10_findWorths_65 : decode cX10_findWorths 65 = .ok (.iload 6, 2) := by decide +kernel
theorem dX10_findWorths_67 : decode cX10_findWorths 67 = .ok (.iaload, 1) := by decide +kernel
theorem dX10_findWorths_68 : decode cX10_findWorths 68 = .ok (.aload_n 0, 1) := by decide +kernel
theorem dX10_findWorths_69 : decode cX10_findWorths 69 = .ok (.getfield 41, 3) := by decide +kernel
theorem dX10_findWorths_72 : decode cX10_findWorths 72 = .ok (.iload 7, 2) := by decide +kernel
theorem dX10_findWorths_74 : decode cX10_findWorths 74 = .ok (.iaload, 1) := by decide +kernel
theorem dX10_findWorths_75 : decode cX10_findWorths 75 = .ok (.iload 4, 2) := by decide +kernel
theorem dX10_findWorths_77 : decode cX10_findWorths 77 = .ok (.iload 9, 2) := by decide +kernel
theorem dX10_findWorths_79 : decode cX10_findWorths 79 = .ok (.invokevirtual 144, 3) := by decide +kernel
theorem dX10_findWorths_82 : decode cX10_findWorths 82 = .ok (.istore 8, 2) := by decide +kernel
theorem dX10_findWorths_84 : decode cX10_findWorths 84 = .ok (.aload_n 0, 1) := by decide +kernel
theorem dX10_findWorths_85 : decode cX10_findWorths 85 = .ok (.getfield 31, 3) := by decide +kernel
theorem dX10_findWorths_88 : decode cX10_findWorths 88 = .ok (.iload 9, 2) := by decide +kernel
theorem dX10_findWorths_90 : decode cX10_findWorths 90 = .ok (.bipush 10, 2) := by decide +kernel
theorem dX10_findWorths_92 : decode cX10_findWorths 92 = .ok (.imul, 1) := by decide +kernel
theorem dX10_findWorths_93 : decode cX10_findWorths 93 = .ok (.aload_n 0, 1) := by decide +kernel
theorem dX10_findWorths_94 : decode cX10_findWorths 94 = .ok (.getfield 41, 3) := by decide +kernel
theorem dX10_findWorths_97 : decode cX10_findWorths 97 = .ok (.iload 6, 2) := by decide +kernel
theorem dX10_findWorths_99 : decode cX10_findWorths 99 = .ok (.iaload, 1) := by decide +kernel
theorem dX10_findWorths_100 : decode cX10_findWorths 100 = .ok (.iadd, 1) := by decide +kernel
theorem dX10_findWorths_101 : decode cX10_findWorths 101 = .ok (.bipush 10, 2) := by decide +kernel
theorem dX10_findWorths_103 : decode cX10_findWorths 103 = .ok (.imul, 1) := by decide +kernel
theorem dX10_findWorths_104 : decode cX10_findWorths 104 = .ok (.aload_n 0, 1) := by decide +kernel
theorem dX10_findWorths_105 : decode cX10_findWorths 105 = .ok (.getfield 41, 3) := by decide +kernel
theorem dX10_findWorths_108 : decode cX10_findWorths 108 = .ok (.iload 7, 2) := by decide +kernel
theorem dX10_findWorths_110 : decode cX10_findWorths 110 = .ok (.iaload, 1) := by decide +kernel
theorem dX10_findWorths_111 : decode cX10_findWorths 111 = .ok (.iadd, 1) := by decide +kernel
theorem dX10_findWorths_112 : decode cX10_findWorths 112 = .ok (.iload 8, 2) := by decide +kernel
theorem dX10_findWorths_114 : decode cX10_findWorths 114 = .ok (.iastore, 1) := by decide +kernel
theorem dX10_findWorths_115 : decode cX10_findWorths 115 = .ok (.iinc 9 1, 3) := by decide +kernel
theorem dX10_findWorths_118 : decode cX10_findWorths 118 = .ok (.goto (-79), 3) := by decide +kernel
theorem dX10_findWorths_121 : decode cX10_findWorths 121 = .ok (.iinc 7 1, 3) := by decide +kernel
theorem dX10_findWorths_124 : decode cX10_findWorths 124 = .ok (.goto (-98), 3) := by decide +kernel
theorem dX10_findWorths_127 : decode cX10_findWorths 127 = .ok (.iinc 6 1, 3) := by decide +kernel
theorem dX10_findWorths_130 : decode cX10_findWorths 130 = .ok (.goto (-117), 3) := by decide +kernel
theorem dX10_findWorths_133 : decode cX10_findWorths 133 = .ok (.return_, 1) := by decide +kernel
set_option maxRecDepth 20000 in
theorem ggX10_sumWithin_X11_listMembers : GoodIn wsX10_sumWithin wsX11_listMembers := goodIn_r _ [5] (by decide +kernel) (by decide +kernel)
set_option maxRecDepth 20000 in
theorem gX10_sumWithin_X11_listMembers_n134 : GoodIn wsX10_sumWithin (wsX11_listMembers) := ggX10_sumWithin_X11_listMembers
theorem dX10_sumWithin_0 : decode cX10_sumWithin 0 = .ok (.iload_n 1, 1) := by decide +kernel
theorem dX10_sumWithin_1 : decode cX10_sumWithin 1 = .ok (.aload_n 0, 1) := by decide +kernel
theorem dX10_sumWithin_2 : decode cX10_sumWithin 2 = .ok (.getfield 41, 3) := by decide +kernel
theorem dX10_sumWithin_5 : decode cX10_sumWithin 5 = .ok (.invokestatic 134, 3) := by decide +kernel
theorem dX10_sumWithin_8 : decode cX10_sumWithin 8 = .ok (.istore_n 2, 1) := by decide +kernel
theorem dX10_sumWithin_9 : decode cX10_sumWithin 9 = .ok (.iconst 0, 1) := by decide +kernel
theorem dX10_sumWithin_10 : decode cX10_sumWithin 10 = .ok (.istore_n 3, 1) := by decide +kernel
theorem dX10_sumWithin_11 : decode cX10_sumWithin 11 = .ok (.iconst 0, 1) := by decide +kernel
theorem dX10_sumWithin_12 : decode cX10_sumWithin 12 = .ok (.istore 4, 2) := by decide +kernel
theorem dX10_sumWithin_14 : decode cX10_sumWithin 14 = .ok (.iload 4, 2) := by decide +kernel
theorem dX10_sumWithin_16 : decode cX10_sumWithin 16 = .ok (.iload_n 2, 1) := by decide +kernel
theorem dX10_sumWithin_17 : decode cX10_sumWithin 17 = .ok (.if_icmp .ge 62, 3) := by decide +kernel
theorem dX10_sumWithin_20 : decode cX10_sumWithin 20 = .ok (.iload_n 2, 1) := by decide +kernel
theorem dX10_sumWithin_21 : decode cX10_sumWithin 21 = .ok (.bipush 10, 2) := by decide +kernel
theorem dX10_sumWithin_23 : decode cX10_sumWithin 23 = .ok (.imul, 1) := by decide +kernel
theorem dX10_sumWithin_24 : decode cX10_sumWithin 24 = .ok (.aload_n 0, 1) := by decide +kernel
theorem dX10_sumWithin_25 : decode cX10_sumWithin 25 = .ok (.getfield 41, 3) := by decide +kernel
theorem dX10_sumWithin_28 : decode cX10_sumWithin 28 = .ok (.iload 4, 2) := by decide +kernel
theorem dX10_sumWithin_30 : decode cX10_sumWithin 30 = .ok (.iaload, 1) := by decide +kernel
theorem dX10_sumWithin_31 : decode cX10_sumWithin 31 = .ok (.iadd, 1) := by decide +kernel
theorem dX10_sumWithin_32 : decode cX10_sumWithin 32 = .ok (.bipush 10, 2) := by decide +kernel
theorem dX10_sumWithin_34 : decode cX10_sumWithin 34 = .ok (.imul, 1) := by decide +kernel
theorem dX10_sumWithin_35 : decode cX10_sumWithin 35 = .ok (.istore 5, 2) := by decide +kernel
theorem dX10_sumWithin_37 : decode cX10_sumWithin 37 = .ok (.iload 4, 2) := by decide +kernel
theorem dX10_sumWithin_39 : decode cX10_sumWithin 39 = .ok (.iconst 1, 1) := by decide +kernel
theorem dX10_sumWithin_40 : decode cX10_sumWithin 40 = .ok (.iadd, 1) := by decide +kernel
theorem dX10_sumWithin_41 : decode cX10_sumWithin 41 = .ok (.istore 6, 2) := by decide +kernel
theorem dX10_sumWithin_43 : decode cX10_sumWithin 43 = .ok (.iload 6, 2) := by decide +kernel
theorem dX10_sumWithin_45 : decode cX10_sumWithin 45 = .ok (.iload_n 2, 1) := by decide +kernel
theorem dX10_sumWithin_46 : decode cX10_sumWithin 46 = .ok (.if_icmp .ge 27, 3) := by decide +kernel
theorem dX10_sumWithin_49 : decode cX10_sumWithin 49 = .ok (.iload_n 3, 1) := by decide +kernel
theorem dX10_sumWithin_50 : decode cX10_sumWithin 50 = .ok (.aload_n 0, 1) := by decide +kernel
theorem dX10_sumWithin_51 : decode cX10_sumWithin 51 = .ok (.getfield 31, 3) := by decide +kernel
theorem dX10_sumWithin_54 : decode cX10_sumWithin 54 = .ok (.iload 5, 2) := by decide +kernel
theorem dX10_sumWithin_56 : decode cX10_sumWithin 56 = .ok (.aload_n 0, 1) := by decide +kernel
theorem dX10_sumWithin_57 : decode cX10_sumWithin 57 = .ok (.getfield 41, 3) := by decide +kernel
theorem dX10_sumWithin_60 : decode cX10_sumWithin 60 = .ok (.iload 6, 2) := by decide +kernel
theorem dX10_sumWithin_62 : decode cX10_sumWithin 62 = .ok (.iaload, 1) := by decide +kernel
theorem dX10_sumWithin_63 : decode cX10_sumWithin 63 = .ok (.iadd, 1) := by decide +kernel
theorem dX10_sumWithin_64 : decode cX10_sumWithin 64 = .ok (.iaload, 1) := by decide +kernel
theorem dX10_sumWithin_65 : decode cX10_sumWithin 65 = .ok (.iadd, 1) := by decide +kernel
theorem dX10_sumWithin_66 : decode cX10_sumWithin 66 = .ok (.istore_n 3, 1) := by decide +kernel
theorem dX10_sumWithin_67 : decode cX10_sumWithin 67 = .ok (.iinc 6 1, 3) := by decide +kernel
theorem dX10_sumWithin_70 : decode cX10_sumWithin 70 = .ok (.goto (-27), 3) := by decide +kernel
theorem dX10_sumWithin_73 : decode cX10_sumWithin 73 = .ok (.iinc 4 1, 3) := by decide +kernel
theorem dX10_sumWithin_76 : decode cX10_sumWithin 76 = .ok (.goto (-62), 3) := by decide +kernel
theorem dX10_sumWithin_79 : decode cX10_sumWithin 79 = .ok (.iload_n 3, 1) := by decide +kernel
theorem dX10_sumWithin_80 : decode cX10_sumWithin 80 = .ok (.ireturn, 1) := by decide +kernel
set_option maxRecDepth 20000 in
theorem ggX11_init_X7_init : GoodIn wsX11_init wsX7_init := goodIn_r _ [49, 50, 2, 3, 51, 52, 53, 54, 55, 56, 160, 161, 162, 163, 164] (by decide +kernel) (by decide +kernel)
set_option maxRecDepth 20000 in
theorem gX11_init_X7_init_n11 : GoodIn wsX11_init (wsX7_init) := ggX11_init_X7_init
set_option maxRecDepth 20000 in
theorem ggX11_init_X9_init : GoodIn wsX11_init wsX9_init := goodIn_r _ [59, 60, 2, 3, 61, 25, 26, 62, 63, 64, 65, 66, 67, 68, 69, 70, 71, 72, 73, 74, 75, 76, 77, 78, 79, 80, 81, 82, 83, 198, 199, 200, 201, 202, 203, 204, 205, 206, 207, 208, 178, 179] (by decide +kernel) (by decide +kernel)
set_option maxRecDepth 20000 in
theorem gX11_init_X9_init : GoodIn wsX11_init (wsX9_init) := ggX11_init_X9_init
set_option maxRecDepth 20000 in
theorem ggX11_init_X4_init : GoodIn wsX11_init wsX4_init := goodIn_r _ [86, 87, 2, 3, 76, 88, 89, 90, 91, 92, 180, 181, 182, 183, 184] (by decide +kernel) (by decide +kernel)
set_option maxRecDepth 20000 in
theorem gX11_init_X4_init : GoodIn wsX11_init (wsX4_init) := ggX11_init_X4_init
set_option maxRecDepth 20000 in
theorem ggX11_init_X1_init : GoodIn wsX11_init wsX1_init := goodIn_r _ [95, 96, 2, 3, 97, 25, 26, 98, 99, 100, 101, 76, 102, 103, 104, 105, 106, 107, 108, 109, 110, 111, 65, 66, 67, 68, 69, 70, 71, 72, 73, 74, 75, 77, 78, 79, 80, 81, 82, 83, 112, 198, 199, 200, 201, 202, 203, 204, 205, 206, 207, 208, 185, 186, 187, 188, 189, 190, 191, 192, 193, 194, 195, 196, 197] (by decide +kernel) (by decide +kernel)
set_option maxRecDepth 20000 in
theorem gX11_init_X1_init : GoodIn wsX11_init (wsX1_init) := ggX11_init_X1_init
set_option maxRecDepth 20000 in
theorem ggX11_init_X8_init : GoodIn wsX11_init wsX8_init := goodIn_r _ [66, 67, 2, 3, 68, 69, 70, 71, 72, 73, 74, 75, 76, 77, 78, 79, 80, 81, 82, 83, 198, 199, 200, 201, 202, 203, 204, 205, 206, 207, 208] (by decide +kernel) (by decide +kernel)
set_option maxRecDepth 20000 in
theorem gX11_init_X8_init : GoodIn wsX11_init (wsX8_init) := ggX11_init_X8_init
set_option maxRecDepth 20000 in
theorem ggX11_init_X5_init : GoodIn wsX11_init wsX5_init := goodIn_r _ [115, 116, 2, 3, 117, 118, 119, 120, 76, 121, 209, 210, 211, 212] (by decide +kernel) (by decide +kernel)
set_option maxRecDepth 20000 in
theorem gX11_init_X5_init_n62 : GoodIn wsX11_init (wsX5_init) := ggX11_init_X5_init
set_option maxRecDepth 20000 in
theorem ggX11_init_X10_init : GoodIn wsX11_init wsX10_init := goodIn_r _ [123, 124, 2, 3, 125, 126, 127, 128, 129, 130, 131, 76, 132, 133, 134, 135, 136, 137, 213, 214, 215, 216, 217, 218, 219, 220, 221, 222, 223, 224] (by decide +kernel) (by decide +kernel)
set_option maxRecDepth 20000 in
theorem gX11_init_X10_init_n69 : GoodIn wsX11_init (wsX10_init) := ggX11_init_X10_init
set_option maxRecDepth 20000 in
theorem ggX11_init_X2_init : GoodIn wsX11_init wsX2_init := goodIn_r _ [139, 140, 2, 3, 141, 142, 76, 143, 225, 226, 227] (by decide +kernel) (by decide +kernel)
set_option maxRecDepth 20000 in
theorem gX11_init_X2_init_n76 : GoodIn wsX11_init (wsX2_init) := ggX11_init_X2_init
set_option maxRecDepth 20000 in
theorem ggX11_init_X6_init : GoodIn wsX11_init wsX6_init := goodIn_r _ [145, 146, 2, 3, 147, 76, 148, 149, 150, 130, 151, 152, 228, 229, 230, 231, 232, 233] (by decide +kernel) (by decide +kernel)
set_option maxRecDepth 20000 in
theorem gX11_init_X6_init_n83 : GoodIn wsX11_init (wsX6_init) := ggX11_init_X6_init
set_option maxRecDepth 20000 in
theorem ggX11_init_X0_init : GoodIn wsX11_init wsX0_init := goodIn_r _ [154, 155, 2, 3, 156, 157, 158, 159, 234, 235, 236, 237] (by decide +kernel) (by decide +kernel)
set_option maxRecDepth 20000 in
theorem gX11_init_X0_init_n90 : GoodIn wsX11_init (wsX0_init) := ggX11_init_X0_init
theorem dX11_init_0 : decode cX11_init 0 = .ok (.aload_n 0, 1) := by decide +kernel
theorem dX11_init_1 : decode cX11_init 1 = .ok (.invokespecial 3, 3) := by decide +kernel
theorem dX11_init_4 : decode cX11_init 4 = .ok (.aload_n 0, 1) := by decide +kernel
theorem dX11_init_5 : decode cX11_init 5 = .ok (.new 9, 3) := by decide +kernel
theorem dX11_init_8 : decode cX11_init 8 = .ok (.dup, 1) := by decide +kernel
theorem dX11_init_9 : decode cX11_init 9 = .ok (.invokespecial 11, 3) := by decide +kernel
theorem dX11_init_12 : decode cX11_init 12 = .ok (.putfield 12, 3) := by decide +kernel
theorem dX11_init_15 : decode cX11_init 15 = .ok (.aload_n 0, 1) := by decide +kernel
theorem dX11_init_16 : decode cX11_init 16 = .ok (.new 16, 3) := by decide +kernel
theorem dX11_init_19 : decode cX11_init 19 = .ok (.dup, 1) := by decide +kernel
theorem dX11_init_20 : decode cX11_init 20 = .ok (.aload_n 0, 1) := by decide +kernel
theorem dX11_init_21 : decode cX11_init 21 = .ok (.getfield 12, 3) := by decide +kernel
theorem dX11_init_24 : decode cX11_init 24 = .ok (.invokespecial 18, 3) := by decide +kernel
theorem dX11_init_27 : decode cX11_init 27 = .ok (.putfield 21, 3) := by decide +kernel
theorem dX11_init_30 : decode cX11_init 30 = .ok (.aload_n 0, 1) := by decide +kernel
theorem dX11_init_31 : decode cX11_init 31 = .ok (.new 25, 3) := by decide +kernel
theorem dX11_init_34 : decode cX11_init 34 = .ok (.dup, 1) := by decide +kernel
theorem dX11_init_35 : decode cX11_init 35 = .ok (.aload_n 0, 1) := by decide +kernel
theorem dX11_init_36 : decode cX11_init 36 = .ok (.getfield 12, 3) := by decide +kernel
theorem dX11_init_39 : decode cX11_init 39 = .ok (.invokespecial 27, 3) := by decide +kernel
theorem dX11_init_42 : decode cX11_init 42 = .ok (.putfield 28, 3) := by decide +kernel
theorem dX11_init_45 : decode cX11_init 45 = .ok (.aload_n 0, 1) := by decide +kernel
theorem dX11_init_46 : decode cX11_init 46 = .ok (.bipush 6, 2) := by decide +kernel
theorem dX11_init_48 : decode cX11_init 48 = .ok (.anewarray 32, 3) := by decide +kernel
theorem dX11_init_51 : decode cX11_init 51 = .ok (.putfield 34, 3) := by decide +kernel
theorem dX11_init_54 : decode cX11_init 54 = .ok (.aload_n 0, 1) := by decide +kernel
theorem dX11_init_55 : decode cX11_init 55 = .ok (.iconst 0, 1) := by decide +kernel
theorem dX11_init_56 : decode cX11_init 56 = .ok (.putfield 38, 3) := by decide +kernel
theorem dX11_init_59 : decode cX11_init 59 = .ok (.aload_n 0, 1) := by decide +kernel
theorem dX11_init_60 : decode cX11_init 60 = .ok (.new 42, 3) := by decide +kernel
theorem dX11_init_63 : decode cX11_init 63 = .ok (.dup, 1) := by decide +kernel
theorem dX11_init_64 : decode cX11_init 64 = .ok (.invokespecial 44, 3) := by decide +kernel
theorem dX11_init_67 : decode cX11_init 67 = .ok (.putfield 45, 3) := by decide +kernel
theorem dX11_init_70 : decode cX11_init 70 = .ok (.aload_n 0, 1) := by decide +kernel
theorem dX11_init_71 : decode cX11_init 71 = .ok (.iconst 4, 1) := by decide +kernel
theorem dX11_init_72 : decode cX11_init 72 = .ok (.anewarray 42, 3) := by decide +kernel
theorem dX11_init_75 : decode cX11_init 75 = .ok (.putfield 49, 3) := by decide +kernel
theorem dX11_init_78 : decode cX11_init 78 = .ok (.aload_n 0, 1) := by decide +kernel
theorem dX11_init_79 : decode cX11_init 79 = .ok (.new 53, 3) := by decide +kernel
theorem dX11_init_82 : decode cX11_init 82 = .ok (.dup, 1) := by decide +kernel
theorem dX11_init_83 : decode cX11_init 83 = .ok (.invokespecial 55, 3) := by decide +kernel
theorem dX11_init_86 : decode cX11_init 86 = .ok (.putfield 56, 3) := by decide +kernel
theorem dX11_init_89 : decode cX11_init 89 = .ok (.aload_n 0, 1) := by decide +kernel
theorem dX11_init_90 : decode cX11_init 90 = .ok (.new 60, 3) := by decide +kernel
theorem dX11_init_93 : decode cX11_init 93 = .ok (.dup, 1) := by decide +kernel
theorem dX11_init_94 : decode cX11_init 94 = .ok (.invokespecial 62, 3) := by decide +kernel
theorem dX11_init_97 : decode cX11_init 97 = .ok (.putfield 63, 3) := by decide +kernel
theorem dX11_init_100 : decode cX11_init 100 = .ok (.aload_n 0, 1) := by decide +kernel
theorem dX11_init_101 : decode cX11_init 101 = .ok (.new 67, 3) := by decide +kernel
theorem dX11_init_104 : decode cX11_init 104 = .ok (.dup, 1) := by decide +kernel
theorem dX11_init_105 : decode cX11_init 105 = .ok (.invokespecial 69, 3) := by decide +kernel
theorem dX11_init_108 : decode cX11_init 108 = .ok (.putfield 70, 3) := by decide +kernel
theorem dX11_init_111 : decode cX11_init 111 = .ok (.aload_n 0, 1) := by decide +kernel
theorem dX11_init_112 : decode cX11_init 112 = .ok (.new 74, 3) := by decide +kernel
theorem dX11_init_115 : decode cX11_init 115 = .ok (.dup, 1) := by decide +kernel
theorem dX11_init_116 : decode cX11_init 116 = .ok (.invokespecial 76, 3) := by decide +kernel
theorem dX11_init_119 : decode cX11_init 119 = .ok (.putfield 77, 3) := by decide +kernel
theorem dX11_init_122 : decode cX11_init 122 = .ok (.aload_n 0, 1) := by decide +kernel
theorem dX11_init_123 : decode cX11_init 123 = .ok (.new 81, 3) := by decide +kernel
theorem dX11_init_126 : decode cX11_init 126 = .ok (.dup, 1) := by decide +kernel
theorem dX11_init_127 : decode cX11_init 127 = .ok (.invokespecial 83, 3) := by decide +kernel
theorem dX11_init_130 : decode cX11_init 130 = .ok (.putfield 84, 3) := by decide +kernel
theorem dX11_init_133 : decode cX11_init 133 = .ok (.aload_n 0, 1) := by decide +kernel
theorem dX11_init_134 : decode cX11_init 134 = .ok (.new 88, 3) := by decide +kernel
theorem dX11_init_137 : decode cX11_init 137 = .ok (.dup, 1) := by decide +kernel
theorem dX11_init_138 : decode cX11_init 138 = .ok (.invokespecial 90, 3) := by decide +kernel
theorem dX11_init_141 : decode cX11_init 141 = .ok (.putfield 91, 3) := by decide +kernel
theorem dX11_init_144 : decode cX11_init 144 = .ok (.return_, 1) := by decide +kernel
set_option maxRecDepth 20000 in
theorem ggX11_feed_X7_put : GoodIn wsX11_feed wsX7_put := goodIn_r _ [7, 8, 9, 23, 24, 25, 26, 27] (by decide +kernel) (by decide +kernel)
set_option maxRecDepth 20000 in
theorem gX11_feed_X7_put : GoodIn wsX11_feed (wsV RX11 98 RX7 yX7_put wsX7_put) := goodIn_app (goodIn_of _ (by decide +kernel)) ggX11_feed_X7_put
theorem dX11_feed_0 : decode cX11_feed 0 = .ok (.aload_n 0, 1) := by decide +kernel
theorem dX11_feed_1 : decode cX11_feed 1 = .ok (.getfield 12, 3) := by decide +kernel
theorem dX11_feed_4 : decode cX11_feed 4 = .ok (.getfield 95, 3) := by decide +kernel
theorem dX11_feed_7 : decode cX11_feed 7 = .ok (.bipush 20, 2) := by decide +kernel
theorem dX11_feed_9 : decode cX11_feed 9 = .ok (.iadd, 1) := by decide +kernel
theorem dX11_feed_10 : decode cX11_feed 10 = .ok (.sipush 400, 3) := by decide +kernel
theorem dX11_feed_13 : decode cX11_feed 13 = .ok (.if_icmp .le 5, 3) := by decide +kernel
theorem dX11_feed_16 : decode cX11_feed 16 = .ok (.iconst (-1), 1) := by decide +kernel
theorem dX11_feed_17 : decode cX11_feed 17 = .ok (.ireturn, 1) := by decide +kernel
theorem dX11_feed_18 : decode cX11_feed 18 = .ok (.aload_n 0, 1) := by decide +kernel
theorem dX11_feed_19 : decode cX11_feed 19 = .ok (.getfield 12, 3) := by decide +kernel
theorem dX11_feed_22 : decode cX11_feed 22 = .ok (.iload_n 1, 1) := by decide +kernel
theorem dX11_feed_23 : decode cX11_feed 23 = .ok (.invokevirtual 98, 3) := by decide +kernel
theorem dX11_feed_26 : decode cX11_feed 26 = .ok (.aload_n 0, 1) := by decide +kernel
theorem dX11_feed_27 : decode cX11_feed 27 = .ok (.getfield 12, 3) := by decide +kernel
theorem dX11_feed_30 : decode cX11_feed 30 = .ok (.iload_n 2, 1) := by decide +kernel
theorem dX11_feed_31 : decode cX11_feed 31 = .ok (.invokevirtual 98, 3) := by decide +kernel
theorem dX11_feed_34 : decode cX11_feed 34 = .ok (.aload_n 0, 1) := by decide +kernel
theorem dX11_feed_35 : decode cX11_feed 35 = .ok (.getfield 12, 3) := by decide +kernel
theorem dX11_feed_38 : decode cX11_feed 38 = .ok (.iload_n 3, 1) := by decide +kernel
theorem dX11_feed_39 : decode cX11_feed 39 = .ok (.invokevirtual 98, 3) := by decide +kernel
theorem dX11_feed_42 : decode cX11_feed 42 = .ok (.aload_n 0, 1) := by decide +kernel
theorem dX11_feed_43 : decode cX11_feed 43 = .ok (.getfield 12, 3) := by decide +kernel
theorem dX11_feed_46 : decode cX11_feed 46 = .ok (.iload 4, 2) := by decide +kernel
theorem dX11_feed_48 : decode cX11_feed 48 = .ok (.invokevirtual 98, 3) := by decide +kernel
theorem dX11_feed_51 : decode cX11_feed 51 = .ok (.aload_n 0, 1) := by decide +kernel
theorem dX11_feed_52 : decode cX11_feed 52 = .ok (.getfield 12, 3) := by decide +kernel
theorem dX11_feed_55 : decode cX11_feed 55 = .ok (.iload 5, 2) := by decide +kernel
theorem dX11_feed_57 : decode cX11_feed 57 = .ok (.invokevirtual 98, 3) := by decide +kernel
theorem dX11_feed_60 : decode cX11_feed 60 = .ok (.aload_n 0, 1) := by decide +kernel
theorem dX11_feed_61 : decode cX11_feed 61 = .ok (.getfield 12, 3) := by decide +kernel
theorem dX11_feed_64 : decode cX11_feed 64 = .ok (.getfield 95, 3) := by decide +kernel
theorem dX11_feed_67 : decode cX11_feed 67 = .ok (.ireturn, 1) := by decide +kernel
theorem dX11_end_0 : decode cX11_end 0 = .ok (.iload_n 1, 1) := by decide +kernel
theorem dX11_end_1 : decode cX11_end 1 = .ok (.ifCond .lt 14, 3) := by decide +kernel
theorem dX11_end_4 : decode cX11_end 4 = .ok (.iload_n 1, 1) := by decide +kernel
theorem dX11_end_5 : decode cX11_end 5 = .ok (.aload_n 0, 1) := by decide +kernel
theorem dX11_end_6 : decode cX11_end 6 = .ok (.getfield 12, 3) := by decide +kernel
theorem dX11_end_9 : decode cX11_end 9 = .ok (.getfield 95, 3) := by decide +kernel
theorem dX11_end_12 : decode cX11_end 12 = .ok (.if_icmp .le 5, 3) := by decide +kernel
theorem dX11_end_15 : decode cX11_end 15 = .ok (.iconst (-1), 1) := by decide +kernel
theorem dX11_end_16 : decode cX11_end 16 = .ok (.ireturn, 1) := by decide +kernel
theorem dX11_end_17 : decode cX11_end 17 = .ok (.aload_n 0, 1) := by decide +kernel
theorem dX11_end_18 : decode cX11_end 18 = .ok (.getfield 12, 3) := by decide +kernel
theorem dX11_end_21 : decode cX11_end 21 = .ok (.iload_n 1, 1) := by decide +kernel
theorem dX11_end_22 : decode cX11_end 22 = .ok (.putfield 95, 3) := by decide +kernel
theorem dX11_end_25 : decode cX11_end 25 = .ok (.iload_n 1, 1) := by decide +kernel
theorem dX11_end_26 : decode cX11_end 26 = .ok (.ireturn, 1) := by decide +kernel
set_option maxRecDepth 20000 in
theorem ggX11_town_X9_readTown : GoodIn wsX11_town wsX9_readTown := goodIn_r _ [13, 14, 15, 16, 17, 18, 19, 20, 21, 22, 23, 24, 25, 26, 27, 28, 29, 30, 31, 32, 33, 34, 35, 36, 37, 38, 39, 40, 41, 42, 43, 44, 45, 46, 12, 47, 48, 49, 50, 51, 52, 53, 54, 55, 56, 57, 58, 59, 60, 61, 62, 63, 64, 65, 66, 67, 68, 69, 70, 71, 72, 73, 74, 75, 76, 77, 78, 79, 80, 81, 82, 83, 84, 85, 86, 87, 88, 89, 90, 91, 92, 93, 94, 95, 96, 97, 98, 99, 100, 101, 102, 103, 104, 105, 106, 107, 108, 109, 110, 111, 112, 113, 114, 115, 116, 117, 118, 119, 120, 121, 122, 123, 124, 125, 126, 127, 128, 129, 130, 131, 132, 133, 134, 135, 136, 137, 138, 139, 140, 141, 142, 143, 144, 145, 146, 147, 148, 149, 150, 151, 152, 153, 154, 155, 156, 157, 158, 159, 160, 161, 162, 163, 164, 165, 166, 167, 168, 169, 170, 171, 172, 173, 174, 175, 176, 177, 178, 179, 180, 181, 182, 183, 184, 185, 186, 187, 188, 225, 226, 240, 241, 242, 243, 244, 245, 246, 247, 248, 249, 250, 220, 221, 222, 223, 224] (by decide +kernel) (by decide +kernel)
set_option maxRecDepth 20000 in
theorem gX11_town_X9_readTown : GoodIn wsX11_town (wsV RX11 102 RX9 yX9_readTown wsX9_readTown) := goodIn_app (goodIn_of _ (by decide +kernel)) ggX11_town_X9_readTown
set_option maxRecDepth 20000 in
theorem ggX11_town_X1_settle : GoodIn wsX11_town wsX1_settle := goodIn_r _ [193, 194, 195, 196, 197, 198, 199, 200, 19, 201, 21, 22, 23, 24, 25, 26, 27, 28, 29, 202, 203, 204, 205, 30, 31, 206, 33, 34, 35, 227, 228, 229, 230, 231, 232, 233, 234, 235, 236, 237, 238, 239, 240, 241, 242, 243, 244, 245, 246, 247, 248, 249, 250] (by decide +kernel) (by decide +kernel)
set_option maxRecDepth 20000 in
theorem gX11_town_X1_settle : GoodIn wsX11_town (wsV RX11 112 RX1 yX1_settle wsX1_settle) := goodIn_app (goodIn_of _ (by decide +kernel)) ggX11_town_X1_settle
theorem dX11_town_0 : decode cX11_town 0 = .ok (.aload_n 0, 1) := by decide +kernel
theorem dX11_town_1 : decode cX11_town 1 = .ok (.getfield 21, 3) := by decide +kernel
theorem dX11_town_4 : decode cX11_town 4 = .ok (.invokevirtual 102, 3) := by decide +kernel
theorem dX11_town_7 : decode cX11_town 7 = .ok (.ifCond .ne 14, 3) := by decide +kernel
theorem dX11_town_10 : decode cX11_town 10 = .ok (.bipush (-2), 2) := by decide +kernel
theorem dX11_town_12 : decode cX11_town 12 = .ok (.aload_n 0, 1) := by decide +kernel
theorem dX11_town_13 : decode cX11_town 13 = .ok (.getfield 12, 3) := by decide +kernel
theorem dX11_town_16 : decode cX11_town 16 = .ok (.getfield 106, 3) := by decide +kernel
theorem dX11_town_19 : decode cX11_town 19 = .ok (.isub, 1) := by decide +kernel
theorem dX11_town_20 : decode cX11_town 20 = .ok (.ireturn, 1) := by decide +kernel
theorem dX11_town_21 : decode cX11_town 21 = .ok (.aload_n 0, 1) := by decide +kernel
theorem dX11_town_22 : decode cX11_town 22 = .ok (.getfield 45, 3) := by decide +kernel
theorem dX11_town_25 : decode cX11_town 25 = .ok (.aload_n 0, 1) := by decide +kernel
theorem dX11_town_26 : decode cX11_town 26 = .ok (.getfield 21, 3) := by decide +kernel
theorem dX11_town_29 : decode cX11_town 29 = .ok (.getfield 109, 3) := by decide +kernel
theorem dX11_town_32 : decode cX11_town 32 = .ok (.invokevirtual 112, 3) := by decide +kernel
theorem dX11_town_35 : decode cX11_town 35 = .ok (.aload_n 0, 1) := by decide +kernel
theorem dX11_town_36 : decode cX11_town 36 = .ok (.getfield 12, 3) := by decide +kernel
theorem dX11_town_39 : decode cX11_town 39 = .ok (.iconst 0, 1) := by decide +kernel
theorem dX11_town_40 : decode cX11_town 40 = .ok (.putfield 95, 3) := by decide +kernel
theorem dX11_town_43 : decode cX11_town 43 = .ok (.aload_n 0, 1) := by decide +kernel
theorem dX11_town_44 : decode cX11_town 44 = .ok (.getfield 45, 3) := by decide +kernel
theorem dX11_town_47 : decode cX11_town 47 = .ok (.getfield 116, 3) := by decide +kernel
theorem dX11_town_50 : decode cX11_town 50 = .ok (.getfield 117, 3) := by decide +kernel
theorem dX11_town_53 : decode cX11_town 53 = .ok (.ireturn, 1) := by decide +kernel
set_option maxRecDepth 20000 in
theorem ggX11_rule_X4_readRule : GoodIn wsX11_rule wsX4_readRule := goodIn_r _ [11, 12, 13, 14, 15, 16, 17, 18, 19, 20, 21, 22, 23, 24, 25, 26, 10, 27, 28, 29, 30, 31, 32, 33, 34, 35, 36, 37, 38, 39, 40, 41, 42, 43, 44, 45, 46, 47, 48, 49, 50, 51, 52, 53, 54, 55, 56, 57, 58, 59, 60, 61, 62, 63, 64, 65, 66, 67, 68, 69, 70, 71, 72, 73, 74, 75, 76, 77, 78, 79, 80, 81, 82, 83, 84, 85, 86, 87, 88, 89, 90, 91, 92, 93, 94, 95, 96, 97, 98, 99, 100, 101, 102, 103, 104, 105, 106, 107, 108, 109, 110, 111, 112, 113, 114, 115, 116, 117, 118, 119, 120, 121, 122, 123, 124, 125, 126, 127, 128, 129, 130, 131, 132, 133, 134, 135, 136, 137, 138, 139, 140, 141, 142, 143, 144, 145, 146, 147, 200, 201, 202, 203, 204, 195, 196, 197, 198, 199] (by decide +kernel) (by decide +kernel)
set_option maxRecDepth 20000 in
theorem gX11_rule_X4_readRule : GoodIn wsX11_rule (wsV RX11 120 RX4 yX4_readRule wsX4_readRule) := goodIn_app (goodIn_of _ (by decide +kernel)) ggX11_rule_X4_readRule
set_option maxRecDepth 20000 in
theorem ggX11_rule_X4_made : GoodIn wsX11_rule wsX4_made := goodIn_r _ [151, 152, 153, 154, 121, 12, 14, 155, 156, 157, 158, 159, 160, 161, 162, 163, 164, 165, 166, 167, 168, 169, 170, 171, 172, 173, 174, 175, 176, 177, 178, 179, 180, 181, 205, 206, 200, 201, 202, 203, 204] (by decide +kernel) (by decide +kernel)
set_option maxRecDepth 20000 in
theorem gX11_rule_X4_made : GoodIn wsX11_rule (wsV RX11 123 RX4 yX4_made wsX4_made) := goodIn_app (goodIn_of _ (by decide +kernel)) ggX11_rule_X4_made
theorem dX11_rule_0 : decode cX11_rule 0 = .ok (.aload_n 0, 1) := by decide +kernel
theorem dX11_rule_1 : decode cX11_rule 1 = .ok (.getfield 38, 3) := by decide +kernel
theorem dX11_rule_4 : decode cX11_rule 4 = .ok (.bipush 6, 2) := by decide +kernel
theorem dX11_rule_6 : decode cX11_rule 6 = .ok (.if_icmp .lt 5, 3) := by decide +kernel
theorem dX11_rule_9 : decode cX11_rule 9 = .ok (.iconst (-1), 1) := by decide +kernel
theorem dX11_rule_10 : decode cX11_rule 10 = .ok (.ireturn, 1) := by decide +kernel
theorem dX11_rule_11 : decode cX11_rule 11 = .ok (.aload_n 0, 1) := by decide +kernel
theorem dX11_rule_12 : decode cX11_rule 12 = .ok (.getfield 28, 3) := by decide +kernel
theorem dX11_rule_15 : decode cX11_rule 15 = .ok (.invokevirtual 120, 3) := by decide +kernel
theorem dX11_rule_18 : decode cX11_rule 18 = .ok (.istore_n 1, 1) := by decide +kernel
theorem dX11_rule_19 : decode cX11_rule 19 = .ok (.aload_n 0, 1) := by decide +kernel
theorem dX11_rule_20 : decode cX11_rule 20 = .ok (.getfield 12, 3) := by decide +kernel
theorem dX11_rule_23 : decode cX11_rule 23 = .ok (.iconst 0, 1) := by decide +kernel
theorem dX11_rule_24 : decode cX11_rule 24 = .ok (.putfield 95, 3) := by decide +kernel
theorem dX11_rule_27 : decode cX11_rule 27 = .ok (.iload_n 1, 1) := by decide +kernel
theorem dX11_rule_28 : decode cX11_rule 28 = .ok (.ifCond .ne 14, 3) := by decide +kernel
theorem dX11_rule_31 : decode cX11_rule 31 = .ok (.bipush (-2), 2) := by decide +kernel
theorem dX11_rule_33 : decode cX11_rule 33 = .ok (.aload_n 0, 1) := by decide +kernel
theorem dX11_rule_34 : decode cX11_rule 34 = .ok (.getfield 12, 3) := by decide +kernel
theorem dX11_rule_37 : decode cX11_rule 37 = .ok (.getfield 106, 3) := by decide +kernel
theorem dX11_rule_40 : decode cX11_rule 40 = .ok (.isub, 1) := by decide +kernel
theorem dX11_rule_41 : decode cX11_rule 41 = .ok (.ireturn, 1) := by decide +kernel
theorem dX11_rule_42 : decode cX11_rule 42 = .ok (.aload_n 0, 1) := by decide +kernel
theorem dX11_rule_43 : decode cX11_rule 43 = .ok (.getfield 34, 3) := by decide +kernel
theorem dX11_rule_46 : decode cX11_rule 46 = .ok (.aload_n 0, 1) := by decide +kernel
theorem dX11_rule_47 : decode cX11_rule 47 = .ok (.getfield 38, 3) := by decide +kernel
theorem dX11_rule_50 : decode cX11_rule 50 = .ok (.aload_n 0, 1) := by decide +kernel
theorem dX11_rule_51 : decode cX11_rule 51 = .ok (.getfield 28, 3) := by decide +kernel
theorem dX11_rule_54 : decode cX11_rule 54 = .ok (.invokevirtual 123, 3) := by decide +kernel
theorem dX11_rule_57 : decode cX11_rule 57 = .ok (.aastore, 1) := by decide +kernel
theorem dX11_rule_58 : decode cX11_rule 58 = .ok (.aload_n 0, 1) := by decide +kernel
theorem dX11_rule_59 : decode cX11_rule 59 = .ok (.dup, 1) := by decide +kernel
theorem dX11_rule_60 : decode cX11_rule 60 = .ok (.getfield 38, 3) := by decide +kernel
theorem dX11_rule_63 : decode cX11_rule 63 = .ok (.dup_x1, 1) := by decide +kernel
theorem dX11_rule_64 : decode cX11_rule 64 = .ok (.iconst 1, 1) := by decide +kernel
theorem dX11_rule_65 : decode cX11_rule 65 = .ok (.iadd, 1) := by decide +kernel
theorem dX11_rule_66 : decode cX11_rule 66 = .ok (.putfield 38, 3) := by decide +kernel
theorem dX11_rule_69 : decode cX11_rule 69 = .ok (.ireturn, 1) := by decide +kernel
theorem dX11_force_0 : decode cX11_force 0 = .ok (.iload_n 1, 1) := by decide +kernel
theorem dX11_force_1 : decode cX11_force 1 = .ok (.iconst (-1), 1) := by decide +kernel
theorem dX11_force_2 : decode cX11_force 2 = .ok (.if_icmp .lt 11, 3) := by decide +kernel
theorem dX11_force_5 : decode cX11_force 5 = .ok (.iload_n 1, 1) := by decide +kernel
theorem dX11_force_6 : decode cX11_force 6 = .ok (.aload_n 0, 1) := by decide +kernel
theorem dX11_force_7 : decode cX11_force 7 = .ok (.getfield 38, 3) := by decide +kernel
theorem dX11_force_10 : decode cX11_force 10 = .ok (.if_icmp .lt 6, 3) := by decide +kernel
theorem dX11_force_13 : decode cX11_force 13 = .ok (.bipush (-2), 2) := by decide +kernel
theorem dX11_force_15 : decode cX11_force 15 = .ok (.ireturn, 1) := by decide +kernel
theorem dX11_force_16 : decode cX11_force 16 = .ok (.aload_n 0, 1) := by decide +kernel
theorem dX11_force_17 : decode cX11_force 17 = .ok (.getfield 45, 3) := by decide +kernel
theorem dX11_force_20 : decode cX11_force 20 = .ok (.getfield 127, 3) := by decide +kernel
theorem dX11_force_23 : decode cX11_force 23 = .ok (.istore_n 2, 1) := by decide +kernel
theorem dX11_force_24 : decode cX11_force 24 = .ok (.aload_n 0, 1) := by decide +kernel
theorem dX11_force_25 : decode cX11_force 25 = .ok (.getfield 45, 3) := by decide +kernel
theorem dX11_force_28 : decode cX11_force 28 = .ok (.iload_n 1, 1) := by decide +kernel
theorem dX11_force_29 : decode cX11_force 29 = .ok (.putfield 127, 3) := by decide +kernel
theorem dX11_force_32 : decode cX11_force 32 = .ok (.iload_n 2, 1) := by decide +kernel
theorem dX11_force_33 : decode cX11_force 33 = .ok (.ireturn, 1) := by decide +kernel
set_option maxRecDepth 20000 in
theorem ggX11_at_X8_isPerson : GoodIn wsX11_at wsX8_isPerson := goodIn_r _ [7, 8, 47, 48, 49, 50, 51, 52, 53, 54, 55, 56, 57] (by decide +kernel) (by decide +kernel)
set_option maxRecDepth 20000 in
theorem gX11_at_X8_isPerson : GoodIn wsX11_at (wsV RX11 130 RX8 yX8_isPerson wsX8_isPerson) := goodIn_app (goodIn_of _ (by decide +kernel)) ggX11_at_X8_isPerson
set_option maxRecDepth 20000 in
theorem ggX11_at_X8_isHour : GoodIn wsX11_at wsX8_isHour := goodIn_r _ [12, 13, 47, 48, 49, 50, 51, 52, 53, 54, 55, 56, 57] (by decide +kernel) (by decide +kernel)
set_option maxRecDepth 20000 in
theorem gX11_at_X8_isHour : GoodIn wsX11_at (wsV RX11 134 RX8 yX8_isHour wsX8_isHour) := goodIn_app (goodIn_of _ (by decide +kernel)) ggX11_at_X8_isHour
set_option maxRecDepth 20000 in
theorem ggX11_at_X8_placeOf : GoodIn wsX11_at wsX8_placeOf := goodIn_r _ [17, 18, 19, 4, 5, 6, 7, 8, 20, 10, 11, 12, 13, 47, 48, 49, 50, 51, 52, 53, 54, 55, 56, 57] (by decide +kernel) (by decide +kernel)
set_option maxRecDepth 20000 in
theorem gX11_at_X8_placeOf : GoodIn wsX11_at (wsV RX11 137 RX8 yX8_placeOf wsX8_placeOf) := goodIn_app (goodIn_of _ (by decide +kernel)) ggX11_at_X8_placeOf
theorem dX11_at_0 : decode cX11_at 0 = .ok (.aload_n 0, 1) := by decide +kernel
theorem dX11_at_1 : decode cX11_at 1 = .ok (.getfield 45, 3) := by decide +kernel
theorem dX11_at_4 : decode cX11_at 4 = .ok (.getfield 116, 3) := by decide +kernel
theorem dX11_at_7 : decode cX11_at 7 = .ok (.iload_n 1, 1) := by decide +kernel
theorem dX11_at_8 : decode cX11_at 8 = .ok (.invokevirtual 130, 3) := by decide +kernel
theorem dX11_at_11 : decode cX11_at 11 = .ok (.ifCond .eq 32, 3) := by decide +kernel
theorem dX11_at_14 : decode cX11_at 14 = .ok (.aload_n 0, 1) := by decide +kernel
theorem dX11_at_15 : decode cX11_at 15 = .ok (.getfield 45, 3) := by decide +kernel
theorem dX11_at_18 : decode cX11_at 18 = .ok (.getfield 116, 3) := by decide +kernel
theorem dX11_at_21 : decode cX11_at 21 = .ok (.iload_n 2, 1) := by decide +kernel
theorem dX11_at_22 : decode cX11_at 22 = .ok (.invokevirtual 134, 3) := by decide +kernel
theorem dX11_at_25 : decode cX11_at 25 = .ok (.ifCond .eq 18, 3) := by decide +kernel
theorem dX11_at_28 : decode cX11_at 28 = .ok (.aload_n 0, 1) := by decide +kernel
theorem dX11_at_29 : decode cX11_at 29 = .ok (.getfield 45, 3) := by decide +kernel
theorem dX11_at_32 : decode cX11_at 32 = .ok (.getfield 116, 3) := by decide +kernel
theorem dX11_at_35 : decode cX11_at 35 = .ok (.iload_n 1, 1) := by decide +kernel
theorem dX11_at_36 : decode cX11_at 36 = .ok (.iload_n 2, 1) := by decide +kernel
theorem dX11_at_37 : decode cX11_at 37 = .ok (.invokevirtual 137, 3) := by decide +kernel
theorem dX11_at_40 : decode cX11_at 40 = .ok (.goto 4, 3) := by decide +kernel
theorem dX11_at_43 : decode cX11_at 43 = .ok (.iconst (-1), 1) := by decide +kernel
theorem dX11_at_44 : decode cX11_at 44 = .ok (.ireturn, 1) := by decide +kernel
set_option maxRecDepth 20000 in
theorem ggX11_person_X8_isPerson : GoodIn wsX11_person wsX8_isPerson := goodIn_r _ [11, 12, 64, 65, 66, 67, 68, 69, 70, 71, 72, 73, 74] (by decide +kernel) (by decide +kernel)
set_option maxRecDepth 20000 in
theorem gX11_person_X8_isPerson : GoodIn wsX11_person (wsV RX11 130 RX8 yX8_isPerson wsX8_isPerson) := goodIn_app (goodIn_of _ (by decide +kernel)) ggX11_person_X8_isPerson
set_option maxRecDepth 20000 in
theorem ggX11_person_X8_company : GoodIn wsX11_person wsX8_company := goodIn_r _ [16, 17, 18, 19, 20, 10, 21, 22, 23, 8, 9, 11, 12, 24, 25, 26, 27, 28, 29, 30, 31, 32, 33, 34, 35, 36, 37, 64, 65, 66, 67, 68, 69, 70, 71, 72, 73, 74] (by decide +kernel) (by decide +kernel)
set_option maxRecDepth 20000 in
theorem gX11_person_X8_company : GoodIn wsX11_person (wsV RX11 154 RX8 yX8_company wsX8_company) := goodIn_app (goodIn_of _ (by decide +kernel)) ggX11_person_X8_company
theorem dX11_person_0 : decode cX11_person 0 = .ok (.aload_n 0, 1) := by decide +kernel
theorem dX11_person_1 : decode cX11_person 1 = .ok (.getfield 45, 3) := by decide +kernel
theorem dX11_person_4 : decode cX11_person 4 = .ok (.getfield 116, 3) := by decide +kernel
theorem dX11_person_7 : decode cX11_person 7 = .ok (.astore_n 3, 1) := by decide +kernel
theorem dX11_person_8 : decode cX11_person 8 = .ok (.aload_n 3, 1) := by decide +kernel
theorem dX11_person_9 : decode cX11_person 9 = .ok (.iload_n 1, 1) := by decide +kernel
theorem dX11_person_10 : decode cX11_person 10 = .ok (.invokevirtual 130, 3) := by decide +kernel
theorem dX11_person_13 : decode cX11_person 13 = .ok (.ifCond .ne 5, 3) := by decide +kernel
theorem dX11_person_16 : decode cX11_person 16 = .ok (.iconst (-1), 1) := by decide +kernel
theorem dX11_person_17 : decode cX11_person 17 = .ok (.ireturn, 1) := by decide +kernel
theorem dX11_person_18 : decode cX11_person 18 = .ok (.iload_n 2, 1) := by decide +kernel
theorem dX11_person_19 : decode cX11_person 19 = .ok (.tableswitch 73 0 4 #[33, 42, 51, 60, 67], 33) := by decide +kernel
theorem dX11_person_52 : decode cX11_person 52 = .ok (.aload_n 3, 1) := by decide +kernel
theorem dX11_person_53 : decode cX11_person 53 = .ok (.getfield 141, 3) := by decide +kernel
theorem dX11_person_56 : decode cX11_person 56 = .ok (.iload_n 1, 1) := by decide +kernel
theorem dX11_person_57 : decode cX11_person 57 = .ok (.ishr, 1) := by decide +kernel
theorem dX11_person_58 : decode cX11_person 58 = .ok (.iconst 1, 1) := by decide +kernel
theorem dX11_person_59 : decode cX11_person 59 = .ok (.iand, 1) := by decide +kernel
theorem dX11_person_60 : decode cX11_person 60 = .ok (.ireturn, 1) := by decide +kernel
theorem dX11_person_61 : decode cX11_person 61 = .ok (.aload_n 3, 1) := by decide +kernel
theorem dX11_person_62 : decode cX11_person 62 = .ok (.getfield 144, 3) := by decide +kernel
theorem dX11_person_65 : decode cX11_person 65 = .ok (.iload_n 1, 1) := by decide +kernel
theorem dX11_person_66 : decode cX11_person 66 = .ok (.ishr, 1) := by decide +kernel
theorem dX11_person_67 : decode cX11_person 67 = .ok (.iconst 1, 1) := by decide +kernel
theorem dX11_person_68 : decode cX11_person 68 = .ok (.iand, 1) := by decide +kernel
theorem dX11_person_69 : decode cX11_person 69 = .ok (.ireturn, 1) := by decide +kernel
theorem dX11_person_70 : decode cX11_person 70 = .ok (.aload_n 3, 1) := by decide +kernel
theorem dX11_person_71 : decode cX11_person 71 = .ok (.getfield 147, 3) := by decide +kernel
theorem dX11_person_74 : decode cX11_person 74 = .ok (.iload_n 1, 1) := by decide +kernel
theorem dX11_person_75 : decode cX11_person 75 = .ok (.ishr, 1) := by decide +kernel
theorem dX11_person_76 : decode cX11_person 76 = .ok (.iconst 1, 1) := by decide +kernel
theorem dX11_person_77 : decode cX11_person 77 = .ok (.iand, 1) := by decide +kernel
theorem dX11_person_78 : decode cX11_person 78 = .ok (.ireturn, 1) := by decide +kernel
theorem dX11_person_79 : decode cX11_person 79 = .ok (.aload_n 3, 1) := by decide +kernel
theorem dX11_person_80 : decode cX11_person 80 = .ok (.getfield 150, 3) := by decide +kernel
theorem dX11_person_83 : decode cX11_person 83 = .ok (.iload_n 1, 1) := by decide +kernel
theorem dX11_person_84 : decode cX11_person 84 = .ok (.iaload, 1) := by decide +kernel
theorem dX11_person_85 : decode cX11_person 85 = .ok (.ireturn, 1) := by decide +kernel
theorem dX11_person_86 : decode cX11_person 86 = .ok (.aload_n 3, 1) := by decide +kernel
theorem dX11_person_87 : decode cX11_person 87 = .ok (.iload_n 1, 1) := by decide +kernel
theorem dX11_person_88 : decode cX11_person 88 = .ok (.invokevirtual 154, 3) := by decide +kernel
theorem dX11_person_91 : decode cX11_person 91 = .ok (.ireturn, 1) := by decide +kernel
theorem dX11_person_92 : decode cX11_person 92 = .ok (.iconst (-1), 1) := by decide +kernel
theorem dX11_person_93 : decode cX11_person 93 = .ok (.ireturn, 1) := by decide +kernel
set_option maxRecDepth 20000 in
theorem ggX11_crowd_X11_isSpot : GoodIn wsX11_crowd wsX11_isSpot := goodIn_r _ [7, 1, 2, 8, 9, 10, 11, 12, 13, 14, 15, 16, 17, 18, 26, 27, 28, 29, 30, 31, 32, 33, 34, 35, 36, 37, 38, 39, 40, 41, 42, 43, 44, 45, 46, 47, 48, 49, 50, 51, 52, 53, 54, 55, 56, 57, 58, 59, 60, 61, 62] (by decide +kernel) (by decide +kernel)
set_option maxRecDepth 20000 in
theorem gX11_crowd_X11_isSpot : GoodIn wsX11_crowd (wsV RX11 158 RX11 yX11_isSpot wsX11_isSpot) := goodIn_app (goodIn_of _ (by decide +kernel)) ggX11_crowd_X11_isSpot
set_option maxRecDepth 20000 in
theorem ggX11_crowd_X8_those : GoodIn wsX11_crowd wsX8_those := goodIn_r _ [22, 23, 24, 9, 10, 11, 12, 13, 25, 15, 16, 17, 18, 52, 53, 54, 55, 56, 57, 58, 59, 60, 61, 62] (by decide +kernel) (by decide +kernel)
set_option maxRecDepth 20000 in
theorem gX11_crowd_X8_those : GoodIn wsX11_crowd (wsV RX11 162 RX8 yX8_those wsX8_those) := goodIn_app (goodIn_of _ (by decide +kernel)) ggX11_crowd_X8_those
theorem dX11_crowd_0 : decode cX11_crowd 0 = .ok (.aload_n 0, 1) := by decide +kernel
theorem dX11_crowd_1 : decode cX11_crowd 1 = .ok (.iload_n 1, 1) := by decide +kernel
theorem dX11_crowd_2 : decode cX11_crowd 2 = .ok (.iload_n 2, 1) := by decide +kernel
theorem dX11_crowd_3 : decode cX11_crowd 3 = .ok (.invokevirtual 158, 3) := by decide +kernel
theorem dX11_crowd_6 : decode cX11_crowd 6 = .ok (.ifCond .eq 18, 3) := by decide +kernel
theorem dX11_crowd_9 : decode cX11_crowd 9 = .ok (.aload_n 0, 1) := by decide +kernel
theorem dX11_crowd_10 : decode cX11_crowd 10 = .ok (.getfield 45, 3) := by decide +kernel
theorem dX11_crowd_13 : decode cX11_crowd 13 = .ok (.getfield 116, 3) := by decide +kernel
theorem dX11_crowd_16 : decode cX11_crowd 16 = .ok (.iload_n 1, 1) := by decide +kernel
theorem dX11_crowd_17 : decode cX11_crowd 17 = .ok (.iload_n 2, 1) := by decide +kernel
theorem dX11_crowd_18 : decode cX11_crowd 18 = .ok (.invokevirtual 162, 3) := by decide +kernel
theorem dX11_crowd_21 : decode cX11_crowd 21 = .ok (.goto 4, 3) := by decide +kernel
theorem dX11_crowd_24 : decode cX11_crowd 24 = .ok (.iconst (-1), 1) := by decide +kernel
theorem dX11_crowd_25 : decode cX11_crowd 25 = .ok (.ireturn, 1) := by decide +kernel
set_option maxRecDepth 20000 in
theorem ggX11_shake_X8_isPerson : GoodIn wsX11_shake wsX8_isPerson := goodIn_r _ [14, 15, 135, 136, 137, 138, 139, 140, 141, 142, 143, 144, 145] (by decide +kernel) (by decide +kernel)
set_option maxRecDepth 20000 in
theorem gX11_shake_X8_isPerson : GoodIn wsX11_shake (wsV RX11 130 RX8 yX8_isPerson wsX8_isPerson) := goodIn_app (goodIn_of _ (by decide +kernel)) ggX11_shake_X8_isPerson
set_option maxRecDepth 20000 in
theorem ggX11_shake_X8_isHour : GoodIn wsX11_shake wsX8_isHour := goodIn_r _ [19, 20, 135, 136, 137, 138, 139, 140, 141, 142, 143, 144, 145] (by decide +kernel) (by decide +kernel)
set_option maxRecDepth 20000 in
theorem gX11_shake_X8_isHour : GoodIn wsX11_shake (wsV RX11 134 RX8 yX8_isHour wsX8_isHour) := goodIn_app (goodIn_of _ (by decide +kernel)) ggX11_shake_X8_isHour
set_option maxRecDepth 20000 in
theorem ggX11_shake_X8_areTogether : GoodIn wsX11_shake wsX8_areTogether := goodIn_r _ [24, 25, 26, 27, 13, 28, 29, 30, 11, 12, 14, 15, 31, 17, 18, 19, 20, 135, 136, 137, 138, 139, 140, 141, 142, 143, 144, 145] (by decide +kernel) (by decide +kernel)
set_option maxRecDepth 20000 in
theorem gX11_shake_X8_areTogether : GoodIn wsX11_shake (wsV RX11 165 RX8 yX8_areTogether wsX8_areTogether) := goodIn_app (goodIn_of _ (by decide +kernel)) ggX11_shake_X8_areTogether
set_option maxRecDepth 20000 in
theorem ggX11_shake_X8_placeOf : GoodIn wsX11_shake wsX8_placeOf := goodIn_r _ [28, 29, 30, 11, 12, 13, 14, 15, 31, 17, 18, 19, 20, 135, 136, 137, 138, 139, 140, 141, 142, 143, 144, 145] (by decide +kernel) (by decide +kernel)
set_option maxRecDepth 20000 in
theorem gX11_shake_X8_placeOf : GoodIn wsX11_shake (wsV RX11 137 RX8 yX8_placeOf wsX8_placeOf) := goodIn_app (goodIn_of _ (by decide +kernel)) ggX11_shake_X8_placeOf
set_option maxRecDepth 20000 in
theorem ggX11_shake_X8_those : GoodIn wsX11_shake wsX8_those := goodIn_r _ [36, 37, 38, 39, 40, 13, 41, 42, 31, 17, 18, 19, 20, 135, 136, 137, 138, 139, 140, 141, 142, 143, 144, 145] (by decide +kernel) (by decide +kernel)
set_option maxRecDepth 20000 in
theorem gX11_shake_X8_those : GoodIn wsX11_shake (wsV RX11 162 RX8 yX8_those wsX8_those) := goodIn_app (goodIn_of _ (by decide +kernel)) ggX11_shake_X8_those
set_option maxRecDepth 20000 in
theorem ggX11_shake_J6_bitCount_0f7a4 : GoodIn wsX11_shake wsJ6_bitCount_0f7a4 := goodIn_r _ [46, 47, 48, 49] (by decide +kernel) (by decide +kernel)
set_option maxRecDepth 20000 in
theorem gX11_shake_J6_bitCount_0f7a4 : GoodIn wsX11_shake (va_wsS RX11 169 yJ6_bitCount_0f7a4 wsJ6_bitCount_0f7a4) := goodIn_app (goodIn_of _ (by decide +kernel)) ggX11_shake_J6_bitCount_0f7a4
set_option maxRecDepth 20000 in
theorem ggX11_shake_X11_counting : GoodIn wsX11_shake wsX11_counting := goodIn_r _ [54, 1, 55, 56, 57, 58, 109, 110, 111, 112, 113, 114, 115, 116, 117, 118, 119, 120, 121, 122, 123, 124, 125, 126, 127, 128, 129, 130, 131, 132, 133, 134, 146, 147, 148, 149] (by decide +kernel) (by decide +kernel)
set_option maxRecDepth 20000 in
theorem gX11_shake_X11_counting : GoodIn wsX11_shake (wsV RX11 174 RX11 yX11_counting wsX11_counting) := goodIn_app (goodIn_of _ (by decide +kernel)) ggX11_shake_X11_counting
set_option maxRecDepth 20000 in
theorem ggX11_shake_X5_worthOf : GoodIn wsX11_shake wsX5_worthOf := goodIn_r _ [63, 64, 65, 66, 67, 68, 69, 70, 71, 72, 73, 13, 74, 29, 30, 11, 12, 14, 15, 31, 17, 18, 19, 20, 75, 76, 77, 78, 79, 80, 81, 82, 83, 84, 85, 86, 87, 26, 27, 28, 88, 44, 45, 46, 47, 48, 49, 89, 90, 91, 92, 93, 94, 95, 96, 97, 98, 99, 100, 101, 5, 102, 103, 104, 105, 106, 107, 108, 146, 147, 148, 149, 135, 136, 137, 138, 139, 140, 141, 142, 143, 144, 145, 150, 151] (by decide +kernel) (by decide +kernel)
set_option maxRecDepth 20000 in
theorem gX11_shake_X5_worthOf : GoodIn wsX11_shake (wsV RX11 186 RX5 yX5_worthOf wsX5_worthOf) := goodIn_app (goodIn_of _ (by decide +kernel)) ggX11_shake_X5_worthOf
theorem dX11_shake_0 : decode cX11_shake 0 = .ok (.aload_n 0, 1) := by decide +kernel
theorem dX11_shake_1 : decode cX11_shake 1 = .ok (.getfield 45, 3) := by decide +kernel
theorem dX11_shake_4 : decode cX11_shake 4 = .ok (.getfield 116, 3) := by decide +kernel
theorem dX11_shake_7 : decode cX11_shake 7 = .ok (.astore 4, 2) := by decide +kernel
theorem dX11_shake_9 : decode cX11_shake 9 = .ok (.aload 4, 2) := by decide +kernel
theorem dX11_shake_11 : decode cX11_shake 11 = .ok (.iload_n 1, 1) := by decide +kernel
theorem dX11_shake_12 : decode cX11_shake 12 = .ok (.invokevirtual 130, 3) := by decide +kernel
theorem dX11_shake_15 : decode cX11_shake 15 = .ok (.ifCond .eq 21, 3) := by decide +kernel
theorem dX11_shake_18 : decode cX11_shake 18 = .ok (.aload 4, 2) := by decide +kernel
theorem dX11_shake_20 : decode cX11_shake 20 = .ok (.iload_n 2, 1) := by decide +kernel
theorem dX11_shake_21 : decode cX11_shake 21 = .ok (.invokevirtual 130, 3) := by decide +kernel
theorem dX11_shake_24 : decode cX11_shake 24 = .ok (.ifCond .eq 12, 3) := by decide +kernel
theorem dX11_shake_27 : decode cX11_shake 27 = .ok (.aload 4, 2) := by decide +kernel
theorem dX11_shake_29 : decode cX11_shake 29 = .ok (.iload_n 3, 1) := by decide +kernel
theorem dX11_shake_30 : decode cX11_shake 30 = .ok (.invokevirtual 134, 3) := by decide +kernel
theorem dX11_shake_33 : decode cX11_shake 33 = .ok (.ifCond .ne 7, 3) := by decide +kernel
theorem dX11_shake_36 : decode cX11_shake 36 = .ok (.sipush (-1000), 3) := by decide +kernel
theorem dX11_shake_39 : decode cX11_shake 39 = .ok (.ireturn, 1) := by decide +kernel
theorem dX11_shake_40 : decode cX11_shake 40 = .ok (.iload_n 1, 1) := by decide +kernel
theorem dX11_shake_41 : decode cX11_shake 41 = .ok (.iload_n 2, 1) := by decide +kernel
theorem dX11_shake_42 : decode cX11_shake 42 = .ok (.if_icmp .eq 14, 3) := by decide +kernel
theorem dX11_shake_45 : decode cX11_shake 45 = .ok (.aload 4, 2) := by decide +kernel
theorem dX11_shake_47 : decode cX11_shake 47 = .ok (.iload_n 1, 1) := by decide +kernel
theorem dX11_shake_48 : decode cX11_shake 48 = .ok (.iload_n 2, 1) := by decide +kernel
theorem dX11_shake_49 : decode cX11_shake 49 = .ok (.iload_n 3, 1) := by decide +kernel
theorem dX11_shake_50 : decode cX11_shake 50 = .ok (.invokevirtual 165, 3) := by decide +kernel
theorem dX11_shake_53 : decode cX11_shake 53 = .ok (.ifCond .ne 7, 3) := by decide +kernel
theorem dX11_shake_56 : decode cX11_shake 56 = .ok (.sipush (-1000), 3) := by decide +kernel
theorem dX11_shake_59 : decode cX11_shake 59 = .ok (.ireturn, 1) := by decide +kernel
theorem dX11_shake_60 : decode cX11_shake 60 = .ok (.aload 4, 2) := by decide +kernel
theorem dX11_shake_62 : decode cX11_shake 62 = .ok (.aload 4, 2) := by decide +kernel
theorem dX11_shake_64 : decode cX11_shake 64 = .ok (.iload_n 1, 1) := by decide +kernel
theorem dX11_shake_65 : decode cX11_shake 65 = .ok (.iload_n 3, 1) := by decide +kernel
theorem dX11_shake_66 : decode cX11_shake 66 = .ok (.invokevirtual 137, 3) := by decide +kernel
theorem dX11_shake_69 : decode cX11_shake 69 = .ok (.iload_n 3, 1) := by decide +kernel
theorem dX11_shake_70 : decode cX11_shake 70 = .ok (.invokevirtual 162, 3) := by decide +kernel
theorem dX11_shake_73 : decode cX11_shake 73 = .ok (.invokestatic 169, 3) := by decide +kernel
theorem dX11_shake_76 : decode cX11_shake 76 = .ok (.istore 5, 2) := by decide +kernel
theorem dX11_shake_78 : decode cX11_shake 78 = .ok (.aload_n 0, 1) := by decide +kernel
theorem dX11_shake_79 : decode cX11_shake 79 = .ok (.invokevirtual 174, 3) := by decide +kernel
theorem dX11_shake_82 : decode cX11_shake 82 = .ok (.aload 4, 2) := by decide +kernel
theorem dX11_shake_84 : decode cX11_shake 84 = .ok (.iload_n 1, 1) := by decide +kernel
theorem dX11_shake_85 : decode cX11_shake 85 = .ok (.iload_n 2, 1) := by decide +kernel
theorem dX11_shake_86 : decode cX11_shake 86 = .ok (.invokestatic 178, 3) := by decide +kernel
theorem dX11_shake_89 : decode cX11_shake 89 = .ok (.iload_n 1, 1) := by decide +kernel
theorem dX11_shake_90 : decode cX11_shake 90 = .ok (.iload_n 2, 1) := by decide +kernel
theorem dX11_shake_91 : decode cX11_shake 91 = .ok (.invokestatic 183, 3) := by decide +kernel
theorem dX11_shake_94 : decode cX11_shake 94 = .ok (.iload_n 3, 1) := by decide +kernel
theorem dX11_shake_95 : decode cX11_shake 95 = .ok (.iload 5, 2) := by decide +kernel
theorem dX11_shake_97 : decode cX11_shake 97 = .ok (.invokevirtual 186, 3) := by decide +kernel
theorem dX11_shake_100 : decode cX11_shake 100 = .ok (.ireturn, 1) := by decide +kernel
set_option maxRecDepth 20000 in
theorem ggX11_sum_X11_isSpot : GoodIn wsX11_sum wsX11_isSpot := goodIn_r _ [8, 1, 2, 9, 10, 11, 12, 13, 14, 15, 16, 17, 18, 19, 108, 109, 110, 111, 112, 113, 114, 115, 116, 117, 118, 119, 120, 121, 122, 123, 124, 125, 126, 127, 128, 129, 130, 131, 132, 133, 134, 135, 136, 137, 138, 139, 140, 141, 142, 143, 144] (by decide +kernel) (by decide +kernel)
set_option maxRecDepth 20000 in
theorem gX11_sum_X11_isSpot : GoodIn wsX11_sum (wsV RX11 158 RX11 yX11_isSpot wsX11_isSpot) := goodIn_app (goodIn_of _ (by decide +kernel)) ggX11_sum_X11_isSpot
set_option maxRecDepth 20000 in
theorem ggX11_sum_X11_counting : GoodIn wsX11_sum wsX11_counting := goodIn_r _ [23, 1, 24, 25, 26, 27, 108, 109, 110, 111, 112, 113, 114, 115, 116, 117, 118, 119, 120, 121, 122, 123, 124, 125, 126, 127, 128, 129, 130, 131, 132, 133, 145, 146, 147, 148] (by decide +kernel) (by decide +kernel)
set_option maxRecDepth 20000 in
theorem gX11_sum_X11_counting : GoodIn wsX11_sum (wsV RX11 174 RX11 yX11_counting wsX11_counting) := goodIn_app (goodIn_of _ (by decide +kernel)) ggX11_sum_X11_counting
set_option maxRecDepth 20000 in
theorem ggX11_sum_X5_sumOf : GoodIn wsX11_sum wsX5_sumOf := goodIn_r _ [32, 33, 34, 35, 36, 12, 37, 38, 39, 10, 11, 13, 14, 40, 16, 17, 18, 19, 41, 7, 42, 43, 44, 45, 31, 46, 47, 48, 49, 50, 51, 52, 53, 54, 55, 56, 57, 58, 59, 60, 61, 62, 63, 64, 65, 66, 67, 68, 69, 70, 71, 72, 73, 74, 75, 76, 77, 78, 79, 80, 81, 82, 83, 84, 85, 86, 87, 88, 89, 90, 91, 92, 93, 94, 95, 96, 97, 98, 99, 100, 101, 102, 103, 104, 105, 106, 107, 145, 146, 147, 148, 134, 135, 136, 137, 138, 139, 140, 141, 142, 143, 144, 149, 150] (by decide +kernel) (by decide +kernel)
set_option maxRecDepth 20000 in
theorem gX11_sum_X5_sumOf : GoodIn wsX11_sum (wsV RX11 190 RX5 yX5_sumOf wsX5_sumOf) := goodIn_app (goodIn_of _ (by decide +kernel)) ggX11_sum_X5_sumOf
theorem dX11_sum_0 : decode cX11_sum 0 = .ok (.aload_n 0, 1) := by decide +kernel
theorem dX11_sum_1 : decode cX11_sum 1 = .ok (.iload_n 1, 1) := by decide +kernel
theorem dX11_sum_2 : decode cX11_sum 2 = .ok (.iload_n 2, 1) := by decide +kernel
theorem dX11_sum_3 : decode cX11_sum 3 = .ok (.invokevirtual 158, 3) := by decide +kernel
theorem dX11_sum_6 : decode cX11_sum 6 = .ok (.ifCond .eq 22, 3) := by decide +kernel
theorem dX11_sum_9 : decode cX11_sum 9 = .ok (.aload_n 0, 1) := by decide +kernel
theorem dX11_sum_10 : decode cX11_sum 10 = .ok (.invokevirtual 174, 3) := by decide +kernel
theorem dX11_sum_13 : decode cX11_sum 13 = .ok (.aload_n 0, 1) := by decide +kernel
theorem dX11_sum_14 : decode cX11_sum 14 = .ok (.getfield 45, 3) := by decide +kernel
theorem dX11_sum_17 : decode cX11_sum 17 = .ok (.getfield 116, 3) := by decide +kernel
theorem dX11_sum_20 : decode cX11_sum 20 = .ok (.iload_n 1, 1) := by decide +kernel
theorem dX11_sum_21 : decode cX11_sum 21 = .ok (.iload_n 2, 1) := by decide +kernel
theorem dX11_sum_22 : decode cX11_sum 22 = .ok (.invokevirtual 190, 3) := by decide +kernel
theorem dX11_sum_25 : decode cX11_sum 25 = .ok (.goto 5, 3) := by decide +kernel
theorem dX11_sum_28 : decode cX11_sum 28 = .ok (.ldc 194, 2) := by decide +kernel
theorem dX11_sum_30 : decode cX11_sum 30 = .ok (.ireturn, 1) := by decide +kernel
set_option maxRecDepth 20000 in
theorem ggX11_heard_X11_isSpot : GoodIn wsX11_heard wsX11_isSpot := goodIn_r _ [9, 1, 2, 10, 11, 12, 13, 14, 15, 16, 17, 18, 19, 20, 109, 110, 111, 112, 113, 114, 115, 116, 117, 118, 119, 120, 121, 122, 123, 124, 125, 126, 127, 128, 129, 130, 131, 132, 133, 134, 135, 136, 137, 138, 139, 140, 141, 142, 143, 144, 145] (by decide +kernel) (by decide +kernel)
set_option maxRecDepth 20000 in
theorem gX11_heard_X11_isSpot : GoodIn wsX11_heard (wsV RX11 158 RX11 yX11_isSpot wsX11_isSpot) := goodIn_app (goodIn_of _ (by decide +kernel)) ggX11_heard_X11_isSpot
set_option maxRecDepth 20000 in
theorem ggX11_heard_X11_counting : GoodIn wsX11_heard wsX11_counting := goodIn_r _ [24, 1, 25, 26, 27, 28, 109, 110, 111, 112, 113, 114, 115, 116, 117, 118, 119, 120, 121, 122, 123, 124, 125, 126, 127, 128, 129, 130, 131, 132, 133, 134, 146, 147, 148, 149] (by decide +kernel) (by decide +kernel)
set_option maxRecDepth 20000 in
theorem gX11_heard_X11_counting : GoodIn wsX11_heard (wsV RX11 174 RX11 yX11_counting wsX11_counting) := goodIn_app (goodIn_of _ (by decide +kernel)) ggX11_heard_X11_counting
set_option maxRecDepth 20000 in
theorem ggX11_heard_X5_sumOf : GoodIn wsX11_heard wsX5_sumOf := goodIn_r _ [33, 34, 35, 36, 37, 13, 38, 39, 40, 11, 12, 14, 15, 41, 17, 18, 19, 20, 42, 8, 43, 44, 45, 46, 32, 47, 48, 49, 50, 51, 52, 53, 54, 55, 56, 57, 58, 59, 60, 61, 62, 63, 64, 65, 66, 67, 68, 69, 70, 71, 72, 73, 74, 75, 76, 77, 78, 79, 80, 81, 82, 83, 84, 85, 86, 87, 88, 89, 90, 91, 92, 93, 94, 95, 96, 97, 98, 99, 100, 101, 102, 103, 104, 105, 106, 107, 108, 146, 147, 148, 149, 135, 136, 137, 138, 139, 140, 141, 142, 143, 144, 145, 150, 151] (by decide +kernel) (by decide +kernel)
set_option maxRecDepth 20000 in
theorem gX11_heard_X5_sumOf : GoodIn wsX11_heard (wsV RX11 190 RX5 yX5_sumOf wsX5_sumOf) := goodIn_app (goodIn_of _ (by decide +kernel)) ggX11_heard_X5_sumOf
theorem dX11_heard_0 : decode cX11_heard 0 = .ok (.aload_n 0, 1) := by decide +kernel
theorem dX11_heard_1 : decode cX11_heard 1 = .ok (.iload_n 1, 1) := by decide +kernel
theorem dX11_heard_2 : decode cX11_heard 2 = .ok (.iload_n 2, 1) := by decide +kernel
theorem dX11_heard_3 : decode cX11_heard 3 = .ok (.invokevirtual 158, 3) := by decide +kernel
theorem dX11_heard_6 : decode cX11_heard 6 = .ok (.ifCond .eq 20, 3) := by decide +kernel
theorem dX11_heard_9 : decode cX11_heard 9 = .ok (.aload_n 0, 1) := by decide +kernel
theorem dX11_heard_10 : decode cX11_heard 10 = .ok (.getfield 45, 3) := by decide +kernel
theorem dX11_heard_13 : decode cX11_heard 13 = .ok (.getfield 116, 3) := by decide +kernel
theorem dX11_heard_16 : decode cX11_heard 16 = .ok (.getfield 195, 3) := by decide +kernel
theorem dX11_heard_19 : decode cX11_heard 19 = .ok (.iload_n 1, 1) := by decide +kernel
theorem dX11_heard_20 : decode cX11_heard 20 = .ok (.ishr, 1) := by decide +kernel
theorem dX11_heard_21 : decode cX11_heard 21 = .ok (.iconst 1, 1) := by decide +kernel
theorem dX11_heard_22 : decode cX11_heard 22 = .ok (.iand, 1) := by decide +kernel
theorem dX11_heard_23 : decode cX11_heard 23 = .ok (.ifCond .ne 6, 3) := by decide +kernel
theorem dX11_heard_26 : decode cX11_heard 26 = .ok (.ldc 194, 2) := by decide +kernel
theorem dX11_heard_28 : decode cX11_heard 28 = .ok (.ireturn, 1) := by decide +kernel
theorem dX11_heard_29 : decode cX11_heard 29 = .ok (.aload_n 0, 1) := by decide +kernel
theorem dX11_heard_30 : decode cX11_heard 30 = .ok (.invokevirtual 174, 3) := by decide +kernel
theorem dX11_heard_33 : decode cX11_heard 33 = .ok (.aload_n 0, 1) := by decide +kernel
theorem dX11_heard_34 : decode cX11_heard 34 = .ok (.getfield 45, 3) := by decide +kernel
theorem dX11_heard_37 : decode cX11_heard 37 = .ok (.getfield 116, 3) := by decide +kernel
theorem dX11_heard_40 : decode cX11_heard 40 = .ok (.iload_n 1, 1) := by decide +kernel
theorem dX11_heard_41 : decode cX11_heard 41 = .ok (.iload_n 2, 1) := by decide +kernel
theorem dX11_heard_42 : decode cX11_heard 42 = .ok (.invokevirtual 190, 3) := by decide +kernel
theorem dX11_heard_45 : decode cX11_heard 45 = .ok (.ireturn, 1) := by decide +kernel
set_option maxRecDepth 20000 in
theorem ggX11_total_X11_counting : GoodIn wsX11_total wsX11_counting := goodIn_r _ [7, 1, 8, 9, 10, 11, 111, 112, 113, 114, 115, 116, 117, 118, 119, 120, 121, 122, 123, 124, 125, 126, 127, 128, 129, 130, 131, 132, 133, 134, 135, 136, 137, 138, 139, 140] (by decide +kernel) (by decide +kernel)
set_option maxRecDepth 20000 in
theorem gX11_total_X11_counting : GoodIn wsX11_total (wsV RX11 174 RX11 yX11_counting wsX11_counting) := goodIn_app (goodIn_of _ (by decide +kernel)) ggX11_total_X11_counting
set_option maxRecDepth 20000 in
theorem ggX11_total_X5_totalOf : GoodIn wsX11_total wsX5_totalOf := goodIn_r _ [16, 17, 18, 19, 20, 21, 15, 22, 23, 24, 25, 26, 27, 28, 29, 30, 31, 32, 33, 34, 35, 36, 37, 38, 39, 40, 41, 42, 43, 44, 6, 45, 46, 47, 48, 49, 50, 51, 52, 53, 54, 55, 56, 57, 58, 59, 60, 61, 62, 63, 64, 65, 66, 67, 68, 69, 70, 71, 72, 73, 74, 75, 76, 77, 78, 79, 80, 81, 82, 83, 84, 85, 86, 87, 88, 89, 90, 91, 92, 93, 94, 95, 96, 97, 98, 99, 100, 101, 102, 103, 104, 105, 106, 107, 108, 109, 110, 141, 142, 143, 144, 145, 146, 147, 148, 149, 150, 151, 137, 138, 139, 140, 152, 153] (by decide +kernel) (by decide +kernel)
set_option maxRecDepth 20000 in
theorem gX11_total_X5_totalOf : GoodIn wsX11_total (wsV RX11 198 RX5 yX5_totalOf wsX5_totalOf) := goodIn_app (goodIn_of _ (by decide +kernel)) ggX11_total_X5_totalOf
theorem dX11_total_0 : decode cX11_total 0 = .ok (.aload_n 0, 1) := by decide +kernel
theorem dX11_total_1 : decode cX11_total 1 = .ok (.invokevirtual 174, 3) := by decide +kernel
theorem dX11_total_4 : decode cX11_total 4 = .ok (.aload_n 0, 1) := by decide +kernel
theorem dX11_total_5 : decode cX11_total 5 = .ok (.getfield 45, 3) := by decide +kernel
theorem dX11_total_8 : decode cX11_total 8 = .ok (.getfield 116, 3) := by decide +kernel
theorem dX11_total_11 : decode cX11_total 11 = .ok (.invokevirtual 198, 3) := by decide +kernel
theorem dX11_total_14 : decode cX11_total 14 = .ok (.ireturn, 1) := by decide +kernel
set_option maxRecDepth 20000 in
theorem ggX11_street_X8_isHour : GoodIn wsX11_street wsX8_isHour := goodIn_r _ [9, 10, 135, 136, 137, 138, 139, 140, 141, 142, 143, 144, 145] (by decide +kernel) (by decide +kernel)
set_option maxRecDepth 20000 in
theorem gX11_street_X8_isHour : GoodIn wsX11_street (wsV RX11 134 RX8 yX8_isHour wsX8_isHour) := goodIn_app (goodIn_of _ (by decide +kernel)) ggX11_street_X8_isHour
set_option maxRecDepth 20000 in
theorem ggX11_street_X11_counting : GoodIn wsX11_street wsX11_counting := goodIn_r _ [15, 1, 16, 17, 18, 19, 109, 110, 111, 112, 113, 114, 115, 116, 117, 118, 119, 120, 121, 122, 123, 124, 125, 126, 127, 128, 129, 130, 131, 132, 133, 134, 146, 147, 148, 149] (by decide +kernel) (by decide +kernel)
set_option maxRecDepth 20000 in
theorem gX11_street_X11_counting : GoodIn wsX11_street (wsV RX11 174 RX11 yX11_counting wsX11_counting) := goodIn_app (goodIn_of _ (by decide +kernel)) ggX11_street_X11_counting
set_option maxRecDepth 20000 in
theorem ggX11_street_X5_streetOf : GoodIn wsX11_street wsX5_streetOf := goodIn_r _ [24, 25, 26, 27, 28, 23, 29, 30, 31, 32, 33, 8, 34, 35, 36, 37, 38, 39, 40, 41, 6, 7, 9, 10, 42, 14, 43, 44, 45, 46, 47, 48, 49, 50, 51, 52, 53, 54, 55, 56, 57, 58, 59, 60, 61, 62, 63, 64, 65, 66, 67, 68, 69, 70, 71, 72, 73, 74, 75, 76, 77, 78, 79, 80, 81, 82, 83, 84, 85, 86, 87, 88, 89, 90, 91, 92, 93, 94, 95, 96, 97, 98, 99, 100, 101, 102, 103, 104, 105, 106, 107, 108, 135, 136, 137, 138, 139, 140, 141, 142, 143, 144, 145, 146, 147, 148, 149, 150, 151] (by decide +kernel) (by decide +kernel)
set_option maxRecDepth 20000 in
theorem gX11_street_X5_streetOf : GoodIn wsX11_street (wsV RX11 205 RX5 yX5_streetOf wsX5_streetOf) := goodIn_app (goodIn_of _ (by decide +kernel)) ggX11_street_X5_streetOf
theorem dX11_street_0 : decode cX11_street 0 = .ok (.aload_n 0, 1) := by decide +kernel
theorem dX11_street_1 : decode cX11_street 1 = .ok (.getfield 45, 3) := by decide +kernel
theorem dX11_street_4 : decode cX11_street 4 = .ok (.getfield 116, 3) := by decide +kernel
theorem dX11_street_7 : decode cX11_street 7 = .ok (.astore 4, 2) := by decide +kernel
theorem dX11_street_9 : decode cX11_street 9 = .ok (.iload_n 1, 1) := by decide +kernel
theorem dX11_street_10 : decode cX11_street 10 = .ok (.ifCond .lt 37, 3) := by decide +kernel
theorem dX11_street_13 : decode cX11_street 13 = .ok (.iload_n 1, 1) := by decide +kernel
theorem dX11_street_14 : decode cX11_street 14 = .ok (.iconst 1, 1) := by decide +kernel
theorem dX11_street_15 : decode cX11_street 15 = .ok (.aload 4, 2) := by decide +kernel
theorem dX11_street_17 : decode cX11_street 17 = .ok (.getfield 202, 3) := by decide +kernel
theorem dX11_street_20 : decode cX11_street 20 = .ok (.ishl, 1) := by decide +kernel
theorem dX11_street_21 : decode cX11_street 21 = .ok (.if_icmp .ge 26, 3) := by decide +kernel
theorem dX11_street_24 : decode cX11_street 24 = .ok (.aload 4, 2) := by decide +kernel
theorem dX11_street_26 : decode cX11_street 26 = .ok (.iload_n 2, 1) := by decide +kernel
theorem dX11_street_27 : decode cX11_street 27 = .ok (.invokevirtual 134, 3) := by decide +kernel
theorem dX11_street_30 : decode cX11_street 30 = .ok (.ifCond .eq 17, 3) := by decide +kernel
theorem dX11_street_33 : decode cX11_street 33 = .ok (.aload 4, 2) := by decide +kernel
theorem dX11_street_35 : decode cX11_street 35 = .ok (.iload_n 3, 1) := by decide +kernel
theorem dX11_street_36 : decode cX11_street 36 = .ok (.invokevirtual 134, 3) := by decide +kernel
theorem dX11_street_39 : decode cX11_street 39 = .ok (.ifCond .eq 8, 3) := by decide +kernel
theorem dX11_street_42 : decode cX11_street 42 = .ok (.iload_n 3, 1) := by decide +kernel
theorem dX11_street_43 : decode cX11_street 43 = .ok (.iload_n 2, 1) := by decide +kernel
theorem dX11_street_44 : decode cX11_street 44 = .ok (.if_icmp .ge 6, 3) := by decide +kernel
theorem dX11_street_47 : decode cX11_street 47 = .ok (.ldc 194, 2) := by decide +kernel
theorem dX11_street_49 : decode cX11_street 49 = .ok (.ireturn, 1) := by decide +kernel
theorem dX11_street_50 : decode cX11_street 50 = .ok (.aload_n 0, 1) := by decide +kernel
theorem dX11_street_51 : decode cX11_street 51 = .ok (.invokevirtual 174, 3) := by decide +kernel
theorem dX11_street_54 : decode cX11_street 54 = .ok (.aload 4, 2) := by decide +kernel
theorem dX11_street_56 : decode cX11_street 56 = .ok (.iload_n 1, 1) := by decide +kernel
theorem dX11_street_57 : decode cX11_street 57 = .ok (.iload_n 2, 1) := by decide +kernel
theorem dX11_street_58 : decode cX11_street 58 = .ok (.iload_n 3, 1) := by decide +kernel
theorem dX11_street_59 : decode cX11_street 59 = .ok (.invokevirtual 205, 3) := by decide +kernel
theorem dX11_street_62 : decode cX11_street 62 = .ok (.ireturn, 1) := by decide +kernel
set_option maxRecDepth 20000 in
theorem ggX11_busy_X11_hasTown : GoodIn wsX11_busy wsX11_hasTown := goodIn_r _ [12, 2, 3, 5, 123, 124, 125, 126, 127, 128, 129, 130, 131, 132, 133, 134, 135, 136, 137, 138, 139, 140, 141, 142, 143, 144, 145, 146, 147, 148, 149, 150, 151, 152, 153, 154, 155, 156, 157, 158, 159] (by decide +kernel) (by decide +kernel)
set_option maxRecDepth 20000 in
theorem gX11_busy_X11_hasTown : GoodIn wsX11_busy (wsV RX11 209 RX11 yX11_hasTown wsX11_hasTown) := goodIn_app (goodIn_of _ (by decide +kernel)) ggX11_busy_X11_hasTown
set_option maxRecDepth 20000 in
theorem ggX11_busy_X0_forget : GoodIn wsX11_busy wsX0_forget := goodIn_r _ [17, 18, 160, 161, 162, 163] (by decide +kernel) (by decide +kernel)
set_option maxRecDepth 20000 in
theorem gX11_busy_X0_forget : GoodIn wsX11_busy (wsV RX11 212 RX0 yX0_forget wsX0_forget) := goodIn_app (goodIn_of _ (by decide +kernel)) ggX11_busy_X0_forget
set_option maxRecDepth 20000 in
theorem ggX11_busy_X11_counting : GoodIn wsX11_busy wsX11_counting := goodIn_r _ [22, 2, 23, 24, 25, 26, 123, 124, 125, 126, 127, 128, 129, 130, 131, 132, 133, 134, 135, 136, 137, 138, 139, 140, 141, 142, 143, 144, 145, 146, 147, 148, 164, 165, 166, 167] (by decide +kernel) (by decide +kernel)
set_option maxRecDepth 20000 in
theorem gX11_busy_X11_counting : GoodIn wsX11_busy (wsV RX11 174 RX11 yX11_counting wsX11_counting) := goodIn_app (goodIn_of _ (by decide +kernel)) ggX11_busy_X11_counting
set_option maxRecDepth 20000 in
theorem ggX11_busy_X5_sumOf : GoodIn wsX11_busy wsX5_sumOf := goodIn_r _ [31, 32, 33, 34, 35, 36, 37, 38, 39, 40, 41, 42, 43, 44, 45, 46, 47, 48, 49, 11, 50, 51, 52, 53, 30, 54, 55, 56, 57, 58, 59, 60, 61, 62, 63, 64, 65, 66, 67, 68, 69, 70, 71, 72, 73, 74, 75, 76, 77, 78, 79, 80, 81, 82, 83, 84, 85, 86, 87, 88, 89, 90, 91, 92, 93, 94, 95, 96, 97, 98, 99, 100, 101, 102, 103, 104, 105, 106, 107, 108, 109, 110, 111, 112, 113, 114, 115, 164, 165, 166, 167, 149, 150, 151, 152, 153, 154, 155, 156, 157, 158, 159, 168, 169] (by decide +kernel) (by decide +kernel)
set_option maxRecDepth 20000 in
theorem gX11_busy_X5_sumOf : GoodIn wsX11_busy (wsV RX11 190 RX5 yX5_sumOf wsX5_sumOf) := goodIn_app (goodIn_of _ (by decide +kernel)) ggX11_busy_X5_sumOf
set_option maxRecDepth 20000 in
theorem ggX11_busy_X0_offer : GoodIn wsX11_busy wsX0_offer := goodIn_r _ [119, 18, 120, 121, 122, 160, 161, 162, 163] (by decide +kernel) (by decide +kernel)
set_option maxRecDepth 20000 in
theorem gX11_busy_X0_offer : GoodIn wsX11_busy (wsV RX11 218 RX0 yX0_offer wsX0_offer) := goodIn_app (goodIn_of _ (by decide +kernel)) ggX11_busy_X0_offer
theorem dX11_busy_0 : decode cX11_busy 0 = .ok (.iload_n 1, 1) := by decide +kernel
theorem dX11_busy_1 : decode cX11_busy 1 = .ok (.ifCond .lt 15, 3) := by decide +kernel
theorem dX11_busy_4 : decode cX11_busy 4 = .ok (.iload_n 1, 1) := by decide +kernel
theorem dX11_busy_5 : decode cX11_busy 5 = .ok (.iconst 1, 1) := by decide +kernel
theorem dX11_busy_6 : decode cX11_busy 6 = .ok (.if_icmp .gt 10, 3) := by decide +kernel
theorem dX11_busy_9 : decode cX11_busy 9 = .ok (.aload_n 0, 1) := by decide +kernel
theorem dX11_busy_10 : decode cX11_busy 10 = .ok (.invokevirtual 209, 3) := by decide +kernel
theorem dX11_busy_13 : decode cX11_busy 13 = .ok (.ifCond .ne 5, 3) := by decide +kernel
theorem dX11_busy_16 : decode cX11_busy 16 = .ok (.iconst (-1), 1) := by decide +kernel
theorem dX11_busy_17 : decode cX11_busy 17 = .ok (.ireturn, 1) := by decide +kernel
theorem dX11_busy_18 : decode cX11_busy 18 = .ok (.aload_n 0, 1) := by decide +kernel
theorem dX11_busy_19 : decode cX11_busy 19 = .ok (.getfield 91, 3) := by decide +kernel
theorem dX11_busy_22 : decode cX11_busy 22 = .ok (.invokevirtual 212, 3) := by decide +kernel
theorem dX11_busy_25 : decode cX11_busy 25 = .ok (.iconst 0, 1) := by decide +kernel
theorem dX11_busy_26 : decode cX11_busy 26 = .ok (.istore_n 2, 1) := by decide +kernel
theorem dX11_busy_27 : decode cX11_busy 27 = .ok (.iload_n 2, 1) := by decide +kernel
theorem dX11_busy_28 : decode cX11_busy 28 = .ok (.aload_n 0, 1) := by decide +kernel
theorem dX11_busy_29 : decode cX11_busy 29 = .ok (.getfield 45, 3) := by decide +kernel
theorem dX11_busy_32 : decode cX11_busy 32 = .ok (.getfield 116, 3) := by decide +kernel
theorem dX11_busy_35 : decode cX11_busy 35 = .ok (.getfield 215, 3) := by decide +kernel
theorem dX11_busy_38 : decode cX11_busy 38 = .ok (.if_icmp .ge 56, 3) := by decide +kernel
theorem dX11_busy_41 : decode cX11_busy 41 = .ok (.iconst 0, 1) := by decide +kernel
theorem dX11_busy_42 : decode cX11_busy 42 = .ok (.istore_n 3, 1) := by decide +kernel
theorem dX11_busy_43 : decode cX11_busy 43 = .ok (.iload_n 3, 1) := by decide +kernel
theorem dX11_busy_44 : decode cX11_busy 44 = .ok (.aload_n 0, 1) := by decide +kernel
theorem dX11_busy_45 : decode cX11_busy 45 = .ok (.getfield 45, 3) := by decide +kernel
theorem dX11_busy_48 : decode cX11_busy 48 = .ok (.getfield 116, 3) := by decide +kernel
theorem dX11_busy_51 : decode cX11_busy 51 = .ok (.getfield 202, 3) := by decide +kernel
theorem dX11_busy_54 : decode cX11_busy 54 = .ok (.if_icmp .ge 34, 3) := by decide +kernel
theorem dX11_busy_57 : decode cX11_busy 57 = .ok (.aload_n 0, 1) := by decide +kernel
theorem dX11_busy_58 : decode cX11_busy 58 = .ok (.getfield 91, 3) := by decide +kernel
theorem dX11_busy_61 : decode cX11_busy 61 = .ok (.aload_n 0, 1) := by decide +kernel
theorem dX11_busy_62 : decode cX11_busy 62 = .ok (.invokevirtual 174, 3) := by decide +kernel
theorem dX11_busy_65 : decode cX11_busy 65 = .ok (.aload_n 0, 1) := by decide +kernel
theorem dX11_busy_66 : decode cX11_busy 66 = .ok (.getfield 45, 3) := by decide +kernel
theorem dX11_busy_69 : decode cX11_busy 69 = .ok (.getfield 116, 3) := by decide +kernel
theorem dX11_busy_72 : decode cX11_busy 72 = .ok (.iload_n 3, 1) := by decide +kernel
theorem dX11_busy_73 : decode cX11_busy 73 = .ok (.iload_n 2, 1) := by decide +kernel
theorem dX11_busy_74 : decode cX11_busy 74 = .ok (.invokevirtual 190, 3) := by decide +kernel
theorem dX11_busy_77 : decode cX11_busy 77 = .ok (.iload_n 2, 1) := by decide +kernel
theorem dX11_busy_78 : decode cX11_busy 78 = .ok (.iload_n 3, 1) := by decide +kernel
theorem dX11_busy_79 : decode cX11_busy 79 = .ok (.invokevirtual 218, 3) := by decide +kernel
theorem dX11_busy_82 : decode cX11_busy 82 = .ok (.iinc 3 1, 3) := by decide +kernel
theorem dX11_busy_85 : decode cX11_busy 85 = .ok (.goto (-42), 3) := by decide +kernel
theorem dX11_busy_88 : decode cX11_busy 88 = .ok (.iinc 2 1, 3) := by decide +kernel
theorem dX11_busy_91 : decode cX11_busy 91 = .ok (.goto (-64), 3) := by decide +kernel
theorem dX11_busy_94 : decode cX11_busy 94 = .ok (.iload_n 1, 1) := by decide +kernel
theorem dX11_busy_95 : decode cX11_busy 95 = .ok (.ifCond .ne 13, 3) := by decide +kernel
theorem dX11_busy_98 : decode cX11_busy 98 = .ok (.aload_n 0, 1) := by decide +kernel
theorem dX11_busy_99 : decode cX11_busy 99 = .ok (.getfield 91, 3) := by decide +kernel
theorem dX11_busy_102 : decode cX11_busy 102 = .ok (.getfield 222, 3) := by decide +kernel
theorem dX11_busy_105 : decode cX11_busy 105 = .ok (.goto 10, 3) := by decide +kernel
theorem dX11_busy_108 : decode cX11_busy 108 = .ok (.aload_n 0, 1) := by decide +kernel
theorem dX11_busy_109 : decode cX11_busy 109 = .ok (.getfield 91, 3) := by decide +kernel
theorem dX11_busy_112 : decode cX11_busy 112 = .ok (.getfield 225, 3) := by decide +kernel
theorem dX11_busy_115 : decode cX11_busy 115 = .ok (.ireturn, 1) := by decide +kernel
set_option maxRecDepth 20000 in
theorem ggX11_go_X8_isPerson : GoodIn wsX11_go wsX8_isPerson := goodIn_r _ [8, 9, 167, 168, 169, 170, 171, 172, 173, 174, 175, 176, 177] (by decide +kernel) (by decide +kernel)
set_option maxRecDepth 20000 in
theorem gX11_go_X8_isPerson : GoodIn wsX11_go (wsV RX11 130 RX8 yX8_isPerson wsX8_isPerson) := goodIn_app (goodIn_of _ (by decide +kernel)) ggX11_go_X8_isPerson
set_option maxRecDepth 20000 in
theorem ggX11_go_X8_isHour : GoodIn wsX11_go wsX8_isHour := goodIn_r _ [13, 14, 167, 168, 169, 170, 171, 172, 173, 174, 175, 176, 177] (by decide +kernel) (by decide +kernel)
set_option maxRecDepth 20000 in
theorem gX11_go_X8_isHour : GoodIn wsX11_go (wsV RX11 134 RX8 yX8_isHour wsX8_isHour) := goodIn_app (goodIn_of _ (by decide +kernel)) ggX11_go_X8_isHour
set_option maxRecDepth 20000 in
theorem ggX11_go_X8_isPlace : GoodIn wsX11_go wsX8_isPlace := goodIn_r _ [18, 19, 20, 21, 7, 22, 23, 167, 168, 169, 170, 171, 172, 173, 174, 175, 176, 177] (by decide +kernel) (by decide +kernel)
set_option maxRecDepth 20000 in
theorem gX11_go_X8_isPlace : GoodIn wsX11_go (wsV RX11 228 RX8 yX8_isPlace wsX8_isPlace) := goodIn_app (goodIn_of _ (by decide +kernel)) ggX11_go_X8_isPlace
set_option maxRecDepth 20000 in
theorem ggX11_go_X8_placeOf : GoodIn wsX11_go wsX8_placeOf := goodIn_r _ [27, 28, 29, 5, 6, 7, 8, 9, 30, 11, 12, 13, 14, 167, 168, 169, 170, 171, 172, 173, 174, 175, 176, 177] (by decide +kernel) (by decide +kernel)
set_option maxRecDepth 20000 in
theorem gX11_go_X8_placeOf : GoodIn wsX11_go (wsV RX11 137 RX8 yX8_placeOf wsX8_placeOf) := goodIn_app (goodIn_of _ (by decide +kernel)) ggX11_go_X8_placeOf
set_option maxRecDepth 20000 in
theorem ggX11_go_X1_remember : GoodIn wsX11_go wsX1_remember := goodIn_r _ [35, 36, 37, 38, 39, 40, 41, 42, 34, 43, 44, 45, 46, 47, 154, 155, 156, 157, 158, 159, 160, 161, 162, 163, 164, 165, 166] (by decide +kernel) (by decide +kernel)
set_option maxRecDepth 20000 in
theorem gX11_go_X1_remember : GoodIn wsX11_go (wsV RX11 231 RX1 yX1_remember wsX1_remember) := goodIn_app (goodIn_of _ (by decide +kernel)) ggX11_go_X1_remember
set_option maxRecDepth 20000 in
theorem ggX11_go_X8_moveTo : GoodIn wsX11_go wsX8_moveTo := goodIn_r _ [51, 28, 52, 29, 5, 6, 7, 8, 9, 30, 11, 12, 13, 14, 53, 16, 17, 18, 19, 20, 21, 22, 23, 167, 168, 169, 170, 171, 172, 173, 174, 175, 176, 177] (by decide +kernel) (by decide +kernel)
set_option maxRecDepth 20000 in
theorem gX11_go_X8_moveTo : GoodIn wsX11_go (wsV RX11 235 RX8 yX8_moveTo wsX8_moveTo) := goodIn_app (goodIn_of _ (by decide +kernel)) ggX11_go_X8_moveTo
set_option maxRecDepth 20000 in
theorem ggX11_go_X11_counting : GoodIn wsX11_go wsX11_counting := goodIn_r _ [58, 1, 59, 60, 61, 62, 141, 142, 143, 144, 145, 146, 147, 148, 149, 150, 151, 152, 153, 154, 155, 156, 157, 158, 159, 160, 161, 162, 163, 164, 165, 166, 178, 179, 180, 181] (by decide +kernel) (by decide +kernel)
set_option maxRecDepth 20000 in
theorem gX11_go_X11_counting : GoodIn wsX11_go (wsV RX11 174 RX11 yX11_counting wsX11_counting) := goodIn_app (goodIn_of _ (by decide +kernel)) ggX11_go_X11_counting
set_option maxRecDepth 20000 in
theorem ggX11_go_X5_totalOf : GoodIn wsX11_go wsX5_totalOf := goodIn_r _ [67, 68, 69, 70, 71, 72, 66, 73, 74, 75, 76, 77, 78, 79, 80, 81, 7, 82, 52, 19, 20, 21, 22, 23, 30, 11, 12, 13, 14, 83, 57, 84, 85, 86, 87, 88, 89, 90, 91, 92, 93, 94, 95, 96, 97, 98, 99, 28, 29, 5, 6, 8, 9, 100, 101, 102, 103, 104, 105, 106, 107, 108, 109, 110, 111, 112, 25, 26, 27, 113, 114, 115, 116, 117, 118, 119, 120, 121, 122, 123, 124, 125, 126, 127, 128, 129, 130, 131, 132, 133, 134, 135, 136, 137, 138, 139, 140, 167, 168, 169, 170, 171, 172, 173, 174, 175, 176, 177, 178, 179, 180, 181, 182, 183] (by decide +kernel) (by decide +kernel)
set_option maxRecDepth 20000 in
theorem gX11_go_X5_totalOf : GoodIn wsX11_go (wsV RX11 198 RX5 yX5_totalOf wsX5_totalOf) := goodIn_app (goodIn_of _ (by decide +kernel)) ggX11_go_X5_totalOf
theorem dX11_go_0 : decode cX11_go 0 = .ok (.aload_n 0, 1) := by decide +kernel
theorem dX11_go_1 : decode cX11_go 1 = .ok (.getfield 45, 3) := by decide +kernel
theorem dX11_go_4 : decode cX11_go 4 = .ok (.getfield 116, 3) := by decide +kernel
theorem dX11_go_7 : decode cX11_go 7 = .ok (.astore 4, 2) := by decide +kernel
theorem dX11_go_9 : decode cX11_go 9 = .ok (.aload 4, 2) := by decide +kernel
theorem dX11_go_11 : decode cX11_go 11 = .ok (.iload_n 1, 1) := by decide +kernel
theorem dX11_go_12 : decode cX11_go 12 = .ok (.invokevirtual 130, 3) := by decide +kernel
theorem dX11_go_15 : decode cX11_go 15 = .ok (.ifCond .eq 21, 3) := by decide +kernel
theorem dX11_go_18 : decode cX11_go 18 = .ok (.aload 4, 2) := by decide +kernel
theorem dX11_go_20 : decode cX11_go 20 = .ok (.iload_n 2, 1) := by decide +kernel
theorem dX11_go_21 : decode cX11_go 21 = .ok (.invokevirtual 134, 3) := by decide +kernel
theorem dX11_go_24 : decode cX11_go 24 = .ok (.ifCond .eq 12, 3) := by decide +kernel
theorem dX11_go_27 : decode cX11_go 27 = .ok (.aload 4, 2) := by decide +kernel
theorem dX11_go_29 : decode cX11_go 29 = .ok (.iload_n 3, 1) := by decide +kernel
theorem dX11_go_30 : decode cX11_go 30 = .ok (.invokevirtual 228, 3) := by decide +kernel
theorem dX11_go_33 : decode cX11_go 33 = .ok (.ifCond .ne 6, 3) := by decide +kernel
theorem dX11_go_36 : decode cX11_go 36 = .ok (.ldc 194, 2) := by decide +kernel
theorem dX11_go_38 : decode cX11_go 38 = .ok (.ireturn, 1) := by decide +kernel
theorem dX11_go_39 : decode cX11_go 39 = .ok (.aload 4, 2) := by decide +kernel
theorem dX11_go_41 : decode cX11_go 41 = .ok (.iload_n 1, 1) := by decide +kernel
theorem dX11_go_42 : decode cX11_go 42 = .ok (.iload_n 2, 1) := by decide +kernel
theorem dX11_go_43 : decode cX11_go 43 = .ok (.invokevirtual 137, 3) := by decide +kernel
theorem dX11_go_46 : decode cX11_go 46 = .ok (.istore 5, 2) := by decide +kernel
theorem dX11_go_48 : decode cX11_go 48 = .ok (.iload 5, 2) := by decide +kernel
theorem dX11_go_50 : decode cX11_go 50 = .ok (.iload_n 3, 1) := by decide +kernel
theorem dX11_go_51 : decode cX11_go 51 = .ok (.if_icmp .ne 6, 3) := by decide +kernel
theorem dX11_go_54 : decode cX11_go 54 = .ok (.ldc 194, 2) := by decide +kernel
theorem dX11_go_56 : decode cX11_go 56 = .ok (.ireturn, 1) := by decide +kernel
theorem dX11_go_57 : decode cX11_go 57 = .ok (.aload_n 0, 1) := by decide +kernel
theorem dX11_go_58 : decode cX11_go 58 = .ok (.getfield 45, 3) := by decide +kernel
theorem dX11_go_61 : decode cX11_go 61 = .ok (.iconst 0, 1) := by decide +kernel
theorem dX11_go_62 : decode cX11_go 62 = .ok (.iload_n 1, 1) := by decide +kernel
theorem dX11_go_63 : decode cX11_go 63 = .ok (.iload_n 2, 1) := by decide +kernel
theorem dX11_go_64 : decode cX11_go 64 = .ok (.iload 5, 2) := by decide +kernel
theorem dX11_go_66 : decode cX11_go 66 = .ok (.invokevirtual 231, 3) := by decide +kernel
theorem dX11_go_69 : decode cX11_go 69 = .ok (.aload 4, 2) := by decide +kernel
theorem dX11_go_71 : decode cX11_go 71 = .ok (.iload_n 1, 1) := by decide +kernel
theorem dX11_go_72 : decode cX11_go 72 = .ok (.iload_n 2, 1) := by decide +kernel
theorem dX11_go_73 : decode cX11_go 73 = .ok (.iload_n 3, 1) := by decide +kernel
theorem dX11_go_74 : decode cX11_go 74 = .ok (.invokevirtual 235, 3) := by decide +kernel
theorem dX11_go_77 : decode cX11_go 77 = .ok (.aload_n 0, 1) := by decide +kernel
theorem dX11_go_78 : decode cX11_go 78 = .ok (.invokevirtual 174, 3) := by decide +kernel
theorem dX11_go_81 : decode cX11_go 81 = .ok (.aload 4, 2) := by decide +kernel
theorem dX11_go_83 : decode cX11_go 83 = .ok (.invokevirtual 198, 3) := by decide +kernel
theorem dX11_go_86 : decode cX11_go 86 = .ok (.ireturn, 1) := by decide +kernel
set_option maxRecDepth 20000 in
theorem ggX11_glove_X8_isPerson : GoodIn wsX11_glove wsX8_isPerson := goodIn_r _ [8, 9, 53, 54, 55, 56, 57, 58, 59, 60, 61, 62, 63] (by decide +kernel) (by decide +kernel)
set_option maxRecDepth 20000 in
theorem gX11_glove_X8_isPerson : GoodIn wsX11_glove (wsV RX11 130 RX8 yX8_isPerson wsX8_isPerson) := goodIn_app (goodIn_of _ (by decide +kernel)) ggX11_glove_X8_isPerson
set_option maxRecDepth 20000 in
theorem ggX11_glove_X1_remember : GoodIn wsX11_glove wsX1_remember := goodIn_r _ [14, 15, 16, 17, 18, 19, 20, 21, 13, 22, 23, 24, 25, 26, 40, 41, 42, 43, 44, 45, 46, 47, 48, 49, 50, 51, 52] (by decide +kernel) (by decide +kernel)
set_option maxRecDepth 20000 in
theorem gX11_glove_X1_remember : GoodIn wsX11_glove (wsV RX11 231 RX1 yX1_remember wsX1_remember) := goodIn_app (goodIn_of _ (by decide +kernel)) ggX11_glove_X1_remember
theorem dX11_glove_0 : decode cX11_glove 0 = .ok (.aload_n 0, 1) := by decide +kernel
theorem dX11_glove_1 : decode cX11_glove 1 = .ok (.getfield 45, 3) := by decide +kernel
theorem dX11_glove_4 : decode cX11_glove 4 = .ok (.getfield 116, 3) := by decide +kernel
theorem dX11_glove_7 : decode cX11_glove 7 = .ok (.astore_n 3, 1) := by decide +kernel
theorem dX11_glove_8 : decode cX11_glove 8 = .ok (.iload_n 2, 1) := by decide +kernel
theorem dX11_glove_9 : decode cX11_glove 9 = .ok (.ifCond .eq 7, 3) := by decide +kernel
theorem dX11_glove_12 : decode cX11_glove 12 = .ok (.iconst 1, 1) := by decide +kernel
theorem dX11_glove_13 : decode cX11_glove 13 = .ok (.goto 4, 3) := by decide +kernel
theorem dX11_glove_16 : decode cX11_glove 16 = .ok (.iconst 0, 1) := by decide +kernel
theorem dX11_glove_17 : decode cX11_glove 17 = .ok (.istore 4, 2) := by decide +kernel
theorem dX11_glove_19 : decode cX11_glove 19 = .ok (.aload_n 3, 1) := by decide +kernel
theorem dX11_glove_20 : decode cX11_glove 20 = .ok (.iload_n 1, 1) := by decide +kernel
theorem dX11_glove_21 : decode cX11_glove 21 = .ok (.invokevirtual 130, 3) := by decide +kernel
theorem dX11_glove_24 : decode cX11_glove 24 = .ok (.ifCond .eq 16, 3) := by decide +kernel
theorem dX11_glove_27 : decode cX11_glove 27 = .ok (.aload_n 3, 1) := by decide +kernel
theorem dX11_glove_28 : decode cX11_glove 28 = .ok (.getfield 144, 3) := by decide +kernel
theorem dX11_glove_31 : decode cX11_glove 31 = .ok (.iload_n 1, 1) := by decide +kernel
theorem dX11_glove_32 : decode cX11_glove 32 = .ok (.ishr, 1) := by decide +kernel
theorem dX11_glove_33 : decode cX11_glove 33 = .ok (.iconst 1, 1) := by decide +kernel
theorem dX11_glove_34 : decode cX11_glove 34 = .ok (.iand, 1) := by decide +kernel
theorem dX11_glove_35 : decode cX11_glove 35 = .ok (.iload 4, 2) := by decide +kernel
theorem dX11_glove_37 : decode cX11_glove 37 = .ok (.if_icmp .ne 5, 3) := by decide +kernel
theorem dX11_glove_40 : decode cX11_glove 40 = .ok (.iconst 0, 1) := by decide +kernel
theorem dX11_glove_41 : decode cX11_glove 41 = .ok (.ireturn, 1) := by decide +kernel
theorem dX11_glove_42 : decode cX11_glove 42 = .ok (.aload_n 0, 1) := by decide +kernel
theorem dX11_glove_43 : decode cX11_glove 43 = .ok (.getfield 45, 3) := by decide +kernel
theorem dX11_glove_46 : decode cX11_glove 46 = .ok (.iconst 1, 1) := by decide +kernel
theorem dX11_glove_47 : decode cX11_glove 47 = .ok (.iload_n 1, 1) := by decide +kernel
theorem dX11_glove_48 : decode cX11_glove 48 = .ok (.iconst 0, 1) := by decide +kernel
theorem dX11_glove_49 : decode cX11_glove 49 = .ok (.iconst 0, 1) := by decide +kernel
theorem dX11_glove_50 : decode cX11_glove 50 = .ok (.invokevirtual 231, 3) := by decide +kernel
theorem dX11_glove_53 : decode cX11_glove 53 = .ok (.aload_n 3, 1) := by decide +kernel
theorem dX11_glove_54 : decode cX11_glove 54 = .ok (.dup, 1) := by decide +kernel
theorem dX11_glove_55 : decode cX11_glove 55 = .ok (.getfield 144, 3) := by decide +kernel
theorem dX11_glove_58 : decode cX11_glove 58 = .ok (.iconst 1, 1) := by decide +kernel
theorem dX11_glove_59 : decode cX11_glove 59 = .ok (.iload_n 1, 1) := by decide +kernel
theorem dX11_glove_60 : decode cX11_glove 60 = .ok (.ishl, 1) := by decide +kernel
theorem dX11_glove_61 : decode cX11_glove 61 = .ok (.ixor, 1) := by decide +kernel
theorem dX11_glove_62 : decode cX11_glove 62 = .ok (.putfield 144, 3) := by decide +kernel
theorem dX11_glove_65 : decode cX11_glove 65 = .ok (.iconst 1, 1) := by decide +kernel
theorem dX11_glove_66 : decode cX11_glove 66 = .ok (.ireturn, 1) := by decide +kernel
set_option maxRecDepth 20000 in
theorem ggX11_counter_X8_isGate : GoodIn wsX11_counter wsX8_isGate := goodIn_r _ [8, 9, 53, 54, 55, 56, 57, 58, 59, 60, 61, 62, 63] (by decide +kernel) (by decide +kernel)
set_option maxRecDepth 20000 in
theorem gX11_counter_X8_isGate : GoodIn wsX11_counter (wsV RX11 238 RX8 yX8_isGate wsX8_isGate) := goodIn_app (goodIn_of _ (by decide +kernel)) ggX11_counter_X8_isGate
set_option maxRecDepth 20000 in
theorem ggX11_counter_X1_remember : GoodIn wsX11_counter wsX1_remember := goodIn_r _ [14, 15, 16, 17, 18, 19, 20, 21, 13, 22, 23, 24, 25, 26, 40, 41, 42, 43, 44, 45, 46, 47, 48, 49, 50, 51, 52] (by decide +kernel) (by decide +kernel)
set_option maxRecDepth 20000 in
theorem gX11_counter_X1_remember : GoodIn wsX11_counter (wsV RX11 231 RX1 yX1_remember wsX1_remember) := goodIn_app (goodIn_of _ (by decide +kernel)) ggX11_counter_X1_remember
theorem dX11_counter_0 : decode cX11_counter 0 = .ok (.aload_n 0, 1) := by decide +kernel
theorem dX11_counter_1 : decode cX11_counter 1 = .ok (.getfield 45, 3) := by decide +kernel
theorem dX11_counter_4 : decode cX11_counter 4 = .ok (.getfield 116, 3) := by decide +kernel
theorem dX11_counter_7 : decode cX11_counter 7 = .ok (.astore_n 3, 1) := by decide +kernel
theorem dX11_counter_8 : decode cX11_counter 8 = .ok (.iload_n 2, 1) := by decide +kernel
theorem dX11_counter_9 : decode cX11_counter 9 = .ok (.ifCond .eq 7, 3) := by decide +kernel
theorem dX11_counter_12 : decode cX11_counter 12 = .ok (.iconst 1, 1) := by decide +kernel
theorem dX11_counter_13 : decode cX11_counter 13 = .ok (.goto 4, 3) := by decide +kernel
theorem dX11_counter_16 : decode cX11_counter 16 = .ok (.iconst 0, 1) := by decide +kernel
theorem dX11_counter_17 : decode cX11_counter 17 = .ok (.istore 4, 2) := by decide +kernel
theorem dX11_counter_19 : decode cX11_counter 19 = .ok (.aload_n 3, 1) := by decide +kernel
theorem dX11_counter_20 : decode cX11_counter 20 = .ok (.iload_n 1, 1) := by decide +kernel
theorem dX11_counter_21 : decode cX11_counter 21 = .ok (.invokevirtual 238, 3) := by decide +kernel
theorem dX11_counter_24 : decode cX11_counter 24 = .ok (.ifCond .eq 16, 3) := by decide +kernel
theorem dX11_counter_27 : decode cX11_counter 27 = .ok (.aload_n 3, 1) := by decide +kernel
theorem dX11_counter_28 : decode cX11_counter 28 = .ok (.getfield 195, 3) := by decide +kernel
theorem dX11_counter_31 : decode cX11_counter 31 = .ok (.iload_n 1, 1) := by decide +kernel
theorem dX11_counter_32 : decode cX11_counter 32 = .ok (.ishr, 1) := by decide +kernel
theorem dX11_counter_33 : decode cX11_counter 33 = .ok (.iconst 1, 1) := by decide +kernel
theorem dX11_counter_34 : decode cX11_counter 34 = .ok (.iand, 1) := by decide +kernel
theorem dX11_counter_35 : decode cX11_counter 35 = .ok (.iload 4, 2) := by decide +kernel
theorem dX11_counter_37 : decode cX11_counter 37 = .ok (.if_icmp .ne 5, 3) := by decide +kernel
theorem dX11_counter_40 : decode cX11_counter 40 = .ok (.iconst 0, 1) := by decide +kernel
theorem dX11_counter_41 : decode cX11_counter 41 = .ok (.ireturn, 1) := by decide +kernel
theorem dX11_counter_42 : decode cX11_counter 42 = .ok (.aload_n 0, 1) := by decide +kernel
theorem dX11_counter_43 : decode cX11_counter 43 = .ok (.getfield 45, 3) := by decide +kernel
theorem dX11_counter_46 : decode cX11_counter 46 = .ok (.iconst 2, 1) := by decide +kernel
theorem dX11_counter_47 : decode cX11_counter 47 = .ok (.iload_n 1, 1) := by decide +kernel
theorem dX11_counter_48 : decode cX11_counter 48 = .ok (.iconst 0, 1) := by decide +kernel
theorem dX11_counter_49 : decode cX11_counter 49 = .ok (.iconst 0, 1) := by decide +kernel
theorem dX11_counter_50 : decode cX11_counter 50 = .ok (.invokevirtual 231, 3) := by decide +kernel
theorem dX11_counter_53 : decode cX11_counter 53 = .ok (.aload_n 3, 1) := by decide +kernel
theorem dX11_counter_54 : decode cX11_counter 54 = .ok (.dup, 1) := by decide +kernel
theorem dX11_counter_55 : decode cX11_counter 55 = .ok (.getfield 195, 3) := by decide +kernel
theorem dX11_counter_58 : decode cX11_counter 58 = .ok (.iconst 1, 1) := by decide +kernel
theorem dX11_counter_59 : decode cX11_counter 59 = .ok (.iload_n 1, 1) := by decide +kernel
theorem dX11_counter_60 : decode cX11_counter 60 = .ok (.ishl, 1) := by decide +kernel
theorem dX11_counter_61 : decode cX11_counter 61 = .ok (.ixor, 1) := by decide +kernel
theorem dX11_counter_62 : decode cX11_counter 62 = .ok (.putfield 195, 3) := by decide +kernel
theorem dX11_counter_65 : decode cX11_counter 65 = .ok (.iconst 1, 1) := by decide +kernel
theorem dX11_counter_66 : decode cX11_counter 66 = .ok (.ireturn, 1) := by decide +kernel
set_option maxRecDepth 20000 in
theorem ggX11_night_X11_hasTown : GoodIn wsX11_night wsX11_hasTown := goodIn_r _ [8, 1, 2, 9, 27, 28, 29, 30, 31, 32, 33, 34, 35, 36, 37, 38, 39, 40, 41, 42, 43, 44, 45, 46, 47, 48, 49, 50, 51, 52, 53, 54, 55, 56, 57, 58, 59, 60, 61, 62, 63] (by decide +kernel) (by decide +kernel)
set_option maxRecDepth 20000 in
theorem gX11_night_X11_hasTown : GoodIn wsX11_night (wsV RX11 209 RX11 yX11_hasTown wsX11_hasTown) := goodIn_app (goodIn_of _ (by decide +kernel)) ggX11_night_X11_hasTown
set_option maxRecDepth 20000 in
theorem ggX11_night_X1_remember : GoodIn wsX11_night wsX1_remember := goodIn_r _ [14, 15, 16, 17, 18, 19, 20, 21, 13, 22, 23, 24, 25, 26, 40, 41, 42, 43, 44, 45, 46, 47, 48, 49, 50, 51, 52] (by decide +kernel) (by decide +kernel)
set_option maxRecDepth 20000 in
theorem gX11_night_X1_remember : GoodIn wsX11_night (wsV RX11 231 RX1 yX1_remember wsX1_remember) := goodIn_app (goodIn_of _ (by decide +kernel)) ggX11_night_X1_remember
theorem dX11_night_0 : decode cX11_night 0 = .ok (.aload_n 0, 1) := by decide +kernel
theorem dX11_night_1 : decode cX11_night 1 = .ok (.invokevirtual 209, 3) := by decide +kernel
theorem dX11_night_4 : decode cX11_night 4 = .ok (.ifCond .eq 19, 3) := by decide +kernel
theorem dX11_night_7 : decode cX11_night 7 = .ok (.aload_n 0, 1) := by decide +kernel
theorem dX11_night_8 : decode cX11_night 8 = .ok (.getfield 45, 3) := by decide +kernel
theorem dX11_night_11 : decode cX11_night 11 = .ok (.getfield 116, 3) := by decide +kernel
theorem dX11_night_14 : decode cX11_night 14 = .ok (.getfield 241, 3) := by decide +kernel
theorem dX11_night_17 : decode cX11_night 17 = .ok (.sipush 9999, 3) := by decide +kernel
theorem dX11_night_20 : decode cX11_night 20 = .ok (.if_icmp .lt 5, 3) := by decide +kernel
theorem dX11_night_23 : decode cX11_night 23 = .ok (.iconst (-1), 1) := by decide +kernel
theorem dX11_night_24 : decode cX11_night 24 = .ok (.ireturn, 1) := by decide +kernel
theorem dX11_night_25 : decode cX11_night 25 = .ok (.aload_n 0, 1) := by decide +kernel
theorem dX11_night_26 : decode cX11_night 26 = .ok (.getfield 45, 3) := by decide +kernel
theorem dX11_night_29 : decode cX11_night 29 = .ok (.iconst 3, 1) := by decide +kernel
theorem dX11_night_30 : decode cX11_night 30 = .ok (.iconst 0, 1) := by decide +kernel
theorem dX11_night_31 : decode cX11_night 31 = .ok (.iconst 0, 1) := by decide +kernel
theorem dX11_night_32 : decode cX11_night 32 = .ok (.iconst 0, 1) := by decide +kernel
theorem dX11_night_33 : decode cX11_night 33 = .ok (.invokevirtual 231, 3) := by decide +kernel
theorem dX11_night_36 : decode cX11_night 36 = .ok (.aload_n 0, 1) := by decide +kernel
theorem dX11_night_37 : decode cX11_night 37 = .ok (.getfield 45, 3) := by decide +kernel
theorem dX11_night_40 : decode cX11_night 40 = .ok (.getfield 116, 3) := by decide +kernel
theorem dX11_night_43 : decode cX11_night 43 = .ok (.dup, 1) := by decide +kernel
theorem dX11_night_44 : decode cX11_night 44 = .ok (.getfield 241, 3) := by decide +kernel
theorem dX11_night_47 : decode cX11_night 47 = .ok (.iconst 1, 1) := by decide +kernel
theorem dX11_night_48 : decode cX11_night 48 = .ok (.iadd, 1) := by decide +kernel
theorem dX11_night_49 : decode cX11_night 49 = .ok (.putfield 241, 3) := by decide +kernel
theorem dX11_night_52 : decode cX11_night 52 = .ok (.aload_n 0, 1) := by decide +kernel
theorem dX11_night_53 : decode cX11_night 53 = .ok (.getfield 45, 3) := by decide +kernel
theorem dX11_night_56 : decode cX11_night 56 = .ok (.getfield 116, 3) := by decide +kernel
theorem dX11_night_59 : decode cX11_night 59 = .ok (.getfield 241, 3) := by decide +kernel
theorem dX11_night_62 : decode cX11_night 62 = .ok (.ireturn, 1) := by decide +kernel
set_option maxRecDepth 20000 in
theorem ggX11_undo_X1_takeBack : GoodIn wsX11_undo wsX1_takeBack := goodIn_r _ [7, 8, 9, 10, 11, 12, 13, 14, 15, 16, 17, 18, 19, 20, 21, 22, 23, 24, 25, 26, 27, 28, 29, 30, 31, 32, 33, 34, 35, 36, 37, 38, 39, 40, 41, 42, 56, 57, 58, 59, 60, 61, 62, 63, 64, 65, 66, 67, 68, 69, 70, 71, 72, 73, 74, 75, 76, 77, 78, 79] (by decide +kernel) (by decide +kernel)
set_option maxRecDepth 20000 in
theorem gX11_undo_X1_takeBack : GoodIn wsX11_undo (wsV RX11 244 RX1 yX1_takeBack wsX1_takeBack) := goodIn_app (goodIn_of _ (by decide +kernel)) ggX11_undo_X1_takeBack
theorem dX11_undo_0 : decode cX11_undo 0 = .ok (.aload_n 0, 1) := by decide +kernel
theorem dX11_undo_1 : decode cX11_undo 1 = .ok (.getfield 45, 3) := by decide +kernel
theorem dX11_undo_4 : decode cX11_undo 4 = .ok (.invokevirtual 244, 3) := by decide +kernel
theorem dX11_undo_7 : decode cX11_undo 7 = .ok (.ifCond .eq 13, 3) := by decide +kernel
theorem dX11_undo_10 : decode cX11_undo 10 = .ok (.aload_n 0, 1) := by decide +kernel
theorem dX11_undo_11 : decode cX11_undo 11 = .ok (.getfield 45, 3) := by decide +kernel
theorem dX11_undo_14 : decode cX11_undo 14 = .ok (.getfield 247, 3) := by decide +kernel
theorem dX11_undo_17 : decode cX11_undo 17 = .ok (.goto 5, 3) := by decide +kernel
theorem dX11_undo_20 : decode cX11_undo 20 = .ok (.bipush (-2), 2) := by decide +kernel
theorem dX11_undo_22 : decode cX11_undo 22 = .ok (.ireturn, 1) := by decide +kernel
set_option maxRecDepth 20000 in
theorem ggX11_told_X11_isSpot : GoodIn wsX11_told wsX11_isSpot := goodIn_r _ [12, 1, 13, 14, 15, 16, 17, 18, 19, 20, 21, 22, 23, 24, 25, 26, 27, 28, 29, 30, 31, 32, 33, 34, 35, 36, 37, 38, 39, 40, 41, 42, 43, 44, 45, 46, 47, 48, 49, 50, 51, 52, 53, 54, 55, 56, 57, 58, 59, 60, 61] (by decide +kernel) (by decide +kernel)
set_option maxRecDepth 20000 in
theorem gX11_told_X11_isSpot : GoodIn wsX11_told (wsV RX11 158 RX11 yX11_isSpot wsX11_isSpot) := goodIn_app (goodIn_of _ (by decide +kernel)) ggX11_told_X11_isSpot
theorem dX11_told_0 : decode cX11_told 0 = .ok (.iload_n 1, 1) := by decide +kernel
theorem dX11_told_1 : decode cX11_told 1 = .ok (.iconst (-1), 1) := by decide +kernel
theorem dX11_told_2 : decode cX11_told 2 = .ok (.if_icmp .ne 13, 3) := by decide +kernel
theorem dX11_told_5 : decode cX11_told 5 = .ok (.aload_n 0, 1) := by decide +kernel
theorem dX11_told_6 : decode cX11_told 6 = .ok (.getfield 45, 3) := by decide +kernel
theorem dX11_told_9 : decode cX11_told 9 = .ok (.iconst 0, 1) := by decide +kernel
theorem dX11_told_10 : decode cX11_told 10 = .ok (.putfield 250, 3) := by decide +kernel
theorem dX11_told_13 : decode cX11_told 13 = .ok (.iconst 0, 1) := by decide +kernel
theorem dX11_told_14 : decode cX11_told 14 = .ok (.ireturn, 1) := by decide +kernel
theorem dX11_told_15 : decode cX11_told 15 = .ok (.aload_n 0, 1) := by decide +kernel
theorem dX11_told_16 : decode cX11_told 16 = .ok (.iload_n 1, 1) := by decide +kernel
theorem dX11_told_17 : decode cX11_told 17 = .ok (.iload_n 2, 1) := by decide +kernel
theorem dX11_told_18 : decode cX11_told 18 = .ok (.invokevirtual 158, 3) := by decide +kernel
theorem dX11_told_21 : decode cX11_told 21 = .ok (.ifCond .eq 27, 3) := by decide +kernel
theorem dX11_told_24 : decode cX11_told 24 = .ok (.iload_n 3, 1) := by decide +kernel
theorem dX11_told_25 : decode cX11_told 25 = .ok (.ldc 253, 2) := by decide +kernel
theorem dX11_told_27 : decode cX11_told 27 = .ok (.if_icmp .lt 21, 3) := by decide +kernel
theorem dX11_told_30 : decode cX11_told 30 = .ok (.iload_n 3, 1) := by decide +kernel
theorem dX11_told_31 : decode cX11_told 31 = .ok (.ldc 254, 2) := by decide +kernel
theorem dX11_told_33 : decode cX11_told 33 = .ok (.if_icmp .gt 15, 3) := by decide +kernel
theorem dX11_told_36 : decode cX11_told 36 = .ok (.aload_n 0, 1) := by decide +kernel
theorem dX11_told_37 : decode cX11_told 37 = .ok (.getfield 45, 3) := by decide +kernel
theorem dX11_told_40 : decode cX11_told 40 = .ok (.getfield 250, 3) := by decide +kernel
theorem dX11_told_43 : decode cX11_told 43 = .ok (.bipush 10, 2) := by decide +kernel
theorem dX11_told_45 : decode cX11_told 45 = .ok (.if_icmp .lt 6, 3) := by decide +kernel
theorem dX11_told_48 : decode cX11_told 48 = .ok (.bipush (-2), 2) := by decide +kernel
theorem dX11_told_50 : decode cX11_told 50 = .ok (.ireturn, 1) := by decide +kernel
theorem dX11_told_51 : decode cX11_told 51 = .ok (.aload_n 0, 1) := by decide +kernel
theorem dX11_told_52 : decode cX11_told 52 = .ok (.getfield 45, 3) := by decide +kernel
theorem dX11_told_55 : decode cX11_told 55 = .ok (.getfield 255, 3) := by decide +kernel
theorem dX11_told_58 : decode cX11_told 58 = .ok (.aload_n 0, 1) := by decide +kernel
theorem dX11_told_59 : decode cX11_told 59 = .ok (.getfield 45, 3) := by decide +kernel
theorem dX11_told_62 : decode cX11_told 62 = .ok (.getfield 250, 3) := by decide +kernel
theorem dX11_told_65 : decode cX11_told 65 = .ok (.iload_n 1, 1) := by decide +kernel
theorem dX11_told_66 : decode cX11_told 66 = .ok (.iastore, 1) := by decide +kernel
theorem dX11_told_67 : decode cX11_told 67 = .ok (.aload_n 0, 1) := by decide +kernel
theorem dX11_told_68 : decode cX11_told 68 = .ok (.getfield 45, 3) := by decide +kernel
theorem dX11_told_71 : decode cX11_told 71 = .ok (.getfield 258, 3) := by decide +kernel
theorem dX11_told_74 : decode cX11_told 74 = .ok (.aload_n 0, 1) := by decide +kernel
theorem dX11_told_75 : decode cX11_told 75 = .ok (.getfield 45, 3) := by decide +kernel
theorem dX11_told_78 : decode cX11_told 78 = .ok (.getfield 250, 3) := by decide +kernel
theorem dX11_told_81 : decode cX11_told 81 = .ok (.iload_n 2, 1) := by decide +kernel
theorem dX11_told_82 : decode cX11_told 82 = .ok (.iastore, 1) := by decide +kernel
theorem dX11_told_83 : decode cX11_told 83 = .ok (.aload_n 0, 1) := by decide +kernel
theorem dX11_told_84 : decode cX11_told 84 = .ok (.getfield 45, 3) := by decide +kernel
theorem dX11_told_87 : decode cX11_told 87 = .ok (.getfield 261, 3) := by decide +kernel
theorem dX11_told_90 : decode cX11_told 90 = .ok (.aload_n 0, 1) := by decide +kernel
theorem dX11_told_91 : decode cX11_told 91 = .ok (.getfield 45, 3) := by decide +kernel
theorem dX11_told_94 : decode cX11_told 94 = .ok (.getfield 250, 3) := by decide +kernel
theorem dX11_told_97 : decode cX11_told 97 = .ok (.iload_n 3, 1) := by decide +kernel
theorem dX11_told_98 : decode cX11_told 98 = .ok (.iastore, 1) := by decide +kernel
theorem dX11_told_99 : decode cX11_told 99 = .ok (.aload_n 0, 1) := by decide +kernel
theorem dX11_told_100 : decode cX11_told 100 = .ok (.getfield 45, 3) := by decide +kernel
theorem dX11_told_103 : decode cX11_told 103 = .ok (.dup, 1) := by decide +kernel
theorem dX11_told_104 : decode cX11_told 104 = .ok (.getfield 250, 3) := by decide +kernel
theorem dX11_told_107 : decode cX11_told 107 = .ok (.iconst 1, 1) := by decide +kernel
theorem dX11_told_108 : decode cX11_told 108 = .ok (.iadd, 1) := by decide +kernel
theorem dX11_told_109 : decode cX11_told 109 = .ok (.putfield 250, 3) := by decide +kernel
theorem dX11_told_112 : decode cX11_told 112 = .ok (.aload_n 0, 1) := by decide +kernel
theorem dX11_told_113 : decode cX11_told 113 = .ok (.getfield 45, 3) := by decide +kernel
theorem dX11_told_116 : decode cX11_told 116 = .ok (.getfield 250, 3) := by decide +kernel
theorem dX11_told_119 : decode cX11_told 119 = .ok (.ireturn, 1) := by decide +kernel
set_option maxRecDepth 20000 in
theorem ggX11_worlds_X11_hasTown : GoodIn wsX11_worlds wsX11_hasTown := goodIn_r _ [12, 2, 13, 14, 155, 156, 157, 158, 159, 160, 161, 162, 163, 164, 165, 166, 167, 180, 181, 182, 183, 184, 185, 186, 187, 188, 189, 190, 191, 192, 193, 194, 195, 196, 197, 198, 199, 200, 201, 202, 203] (by decide +kernel) (by decide +kernel)
set_option maxRecDepth 20000 in
theorem gX11_worlds_X11_hasTown : GoodIn wsX11_worlds (wsV RX11 209 RX11 yX11_hasTown wsX11_hasTown) := goodIn_app (goodIn_of _ (by decide +kernel)) ggX11_worlds_X11_hasTown
set_option maxRecDepth 20000 in
theorem ggX11_worlds_X11_counting : GoodIn wsX11_worlds wsX11_counting := goodIn_r _ [18, 2, 19, 20, 21, 22, 155, 156, 157, 158, 159, 160, 161, 162, 163, 164, 165, 166, 167, 180, 181, 182, 183, 184, 185, 186, 187, 188, 189, 190, 191, 192, 204, 205, 206, 207] (by decide +kernel) (by decide +kernel)
set_option maxRecDepth 20000 in
theorem gX11_worlds_X11_counting : GoodIn wsX11_worlds (wsV RX11 174 RX11 yX11_counting wsX11_counting) := goodIn_app (goodIn_of _ (by decide +kernel)) ggX11_worlds_X11_counting
set_option maxRecDepth 20000 in
theorem ggX11_worlds_X10_findFitting : GoodIn wsX11_worlds wsX10_findFitting := goodIn_r _ [27, 28, 29, 30, 31, 32, 33, 34, 35, 36, 37, 38, 39, 40, 41, 42, 43, 44, 45, 46, 47, 48, 49, 50, 51, 52, 53, 54, 26, 55, 56, 57, 58, 59, 60, 61, 62, 11, 63, 64, 65, 66, 67, 68, 69, 70, 71, 72, 73, 74, 75, 76, 77, 78, 79, 80, 81, 82, 83, 84, 85, 86, 87, 88, 89, 90, 91, 92, 93, 94, 95, 96, 97, 98, 99, 100, 101, 102, 103, 104, 105, 106, 107, 108, 109, 110, 111, 112, 113, 114, 115, 116, 117, 118, 119, 120, 121, 122, 123, 124, 125, 126, 127, 128, 129, 130, 131, 132, 133, 134, 135, 136, 137, 138, 139, 140, 141, 142, 143, 144, 145, 146, 147, 148, 149, 150, 151, 152, 153, 154, 180, 181, 182, 183, 184, 185, 186, 187, 188, 189, 190, 191, 192, 193, 194, 195, 196, 197, 198, 199, 200, 201, 202, 203, 168, 169, 170, 171, 172, 173, 174, 175, 176, 177, 178, 179, 204, 205, 206, 207, 208, 209] (by decide +kernel) (by decide +kernel)
set_option maxRecDepth 20000 in
theorem gX11_worlds_X10_findFitting : GoodIn wsX11_worlds (wsV RX11 264 RX10 yX10_findFitting wsX10_findFitting) := goodIn_app (goodIn_of _ (by decide +kernel)) ggX11_worlds_X10_findFitting
theorem dX11_worlds_0 : decode cX11_worlds 0 = .ok (.iload_n 1, 1) := by decide +kernel
theorem dX11_worlds_1 : decode cX11_worlds 1 = .ok (.ifCond .lt 15, 3) := by decide +kernel
theorem dX11_worlds_4 : decode cX11_worlds 4 = .ok (.iload_n 1, 1) := by decide +kernel
theorem dX11_worlds_5 : decode cX11_worlds 5 = .ok (.iconst 4, 1) := by decide +kernel
theorem dX11_worlds_6 : decode cX11_worlds 6 = .ok (.if_icmp .gt 10, 3) := by decide +kernel
theorem dX11_worlds_9 : decode cX11_worlds 9 = .ok (.aload_n 0, 1) := by decide +kernel
theorem dX11_worlds_10 : decode cX11_worlds 10 = .ok (.invokevirtual 209, 3) := by decide +kernel
theorem dX11_worlds_13 : decode cX11_worlds 13 = .ok (.ifCond .ne 5, 3) := by decide +kernel
theorem dX11_worlds_16 : decode cX11_worlds 16 = .ok (.iconst (-1), 1) := by decide +kernel
theorem dX11_worlds_17 : decode cX11_worlds 17 = .ok (.ireturn, 1) := by decide +kernel
theorem dX11_worlds_18 : decode cX11_worlds 18 = .ok (.aload_n 0, 1) := by decide +kernel
theorem dX11_worlds_19 : decode cX11_worlds 19 = .ok (.getfield 70, 3) := by decide +kernel
theorem dX11_worlds_22 : decode cX11_worlds 22 = .ok (.aload_n 0, 1) := by decide +kernel
theorem dX11_worlds_23 : decode cX11_worlds 23 = .ok (.invokevirtual 174, 3) := by decide +kernel
theorem dX11_worlds_26 : decode cX11_worlds 26 = .ok (.aload_n 0, 1) := by decide +kernel
theorem dX11_worlds_27 : decode cX11_worlds 27 = .ok (.getfield 45, 3) := by decide +kernel
theorem dX11_worlds_30 : decode cX11_worlds 30 = .ok (.invokevirtual 264, 3) := by decide +kernel
theorem dX11_worlds_33 : decode cX11_worlds 33 = .ok (.iload_n 1, 1) := by decide +kernel
theorem dX11_worlds_34 : decode cX11_worlds 34 = .ok (.tableswitch 106 0 3 #[30, 38, 61, 84], 30) := by decide +kernel
theorem dX11_worlds_64 : decode cX11_worlds 64 = .ok (.aload_n 0, 1) := by decide +kernel
theorem dX11_worlds_65 : decode cX11_worlds 65 = .ok (.getfield 70, 3) := by decide +kernel
theorem dX11_worlds_68 : decode cX11_worlds 68 = .ok (.getfield 268, 3) := by decide +kernel
theorem dX11_worlds_71 : decode cX11_worlds 71 = .ok (.ireturn, 1) := by decide +kernel
theorem dX11_worlds_72 : decode cX11_worlds 72 = .ok (.aload_n 0, 1) := by decide +kernel
theorem dX11_worlds_73 : decode cX11_worlds 73 = .ok (.getfield 70, 3) := by decide +kernel
theorem dX11_worlds_76 : decode cX11_worlds 76 = .ok (.getfield 268, 3) := by decide +kernel
theorem dX11_worlds_79 : decode cX11_worlds 79 = .ok (.ifCond .ne 8, 3) := by decide +kernel
theorem dX11_worlds_82 : decode cX11_worlds 82 = .ok (.bipush (-2), 2) := by decide +kernel
theorem dX11_worlds_84 : decode cX11_worlds 84 = .ok (.goto 10, 3) := by decide +kernel
theorem dX11_worlds_87 : decode cX11_worlds 87 = .ok (.aload_n 0, 1) := by decide +kernel
theorem dX11_worlds_88 : decode cX11_worlds 88 = .ok (.getfield 70, 3) := by decide +kernel
theorem dX11_worlds_91 : decode cX11_worlds 91 = .ok (.getfield 271, 3) := by decide +kernel
theorem dX11_worlds_94 : decode cX11_worlds 94 = .ok (.ireturn, 1) := by decide +kernel
theorem dX11_worlds_95 : decode cX11_worlds 95 = .ok (.aload_n 0, 1) := by decide +kernel
theorem dX11_worlds_96 : decode cX11_worlds 96 = .ok (.getfield 70, 3) := by decide +kernel
theorem dX11_worlds_99 : decode cX11_worlds 99 = .ok (.getfield 268, 3) := by decide +kernel
theorem dX11_worlds_102 : decode cX11_worlds 102 = .ok (.ifCond .ne 8, 3) := by decide +kernel
theorem dX11_worlds_105 : decode cX11_worlds 105 = .ok (.bipush (-2), 2) := by decide +kernel
theorem dX11_worlds_107 : decode cX11_worlds 107 = .ok (.goto 10, 3) := by decide +kernel
theorem dX11_worlds_110 : decode cX11_worlds 110 = .ok (.aload_n 0, 1) := by decide +kernel
theorem dX11_worlds_111 : decode cX11_worlds 111 = .ok (.getfield 70, 3) := by decide +kernel
theorem dX11_worlds_114 : decode cX11_worlds 114 = .ok (.getfield 274, 3) := by decide +kernel
theorem dX11_worlds_117 : decode cX11_worlds 117 = .ok (.ireturn, 1) := by decide +kernel
theorem dX11_worlds_118 : decode cX11_worlds 118 = .ok (.aload_n 0, 1) := by decide +kernel
theorem dX11_worlds_119 : decode cX11_worlds 119 = .ok (.getfield 70, 3) := by decide +kernel
theorem dX11_worlds_122 : decode cX11_worlds 122 = .ok (.getfield 268, 3) := by decide +kernel
theorem dX11_worlds_125 : decode cX11_worlds 125 = .ok (.ifCond .ne 7, 3) := by decide +kernel
theorem dX11_worlds_128 : decode cX11_worlds 128 = .ok (.iconst 0, 1) := by decide +kernel
theorem dX11_worlds_129 : decode cX11_worlds 129 = .ok (.goto 10, 3) := by decide +kernel
theorem dX11_worlds_132 : decode cX11_worlds 132 = .ok (.aload_n 0, 1) := by decide +kernel
theorem dX11_worlds_133 : decode cX11_worlds 133 = .ok (.getfield 70, 3) := by decide +kernel
theorem dX11_worlds_136 : decode cX11_worlds 136 = .ok (.getfield 277, 3) := by decide +kernel
theorem dX11_worlds_139 : decode cX11_worlds 139 = .ok (.ireturn, 1) := by decide +kernel
theorem dX11_worlds_140 : decode cX11_worlds 140 = .ok (.aload_n 0, 1) := by decide +kernel
theorem dX11_worlds_141 : decode cX11_worlds 141 = .ok (.getfield 70, 3) := by decide +kernel
theorem dX11_worlds_144 : decode cX11_worlds 144 = .ok (.getfield 268, 3) := by decide +kernel
theorem dX11_worlds_147 : decode cX11_worlds 147 = .ok (.ifCond .ne 7, 3) := by decide +kernel
theorem dX11_worlds_150 : decode cX11_worlds 150 = .ok (.iconst 0, 1) := by decide +kernel
theorem dX11_worlds_151 : decode cX11_worlds 151 = .ok (.goto 10, 3) := by decide +kernel
theorem dX11_worlds_154 : decode cX11_worlds 154 = .ok (.aload_n 0, 1) := by decide +kernel
theorem dX11_worlds_155 : decode cX11_worlds 155 = .ok (.getfield 70, 3) := by decide +kernel
theorem dX11_worlds_158 : decode cX11_worlds 158 = .ok (.getfield 280, 3) := by decide +kernel
theorem dX11_worlds_161 : decode cX11_worlds 161 = .ok (.ireturn, 1) := by decide +kernel
set_option maxRecDepth 20000 in
theorem ggX11_ask_X11_hasTown : GoodIn wsX11_ask wsX11_hasTown := goodIn_r _ [13, 2, 4, 14, 190, 191, 192, 193, 194, 195, 196, 197, 198, 199, 200, 201, 202, 215, 216, 217, 218, 219, 220, 221, 222, 223, 224, 225, 226, 227, 232, 233, 234, 235, 236, 237, 238, 239, 240, 241, 242] (by decide +kernel) (by decide +kernel)
set_option maxRecDepth 20000 in
theorem gX11_ask_X11_hasTown : GoodIn wsX11_ask (wsV RX11 209 RX11 yX11_hasTown wsX11_hasTown) := goodIn_app (goodIn_of _ (by decide +kernel)) ggX11_ask_X11_hasTown
set_option maxRecDepth 20000 in
theorem ggX11_ask_X11_counting : GoodIn wsX11_ask wsX11_counting := goodIn_r _ [18, 2, 19, 20, 21, 22, 190, 191, 192, 193, 194, 195, 196, 197, 198, 199, 200, 201, 202, 215, 216, 217, 218, 219, 220, 221, 222, 223, 224, 225, 226, 227, 243, 244, 245, 246] (by decide +kernel) (by decide +kernel)
set_option maxRecDepth 20000 in
theorem gX11_ask_X11_counting : GoodIn wsX11_ask (wsV RX11 174 RX11 yX11_counting wsX11_counting) := goodIn_app (goodIn_of _ (by decide +kernel)) ggX11_ask_X11_counting
set_option maxRecDepth 20000 in
theorem ggX11_ask_X10_findFitting : GoodIn wsX11_ask wsX10_findFitting := goodIn_r _ [27, 28, 29, 30, 31, 32, 33, 34, 35, 36, 37, 38, 39, 40, 41, 42, 43, 44, 45, 46, 47, 48, 49, 50, 51, 52, 53, 54, 26, 55, 56, 57, 58, 59, 60, 61, 62, 12, 63, 64, 65, 66, 67, 68, 69, 70, 71, 72, 73, 74, 75, 76, 77, 78, 79, 80, 81, 82, 83, 84, 85, 86, 87, 88, 89, 90, 91, 92, 93, 94, 95, 96, 97, 98, 99, 100, 101, 102, 103, 104, 105, 106, 107, 108, 109, 110, 111, 112, 113, 114, 115, 116, 117, 118, 119, 120, 121, 122, 123, 124, 125, 126, 127, 128, 129, 130, 131, 132, 133, 134, 135, 136, 137, 138, 139, 140, 141, 142, 143, 144, 145, 146, 147, 148, 149, 150, 151, 152, 153, 154, 215, 216, 217, 218, 219, 220, 221, 222, 223, 224, 225, 226, 227, 232, 233, 234, 235, 236, 237, 238, 239, 240, 241, 242, 203, 204, 205, 206, 207, 208, 209, 210, 211, 212, 213, 214, 243, 244, 245, 246, 247, 248] (by decide +kernel) (by decide +kernel)
set_option maxRecDepth 20000 in
theorem gX11_ask_X10_findFitting : GoodIn wsX11_ask (wsV RX11 264 RX10 yX10_findFitting wsX10_findFitting) := goodIn_app (goodIn_of _ (by decide +kernel)) ggX11_ask_X10_findFitting
set_option maxRecDepth 20000 in
theorem ggX11_ask_X10_findQuestion : GoodIn wsX11_ask wsX10_findQuestion := goodIn_r _ [158, 159, 160, 161, 162, 163, 164, 165, 166, 36, 37, 38, 39, 40, 41, 42, 43, 44, 45, 46, 47, 48, 49, 50, 51, 167, 168, 169, 26, 170, 144, 171, 29, 30, 172, 34, 152, 153, 127, 154, 135, 108, 109, 110, 111, 112, 113, 52, 53, 54, 55, 56, 57, 58, 59, 60, 61, 62, 12, 63, 64, 65, 66, 67, 68, 69, 70, 71, 72, 73, 74, 75, 76, 77, 78, 79, 80, 81, 82, 83, 84, 85, 86, 87, 88, 89, 90, 91, 92, 93, 94, 95, 96, 97, 98, 99, 100, 101, 102, 103, 104, 105, 106, 107, 114, 115, 116, 117, 118, 119, 120, 121, 122, 123, 124, 125, 126, 128, 129, 130, 131, 132, 133, 134, 136, 137, 138, 139, 173, 174, 175, 176, 177, 178, 179, 180, 181, 182, 183, 184, 185, 186, 187, 188, 189, 232, 233, 234, 235, 236, 237, 238, 239, 240, 241, 242, 228, 229, 230, 231, 203, 204, 205, 206, 207, 208, 209, 210, 211, 212, 213, 214, 243, 244, 245, 246, 247, 248] (by decide +kernel) (by decide +kernel)
set_option maxRecDepth 20000 in
theorem gX11_ask_X10_findQuestion : GoodIn wsX11_ask (wsV RX11 283 RX10 yX10_findQuestion wsX10_findQuestion) := goodIn_app (goodIn_of _ (by decide +kernel)) ggX11_ask_X10_findQuestion
theorem dX11_ask_0 : decode cX11_ask 0 = .ok (.iload_n 1, 1) := by decide +kernel
theorem dX11_ask_1 : decode cX11_ask 1 = .ok (.ifCond .lt 15, 3) := by decide +kernel
theorem dX11_ask_4 : decode cX11_ask 4 = .ok (.iload_n 1, 1) := by decide +kernel
theorem dX11_ask_5 : decode cX11_ask 5 = .ok (.iconst 2, 1) := by decide +kernel
theorem dX11_ask_6 : decode cX11_ask 6 = .ok (.if_icmp .gt 10, 3) := by decide +kernel
theorem dX11_ask_9 : decode cX11_ask 9 = .ok (.aload_n 0, 1) := by decide +kernel
theorem dX11_ask_10 : decode cX11_ask 10 = .ok (.invokevirtual 209, 3) := by decide +kernel
theorem dX11_ask_13 : decode cX11_ask 13 = .ok (.ifCond .ne 5, 3) := by decide +kernel
theorem dX11_ask_16 : decode cX11_ask 16 = .ok (.iconst (-1), 1) := by decide +kernel
theorem dX11_ask_17 : decode cX11_ask 17 = .ok (.ireturn, 1) := by decide +kernel
theorem dX11_ask_18 : decode cX11_ask 18 = .ok (.aload_n 0, 1) := by decide +kernel
theorem dX11_ask_19 : decode cX11_ask 19 = .ok (.getfield 70, 3) := by decide +kernel
theorem dX11_ask_22 : decode cX11_ask 22 = .ok (.aload_n 0, 1) := by decide +kernel
theorem dX11_ask_23 : decode cX11_ask 23 = .ok (.invokevirtual 174, 3) := by decide +kernel
theorem dX11_ask_26 : decode cX11_ask 26 = .ok (.aload_n 0, 1) := by decide +kernel
theorem dX11_ask_27 : decode cX11_ask 27 = .ok (.getfield 45, 3) := by decide +kernel
theorem dX11_ask_30 : decode cX11_ask 30 = .ok (.invokevirtual 264, 3) := by decide +kernel
theorem dX11_ask_33 : decode cX11_ask 33 = .ok (.aload_n 0, 1) := by decide +kernel
theorem dX11_ask_34 : decode cX11_ask 34 = .ok (.getfield 70, 3) := by decide +kernel
theorem dX11_ask_37 : decode cX11_ask 37 = .ok (.getfield 268, 3) := by decide +kernel
theorem dX11_ask_40 : decode cX11_ask 40 = .ok (.ifCond .ne 6, 3) := by decide +kernel
theorem dX11_ask_43 : decode cX11_ask 43 = .ok (.bipush (-2), 2) := by decide +kernel
theorem dX11_ask_45 : decode cX11_ask 45 = .ok (.ireturn, 1) := by decide +kernel
theorem dX11_ask_46 : decode cX11_ask 46 = .ok (.aload_n 0, 1) := by decide +kernel
theorem dX11_ask_47 : decode cX11_ask 47 = .ok (.getfield 70, 3) := by decide +kernel
theorem dX11_ask_50 : decode cX11_ask 50 = .ok (.aload_n 0, 1) := by decide +kernel
theorem dX11_ask_51 : decode cX11_ask 51 = .ok (.invokevirtual 174, 3) := by decide +kernel
theorem dX11_ask_54 : decode cX11_ask 54 = .ok (.aload_n 0, 1) := by decide +kernel
theorem dX11_ask_55 : decode cX11_ask 55 = .ok (.getfield 45, 3) := by decide +kernel
theorem dX11_ask_58 : decode cX11_ask 58 = .ok (.getfield 116, 3) := by decide +kernel
theorem dX11_ask_61 : decode cX11_ask 61 = .ok (.aload_n 0, 1) := by decide +kernel
theorem dX11_ask_62 : decode cX11_ask 62 = .ok (.getfield 91, 3) := by decide +kernel
theorem dX11_ask_65 : decode cX11_ask 65 = .ok (.invokevirtual 283, 3) := by decide +kernel
theorem dX11_ask_68 : decode cX11_ask 68 = .ok (.iload_n 1, 1) := by decide +kernel
theorem dX11_ask_69 : decode cX11_ask 69 = .ok (.lookupswitch 43 #[(0, 27), (1, 35)], 27) := by decide +kernel
theorem dX11_ask_96 : decode cX11_ask 96 = .ok (.aload_n 0, 1) := by decide +kernel
theorem dX11_ask_97 : decode cX11_ask 97 = .ok (.getfield 91, 3) := by decide +kernel
theorem dX11_ask_100 : decode cX11_ask 100 = .ok (.getfield 222, 3) := by decide +kernel
theorem dX11_ask_103 : decode cX11_ask 103 = .ok (.ireturn, 1) := by decide +kernel
theorem dX11_ask_104 : decode cX11_ask 104 = .ok (.aload_n 0, 1) := by decide +kernel
theorem dX11_ask_105 : decode cX11_ask 105 = .ok (.getfield 91, 3) := by decide +kernel
theorem dX11_ask_108 : decode cX11_ask 108 = .ok (.getfield 225, 3) := by decide +kernel
theorem dX11_ask_111 : decode cX11_ask 111 = .ok (.ireturn, 1) := by decide +kernel
theorem dX11_ask_112 : decode cX11_ask 112 = .ok (.aload_n 0, 1) := by decide +kernel
theorem dX11_ask_113 : decode cX11_ask 113 = .ok (.getfield 91, 3) := by decide +kernel
theorem dX11_ask_116 : decode cX11_ask 116 = .ok (.getfield 287, 3) := by decide +kernel
theorem dX11_ask_119 : decode cX11_ask 119 = .ok (.ineg, 1) := by decide +kernel
theorem dX11_ask_120 : decode cX11_ask 120 = .ok (.ireturn, 1) := by decide +kernel
set_option maxRecDepth 20000 in
theorem ggX11_gates_X11_hasTown : GoodIn wsX11_gates wsX11_hasTown := goodIn_r _ [8, 1, 2, 9, 10, 11, 12, 13, 14, 15, 16, 17, 18, 19, 20, 21, 22, 23, 24, 25, 26, 27, 28, 29, 30, 31, 32, 33, 34, 35, 36, 37, 38, 39, 40, 41, 42, 43, 44, 45, 46] (by decide +kernel) (by decide +kernel)
set_option maxRecDepth 20000 in
theorem gX11_gates_X11_hasTown : GoodIn wsX11_gates (wsV RX11 209 RX11 yX11_hasTown wsX11_hasTown) := goodIn_app (goodIn_of _ (by decide +kernel)) ggX11_gates_X11_hasTown
theorem dX11_gates_0 : decode cX11_gates 0 = .ok (.iload_n 1, 1) := by decide +kernel
theorem dX11_gates_1 : decode cX11_gates 1 = .ok (.ifCond .lt 15, 3) := by decide +kernel
theorem dX11_gates_4 : decode cX11_gates 4 = .ok (.iload_n 1, 1) := by decide +kernel
theorem dX11_gates_5 : decode cX11_gates 5 = .ok (.iconst 1, 1) := by decide +kernel
theorem dX11_gates_6 : decode cX11_gates 6 = .ok (.if_icmp .gt 10, 3) := by decide +kernel
theorem dX11_gates_9 : decode cX11_gates 9 = .ok (.aload_n 0, 1) := by decide +kernel
theorem dX11_gates_10 : decode cX11_gates 10 = .ok (.invokevirtual 209, 3) := by decide +kernel
theorem dX11_gates_13 : decode cX11_gates 13 = .ok (.ifCond .ne 5, 3) := by decide +kernel
theorem dX11_gates_16 : decode cX11_gates 16 = .ok (.iconst (-1), 1) := by decide +kernel
theorem dX11_gates_17 : decode cX11_gates 17 = .ok (.ireturn, 1) := by decide +kernel
theorem dX11_gates_18 : decode cX11_gates 18 = .ok (.aload_n 0, 1) := by decide +kernel
theorem dX11_gates_19 : decode cX11_gates 19 = .ok (.getfield 45, 3) := by decide +kernel
theorem dX11_gates_22 : decode cX11_gates 22 = .ok (.getfield 116, 3) := by decide +kernel
theorem dX11_gates_25 : decode cX11_gates 25 = .ok (.getfield 117, 3) := by decide +kernel
theorem dX11_gates_28 : decode cX11_gates 28 = .ok (.bipush 8, 2) := by decide +kernel
theorem dX11_gates_30 : decode cX11_gates 30 = .ok (.if_icmp .le 6, 3) := by decide +kernel
theorem dX11_gates_33 : decode cX11_gates 33 = .ok (.bipush (-3), 2) := by decide +kernel
theorem dX11_gates_35 : decode cX11_gates 35 = .ok (.ireturn, 1) := by decide +kernel
theorem dX11_gates_36 : decode cX11_gates 36 = .ok (.aload_n 0, 1) := by decide +kernel
theorem dX11_gates_37 : decode cX11_gates 37 = .ok (.getfield 45, 3) := by decide +kernel
theorem dX11_gates_40 : decode cX11_gates 40 = .ok (.getfield 116, 3) := by decide +kernel
theorem dX11_gates_43 : decode cX11_gates 43 = .ok (.getfield 117, 3) := by decide +kernel
theorem dX11_gates_46 : decode cX11_gates 46 = .ok (.ifCond .ne 7, 3) := by decide +kernel
theorem dX11_gates_49 : decode cX11_gates 49 = .ok (.iconst 0, 1) := by decide +kernel
theorem dX11_gates_50 : decode cX11_gates 50 = .ok (.goto 5, 3) := by decide +kernel
theorem dX11_gates_53 : decode cX11_gates 53 = .ok (.bipush (-2), 2) := by decide +kernel
theorem dX11_gates_55 : decode cX11_gates 55 = .ok (.ireturn, 1) := by decide +kernel
set_option maxRecDepth 20000 in
theorem ggX11_cheat_X8_isPerson : GoodIn wsX11_cheat wsX8_isPerson := goodIn_r _ [13, 14, 197, 198, 199, 200, 201, 202, 203, 204, 205, 206, 207] (by decide +kernel) (by decide +kernel)
set_option maxRecDepth 20000 in
theorem gX11_cheat_X8_isPerson : GoodIn wsX11_cheat (wsV RX11 130 RX8 yX8_isPerson wsX8_isPerson) := goodIn_app (goodIn_of _ (by decide +kernel)) ggX11_cheat_X8_isPerson
set_option maxRecDepth 20000 in
theorem ggX11_cheat_X8_copyFrom : GoodIn wsX11_cheat wsX8_copyFrom := goodIn_r _ [18, 19, 20, 14, 21, 22, 23, 24, 25, 26, 27, 28, 29, 30, 31, 32, 197, 198, 199, 200, 201, 202, 203, 204, 205, 206, 207] (by decide +kernel) (by decide +kernel)
set_option maxRecDepth 20000 in
theorem gX11_cheat_X8_copyFrom : GoodIn wsX11_cheat (wsV RX11 290 RX8 yX8_copyFrom wsX8_copyFrom) := goodIn_app (goodIn_of _ (by decide +kernel)) ggX11_cheat_X8_copyFrom
set_option maxRecDepth 20000 in
theorem ggX11_cheat_X11_counting : GoodIn wsX11_cheat wsX11_counting := goodIn_r _ [37, 1, 38, 39, 40, 41, 167, 168, 169, 170, 171, 172, 173, 174, 175, 176, 177, 178, 179, 180, 181, 182, 183, 184, 185, 186, 187, 188, 189, 190, 191, 192, 208, 209, 210, 211] (by decide +kernel) (by decide +kernel)
set_option maxRecDepth 20000 in
theorem gX11_cheat_X11_counting : GoodIn wsX11_cheat (wsV RX11 174 RX11 yX11_counting wsX11_counting) := goodIn_app (goodIn_of _ (by decide +kernel)) ggX11_cheat_X11_counting
set_option maxRecDepth 20000 in
theorem ggX11_cheat_X5_findCheat : GoodIn wsX11_cheat wsX5_findCheat := goodIn_r _ [46, 47, 48, 49, 50, 51, 45, 52, 53, 54, 55, 56, 57, 58, 59, 60, 61, 62, 63, 64, 12, 65, 32, 66, 67, 68, 69, 19, 70, 71, 72, 73, 20, 74, 36, 75, 76, 77, 78, 79, 80, 81, 82, 83, 84, 85, 86, 87, 88, 89, 90, 31, 91, 10, 11, 13, 14, 92, 93, 94, 95, 26, 96, 97, 98, 99, 23, 24, 22, 100, 101, 102, 103, 104, 105, 106, 107, 108, 109, 110, 111, 112, 113, 114, 115, 116, 117, 118, 119, 120, 121, 122, 123, 124, 125, 126, 127, 128, 129, 130, 131, 132, 133, 134, 135, 136, 137, 138, 139, 140, 141, 142, 143, 144, 145, 146, 147, 148, 149, 150, 151, 152, 153, 154, 155, 156, 157, 158, 159, 160, 161, 162, 163, 164, 165, 166, 197, 198, 199, 200, 201, 202, 203, 204, 205, 206, 207, 208, 209, 210, 211, 212, 213, 193, 194, 195, 196] (by decide +kernel) (by decide +kernel)
set_option maxRecDepth 20000 in
theorem gX11_cheat_X5_findCheat : GoodIn wsX11_cheat (wsV RX11 293 RX5 yX5_findCheat wsX5_findCheat) := goodIn_app (goodIn_of _ (by decide +kernel)) ggX11_cheat_X5_findCheat
theorem dX11_cheat_0 : decode cX11_cheat 0 = .ok (.aload_n 0, 1) := by decide +kernel
theorem dX11_cheat_1 : decode cX11_cheat 1 = .ok (.getfield 45, 3) := by decide +kernel
theorem dX11_cheat_4 : decode cX11_cheat 4 = .ok (.getfield 116, 3) := by decide +kernel
theorem dX11_cheat_7 : decode cX11_cheat 7 = .ok (.iload_n 1, 1) := by decide +kernel
theorem dX11_cheat_8 : decode cX11_cheat 8 = .ok (.invokevirtual 130, 3) := by decide +kernel
theorem dX11_cheat_11 : decode cX11_cheat 11 = .ok (.ifCond .eq 12, 3) := by decide +kernel
theorem dX11_cheat_14 : decode cX11_cheat 14 = .ok (.iload_n 2, 1) := by decide +kernel
theorem dX11_cheat_15 : decode cX11_cheat 15 = .ok (.ifCond .lt 8, 3) := by decide +kernel
theorem dX11_cheat_18 : decode cX11_cheat 18 = .ok (.iload_n 2, 1) := by decide +kernel
theorem dX11_cheat_19 : decode cX11_cheat 19 = .ok (.iconst 2, 1) := by decide +kernel
theorem dX11_cheat_20 : decode cX11_cheat 20 = .ok (.if_icmp .le 6, 3) := by decide +kernel
theorem dX11_cheat_23 : decode cX11_cheat 23 = .ok (.ldc 194, 2) := by decide +kernel
theorem dX11_cheat_25 : decode cX11_cheat 25 = .ok (.ireturn, 1) := by decide +kernel
theorem dX11_cheat_26 : decode cX11_cheat 26 = .ok (.aload_n 0, 1) := by decide +kernel
theorem dX11_cheat_27 : decode cX11_cheat 27 = .ok (.getfield 56, 3) := by decide +kernel
theorem dX11_cheat_30 : decode cX11_cheat 30 = .ok (.aload_n 0, 1) := by decide +kernel
theorem dX11_cheat_31 : decode cX11_cheat 31 = .ok (.getfield 45, 3) := by decide +kernel
theorem dX11_cheat_34 : decode cX11_cheat 34 = .ok (.getfield 116, 3) := by decide +kernel
theorem dX11_cheat_37 : decode cX11_cheat 37 = .ok (.invokevirtual 290, 3) := by decide +kernel
theorem dX11_cheat_40 : decode cX11_cheat 40 = .ok (.aload_n 0, 1) := by decide +kernel
theorem dX11_cheat_41 : decode cX11_cheat 41 = .ok (.invokevirtual 174, 3) := by decide +kernel
theorem dX11_cheat_44 : decode cX11_cheat 44 = .ok (.aload_n 0, 1) := by decide +kernel
theorem dX11_cheat_45 : decode cX11_cheat 45 = .ok (.getfield 56, 3) := by decide +kernel
theorem dX11_cheat_48 : decode cX11_cheat 48 = .ok (.iload_n 1, 1) := by decide +kernel
theorem dX11_cheat_49 : decode cX11_cheat 49 = .ok (.aload_n 0, 1) := by decide +kernel
theorem dX11_cheat_50 : decode cX11_cheat 50 = .ok (.getfield 91, 3) := by decide +kernel
theorem dX11_cheat_53 : decode cX11_cheat 53 = .ok (.invokevirtual 293, 3) := by decide +kernel
theorem dX11_cheat_56 : decode cX11_cheat 56 = .ok (.iload_n 2, 1) := by decide +kernel
theorem dX11_cheat_57 : decode cX11_cheat 57 = .ok (.lookupswitch 43 #[(0, 27), (1, 35)], 27) := by decide +kernel
theorem dX11_cheat_84 : decode cX11_cheat 84 = .ok (.aload_n 0, 1) := by decide +kernel
theorem dX11_cheat_85 : decode cX11_cheat 85 = .ok (.getfield 91, 3) := by decide +kernel
theorem dX11_cheat_88 : decode cX11_cheat 88 = .ok (.getfield 287, 3) := by decide +kernel
theorem dX11_cheat_91 : decode cX11_cheat 91 = .ok (.ireturn, 1) := by decide +kernel
theorem dX11_cheat_92 : decode cX11_cheat 92 = .ok (.aload_n 0, 1) := by decide +kernel
theorem dX11_cheat_93 : decode cX11_cheat 93 = .ok (.getfield 91, 3) := by decide +kernel
theorem dX11_cheat_96 : decode cX11_cheat 96 = .ok (.getfield 225, 3) := by decide +kernel
theorem dX11_cheat_99 : decode cX11_cheat 99 = .ok (.ireturn, 1) := by decide +kernel
theorem dX11_cheat_100 : decode cX11_cheat 100 = .ok (.aload_n 0, 1) := by decide +kernel
theorem dX11_cheat_101 : decode cX11_cheat 101 = .ok (.getfield 91, 3) := by decide +kernel
theorem dX11_cheat_104 : decode cX11_cheat 104 = .ok (.getfield 222, 3) := by decide +kernel
theorem dX11_cheat_107 : decode cX11_cheat 107 = .ok (.ireturn, 1) := by decide +kernel
set_option maxRecDepth 20000 in
theorem ggX11_odd_X11_hasTown : GoodIn wsX11_odd wsX11_hasTown := goodIn_r _ [11, 2, 3, 12, 154, 155, 156, 157, 158, 159, 160, 161, 162, 163, 164, 165, 166, 167, 168, 169, 170, 171, 172, 173, 174, 175, 176, 177, 178, 179, 180, 181, 182, 183, 184, 185, 186, 187, 188, 189, 190] (by decide +kernel) (by decide +kernel)
set_option maxRecDepth 20000 in
theorem gX11_odd_X11_hasTown : GoodIn wsX11_odd (wsV RX11 209 RX11 yX11_hasTown wsX11_hasTown) := goodIn_app (goodIn_of _ (by decide +kernel)) ggX11_odd_X11_hasTown
set_option maxRecDepth 20000 in
theorem ggX11_odd_X8_copyFrom : GoodIn wsX11_odd wsX8_copyFrom := goodIn_r _ [17, 18, 19, 20, 21, 22, 23, 24, 25, 26, 27, 28, 29, 30, 31, 32, 180, 181, 182, 183, 184, 185, 186, 187, 188, 189, 190] (by decide +kernel) (by decide +kernel)
set_option maxRecDepth 20000 in
theorem gX11_odd_X8_copyFrom : GoodIn wsX11_odd (wsV RX11 290 RX8 yX8_copyFrom wsX8_copyFrom) := goodIn_app (goodIn_of _ (by decide +kernel)) ggX11_odd_X8_copyFrom
set_option maxRecDepth 20000 in
theorem ggX11_odd_X11_counting : GoodIn wsX11_odd wsX11_counting := goodIn_r _ [36, 2, 37, 38, 39, 40, 154, 155, 156, 157, 158, 159, 160, 161, 162, 163, 164, 165, 166, 167, 168, 169, 170, 171, 172, 173, 174, 175, 176, 177, 178, 179, 191, 192, 193, 194] (by decide +kernel) (by decide +kernel)
set_option maxRecDepth 20000 in
theorem gX11_odd_X11_counting : GoodIn wsX11_odd (wsV RX11 174 RX11 yX11_counting wsX11_counting) := goodIn_app (goodIn_of _ (by decide +kernel)) ggX11_odd_X11_counting
set_option maxRecDepth 20000 in
theorem ggX11_odd_X2_learn : GoodIn wsX11_odd wsX2_learn := goodIn_r _ [45, 46, 47, 48, 49, 50, 51, 52, 53, 54, 55, 56, 44, 57, 58, 59, 60, 61, 62, 63, 64, 65, 66, 67, 68, 69, 70, 16, 71, 72, 73, 74, 75, 31, 76, 77, 78, 79, 20, 80, 81, 82, 83, 19, 84, 85, 86, 87, 88, 32, 89, 90, 91, 92, 18, 93, 94, 95, 96, 97, 98, 99, 100, 101, 102, 103, 104, 105, 106, 107, 108, 109, 110, 111, 112, 113, 114, 115, 116, 117, 118, 26, 119, 120, 121, 122, 23, 24, 22, 123, 124, 125, 126, 127, 128, 129, 130, 131, 132, 133, 134, 135, 136, 137, 138, 139, 140, 141, 142, 143, 195, 196, 197, 180, 181, 182, 183, 184, 185, 186, 187, 188, 189, 190, 191, 192, 193, 194, 198, 199] (by decide +kernel) (by decide +kernel)
set_option maxRecDepth 20000 in
theorem gX11_odd_X2_learn : GoodIn wsX11_odd (wsV RX11 297 RX2 yX2_learn wsX2_learn) := goodIn_app (goodIn_of _ (by decide +kernel)) ggX11_odd_X2_learn
set_option maxRecDepth 20000 in
theorem ggX11_odd_X2_fewestTurned : GoodIn wsX11_odd wsX2_fewestTurned := goodIn_r _ [147, 148, 94, 95, 96, 97, 98, 99, 149, 150, 151, 44, 152, 46, 47, 48, 195, 196, 197] (by decide +kernel) (by decide +kernel)
set_option maxRecDepth 20000 in
theorem gX11_odd_X2_fewestTurned : GoodIn wsX11_odd (wsV RX11 301 RX2 yX2_fewestTurned wsX2_fewestTurned) := goodIn_app (goodIn_of _ (by decide +kernel)) ggX11_odd_X2_fewestTurned
set_option maxRecDepth 20000 in
theorem ggX11_odd_J6_bitCount_0f7a4 : GoodIn wsX11_odd wsJ6_bitCount_0f7a4 := goodIn_r _ [96, 97, 98, 99] (by decide +kernel) (by decide +kernel)
set_option maxRecDepth 20000 in
theorem gX11_odd_J6_bitCount_0f7a4 : GoodIn wsX11_odd (va_wsS RX11 169 yJ6_bitCount_0f7a4 wsJ6_bitCount_0f7a4) := goodIn_app (goodIn_of _ (by decide +kernel)) ggX11_odd_J6_bitCount_0f7a4
theorem dX11_odd_0 : decode cX11_odd 0 = .ok (.iload_n 1, 1) := by decide +kernel
theorem dX11_odd_1 : decode cX11_odd 1 = .ok (.ifCond .lt 15, 3) := by decide +kernel
theorem dX11_odd_4 : decode cX11_odd 4 = .ok (.iload_n 1, 1) := by decide +kernel
theorem dX11_odd_5 : decode cX11_odd 5 = .ok (.iconst 1, 1) := by decide +kernel
theorem dX11_odd_6 : decode cX11_odd 6 = .ok (.if_icmp .gt 10, 3) := by decide +kernel
theorem dX11_odd_9 : decode cX11_odd 9 = .ok (.aload_n 0, 1) := by decide +kernel
theorem dX11_odd_10 : decode cX11_odd 10 = .ok (.invokevirtual 209, 3) := by decide +kernel
theorem dX11_odd_13 : decode cX11_odd 13 = .ok (.ifCond .ne 5, 3) := by decide +kernel
theorem dX11_odd_16 : decode cX11_odd 16 = .ok (.iconst (-1), 1) := by decide +kernel
theorem dX11_odd_17 : decode cX11_odd 17 = .ok (.ireturn, 1) := by decide +kernel
theorem dX11_odd_18 : decode cX11_odd 18 = .ok (.aload_n 0, 1) := by decide +kernel
theorem dX11_odd_19 : decode cX11_odd 19 = .ok (.getfield 56, 3) := by decide +kernel
theorem dX11_odd_22 : decode cX11_odd 22 = .ok (.aload_n 0, 1) := by decide +kernel
theorem dX11_odd_23 : decode cX11_odd 23 = .ok (.getfield 45, 3) := by decide +kernel
theorem dX11_odd_26 : decode cX11_odd 26 = .ok (.getfield 116, 3) := by decide +kernel
theorem dX11_odd_29 : decode cX11_odd 29 = .ok (.invokevirtual 290, 3) := by decide +kernel
theorem dX11_odd_32 : decode cX11_odd 32 = .ok (.aload_n 0, 1) := by decide +kernel
theorem dX11_odd_33 : decode cX11_odd 33 = .ok (.getfield 77, 3) := by decide +kernel
theorem dX11_odd_36 : decode cX11_odd 36 = .ok (.aload_n 0, 1) := by decide +kernel
theorem dX11_odd_37 : decode cX11_odd 37 = .ok (.invokevirtual 174, 3) := by decide +kernel
theorem dX11_odd_40 : decode cX11_odd 40 = .ok (.aload_n 0, 1) := by decide +kernel
theorem dX11_odd_41 : decode cX11_odd 41 = .ok (.getfield 56, 3) := by decide +kernel
theorem dX11_odd_44 : decode cX11_odd 44 = .ok (.invokevirtual 297, 3) := by decide +kernel
theorem dX11_odd_47 : decode cX11_odd 47 = .ok (.aload_n 0, 1) := by decide +kernel
theorem dX11_odd_48 : decode cX11_odd 48 = .ok (.getfield 77, 3) := by decide +kernel
theorem dX11_odd_51 : decode cX11_odd 51 = .ok (.aload_n 0, 1) := by decide +kernel
theorem dX11_odd_52 : decode cX11_odd 52 = .ok (.getfield 45, 3) := by decide +kernel
theorem dX11_odd_55 : decode cX11_odd 55 = .ok (.getfield 116, 3) := by decide +kernel
theorem dX11_odd_58 : decode cX11_odd 58 = .ok (.getfield 117, 3) := by decide +kernel
theorem dX11_odd_61 : decode cX11_odd 61 = .ok (.aload_n 0, 1) := by decide +kernel
theorem dX11_odd_62 : decode cX11_odd 62 = .ok (.getfield 45, 3) := by decide +kernel
theorem dX11_odd_65 : decode cX11_odd 65 = .ok (.getfield 116, 3) := by decide +kernel
theorem dX11_odd_68 : decode cX11_odd 68 = .ok (.getfield 144, 3) := by decide +kernel
theorem dX11_odd_71 : decode cX11_odd 71 = .ok (.invokevirtual 301, 3) := by decide +kernel
theorem dX11_odd_74 : decode cX11_odd 74 = .ok (.istore_n 2, 1) := by decide +kernel
theorem dX11_odd_75 : decode cX11_odd 75 = .ok (.iload_n 2, 1) := by decide +kernel
theorem dX11_odd_76 : decode cX11_odd 76 = .ok (.iconst (-1), 1) := by decide +kernel
theorem dX11_odd_77 : decode cX11_odd 77 = .ok (.if_icmp .ne 6, 3) := by decide +kernel
theorem dX11_odd_80 : decode cX11_odd 80 = .ok (.bipush (-2), 2) := by decide +kernel
theorem dX11_odd_82 : decode cX11_odd 82 = .ok (.ireturn, 1) := by decide +kernel
theorem dX11_odd_83 : decode cX11_odd 83 = .ok (.iload_n 1, 1) := by decide +kernel
theorem dX11_odd_84 : decode cX11_odd 84 = .ok (.ifCond .ne 10, 3) := by decide +kernel
theorem dX11_odd_87 : decode cX11_odd 87 = .ok (.iload_n 2, 1) := by decide +kernel
theorem dX11_odd_88 : decode cX11_odd 88 = .ok (.invokestatic 169, 3) := by decide +kernel
theorem dX11_odd_91 : decode cX11_odd 91 = .ok (.goto 4, 3) := by decide +kernel
theorem dX11_odd_94 : decode cX11_odd 94 = .ok (.iload_n 2, 1) := by decide +kernel
theorem dX11_odd_95 : decode cX11_odd 95 = .ok (.ireturn, 1) := by decide +kernel
set_option maxRecDepth 20000 in
theorem ggX11_palms_X8_isPerson : GoodIn wsX11_palms wsX8_isPerson := goodIn_r _ [8, 9, 36, 37, 38, 39, 40, 41, 42, 43, 44, 45, 46] (by decide +kernel) (by decide +kernel)
set_option maxRecDepth 20000 in
theorem gX11_palms_X8_isPerson : GoodIn wsX11_palms (wsV RX11 130 RX8 yX8_isPerson wsX8_isPerson) := goodIn_app (goodIn_of _ (by decide +kernel)) ggX11_palms_X8_isPerson
theorem dX11_palms_0 : decode cX11_palms 0 = .ok (.aload_n 0, 1) := by decide +kernel
theorem dX11_palms_1 : decode cX11_palms 1 = .ok (.getfield 45, 3) := by decide +kernel
theorem dX11_palms_4 : decode cX11_palms 4 = .ok (.getfield 116, 3) := by decide +kernel
theorem dX11_palms_7 : decode cX11_palms 7 = .ok (.iload_n 1, 1) := by decide +kernel
theorem dX11_palms_8 : decode cX11_palms 8 = .ok (.invokevirtual 130, 3) := by decide +kernel
theorem dX11_palms_11 : decode cX11_palms 11 = .ok (.ifCond .eq 14, 3) := by decide +kernel
theorem dX11_palms_14 : decode cX11_palms 14 = .ok (.iload_n 2, 1) := by decide +kernel
theorem dX11_palms_15 : decode cX11_palms 15 = .ok (.iconst (-1), 1) := by decide +kernel
theorem dX11_palms_16 : decode cX11_palms 16 = .ok (.if_icmp .lt 9, 3) := by decide +kernel
theorem dX11_palms_19 : decode cX11_palms 19 = .ok (.iload_n 2, 1) := by decide +kernel
theorem dX11_palms_20 : decode cX11_palms 20 = .ok (.bipush 9, 2) := by decide +kernel
theorem dX11_palms_22 : decode cX11_palms 22 = .ok (.if_icmp .le 5, 3) := by decide +kernel
theorem dX11_palms_25 : decode cX11_palms 25 = .ok (.iconst 0, 1) := by decide +kernel
theorem dX11_palms_26 : decode cX11_palms 26 = .ok (.ireturn, 1) := by decide +kernel
theorem dX11_palms_27 : decode cX11_palms 27 = .ok (.aload_n 0, 1) := by decide +kernel
theorem dX11_palms_28 : decode cX11_palms 28 = .ok (.getfield 45, 3) := by decide +kernel
theorem dX11_palms_31 : decode cX11_palms 31 = .ok (.getfield 304, 3) := by decide +kernel
theorem dX11_palms_34 : decode cX11_palms 34 = .ok (.iload_n 1, 1) := by decide +kernel
theorem dX11_palms_35 : decode cX11_palms 35 = .ok (.iload_n 2, 1) := by decide +kernel
theorem dX11_palms_36 : decode cX11_palms 36 = .ok (.iastore, 1) := by decide +kernel
theorem dX11_palms_37 : decode cX11_palms 37 = .ok (.iconst 1, 1) := by decide +kernel
theorem dX11_palms_38 : decode cX11_palms 38 = .ok (.ireturn, 1) := by decide +kernel
set_option maxRecDepth 20000 in
theorem ggX11_shuns_X11_hasTown : GoodIn wsX11_shuns wsX11_hasTown := goodIn_r _ [8, 1, 2, 9, 80, 81, 82, 83, 84, 85, 86, 87, 88, 89, 90, 91, 92, 93, 94, 95, 96, 97, 98, 99, 100, 101, 102, 103, 104, 105, 106, 107, 108, 109, 110, 111, 112, 113, 114, 115, 116] (by decide +kernel) (by decide +kernel)
set_option maxRecDepth 20000 in
theorem gX11_shuns_X11_hasTown : GoodIn wsX11_shuns (wsV RX11 209 RX11 yX11_hasTown wsX11_hasTown) := goodIn_app (goodIn_of _ (by decide +kernel)) ggX11_shuns_X11_hasTown
set_option maxRecDepth 20000 in
theorem ggX11_shuns_X8_meetingTwos : GoodIn wsX11_shuns wsX8_meetingTwos := goodIn_r _ [14, 15, 16, 17, 18, 13, 19, 20, 21, 22, 23, 24, 25, 26, 27, 28, 29, 30, 31, 32, 33, 34, 35, 36, 37, 38, 39, 40, 41, 42, 43, 44, 45, 46, 47, 48, 49, 50, 106, 107, 108, 109, 110, 111, 112, 113, 114, 115, 116] (by decide +kernel) (by decide +kernel)
set_option maxRecDepth 20000 in
theorem gX11_shuns_X8_meetingTwos : GoodIn wsX11_shuns (wsV RX11 307 RX8 yX8_meetingTwos wsX8_meetingTwos) := goodIn_app (goodIn_of _ (by decide +kernel)) ggX11_shuns_X8_meetingTwos
set_option maxRecDepth 20000 in
theorem ggX11_shuns_X6_learn : GoodIn wsX11_shuns wsX6_learn := goodIn_r _ [55, 56, 57, 58, 59, 60, 61, 62, 63, 64, 65, 27, 28, 13, 29, 15, 66, 17, 18, 19, 20, 21, 22, 23, 24, 25, 26, 30, 31, 32, 33, 34, 35, 36, 37, 38, 39, 40, 41, 42, 43, 67, 45, 46, 47, 48, 49, 50, 93, 94, 95, 96, 97, 98, 99, 100, 101, 102, 103, 104, 105, 117, 118, 119, 120, 121, 122, 106, 107, 108, 109, 110, 111, 112, 113, 114, 115, 116] (by decide +kernel) (by decide +kernel)
set_option maxRecDepth 20000 in
theorem gX11_shuns_X6_learn : GoodIn wsX11_shuns (wsV RX11 311 RX6 yX6_learn wsX6_learn) := goodIn_app (goodIn_of _ (by decide +kernel)) ggX11_shuns_X6_learn
set_option maxRecDepth 20000 in
theorem ggX11_shuns_X6_waysWith : GoodIn wsX11_shuns wsX6_waysWith := goodIn_r _ [71, 72, 73, 74, 54, 75, 60, 58, 61, 76, 77, 78, 79, 57, 63, 64, 117, 118, 119, 120, 121, 122] (by decide +kernel) (by decide +kernel)
set_option maxRecDepth 20000 in
theorem gX11_shuns_X6_waysWith : GoodIn wsX11_shuns (wsV RX11 314 RX6 yX6_waysWith wsX6_waysWith) := goodIn_app (goodIn_of _ (by decide +kernel)) ggX11_shuns_X6_waysWith
theorem dX11_shuns_0 : decode cX11_shuns 0 = .ok (.aload_n 0, 1) := by decide +kernel
theorem dX11_shuns_1 : decode cX11_shuns 1 = .ok (.invokevirtual 209, 3) := by decide +kernel
theorem dX11_shuns_4 : decode cX11_shuns 4 = .ok (.ifCond .ne 5, 3) := by decide +kernel
theorem dX11_shuns_7 : decode cX11_shuns 7 = .ok (.iconst (-1), 1) := by decide +kernel
theorem dX11_shuns_8 : decode cX11_shuns 8 = .ok (.ireturn, 1) := by decide +kernel
theorem dX11_shuns_9 : decode cX11_shuns 9 = .ok (.aload_n 0, 1) := by decide +kernel
theorem dX11_shuns_10 : decode cX11_shuns 10 = .ok (.getfield 45, 3) := by decide +kernel
theorem dX11_shuns_13 : decode cX11_shuns 13 = .ok (.getfield 116, 3) := by decide +kernel
theorem dX11_shuns_16 : decode cX11_shuns 16 = .ok (.invokevirtual 307, 3) := by decide +kernel
theorem dX11_shuns_19 : decode cX11_shuns 19 = .ok (.bipush 16, 2) := by decide +kernel
theorem dX11_shuns_21 : decode cX11_shuns 21 = .ok (.if_icmp .le 6, 3) := by decide +kernel
theorem dX11_shuns_24 : decode cX11_shuns 24 = .ok (.bipush (-3), 2) := by decide +kernel
theorem dX11_shuns_26 : decode cX11_shuns 26 = .ok (.ireturn, 1) := by decide +kernel
theorem dX11_shuns_27 : decode cX11_shuns 27 = .ok (.aload_n 0, 1) := by decide +kernel
theorem dX11_shuns_28 : decode cX11_shuns 28 = .ok (.getfield 84, 3) := by decide +kernel
theorem dX11_shuns_31 : decode cX11_shuns 31 = .ok (.aload_n 0, 1) := by decide +kernel
theorem dX11_shuns_32 : decode cX11_shuns 32 = .ok (.getfield 45, 3) := by decide +kernel
theorem dX11_shuns_35 : decode cX11_shuns 35 = .ok (.invokevirtual 311, 3) := by decide +kernel
theorem dX11_shuns_38 : decode cX11_shuns 38 = .ok (.aload_n 0, 1) := by decide +kernel
theorem dX11_shuns_39 : decode cX11_shuns 39 = .ok (.getfield 84, 3) := by decide +kernel
theorem dX11_shuns_42 : decode cX11_shuns 42 = .ok (.iconst (-1), 1) := by decide +kernel
theorem dX11_shuns_43 : decode cX11_shuns 43 = .ok (.invokevirtual 314, 3) := by decide +kernel
theorem dX11_shuns_46 : decode cX11_shuns 46 = .ok (.ireturn, 1) := by decide +kernel
set_option maxRecDepth 20000 in
theorem ggX11_shook_X8_isPerson : GoodIn wsX11_shook wsX8_isPerson := goodIn_r _ [15, 16, 113, 114, 115, 116, 117, 118, 119, 120, 121, 122, 123] (by decide +kernel) (by decide +kernel)
set_option maxRecDepth 20000 in
theorem gX11_shook_X8_isPerson : GoodIn wsX11_shook (wsV RX11 130 RX8 yX8_isPerson wsX8_isPerson) := goodIn_app (goodIn_of _ (by decide +kernel)) ggX11_shook_X8_isPerson
set_option maxRecDepth 20000 in
theorem ggX11_shook_X8_company : GoodIn wsX11_shook wsX8_company := goodIn_r _ [20, 21, 22, 23, 24, 14, 25, 26, 27, 12, 13, 15, 16, 28, 29, 30, 31, 32, 33, 34, 35, 36, 37, 38, 39, 40, 41, 113, 114, 115, 116, 117, 118, 119, 120, 121, 122, 123] (by decide +kernel) (by decide +kernel)
set_option maxRecDepth 20000 in
theorem gX11_shook_X8_company : GoodIn wsX11_shook (wsV RX11 154 RX8 yX8_company wsX8_company) := goodIn_app (goodIn_of _ (by decide +kernel)) ggX11_shook_X8_company
set_option maxRecDepth 20000 in
theorem ggX11_shook_X8_meetingTwos : GoodIn wsX11_shook wsX8_meetingTwos := goodIn_r _ [45, 16, 46, 18, 19, 14, 20, 21, 22, 23, 24, 25, 26, 27, 12, 13, 15, 28, 29, 30, 31, 32, 33, 34, 35, 36, 37, 38, 39, 40, 41, 47, 48, 49, 50, 51, 52, 53, 113, 114, 115, 116, 117, 118, 119, 120, 121, 122, 123] (by decide +kernel) (by decide +kernel)
set_option maxRecDepth 20000 in
theorem gX11_shook_X8_meetingTwos : GoodIn wsX11_shook (wsV RX11 307 RX8 yX8_meetingTwos wsX8_meetingTwos) := goodIn_app (goodIn_of _ (by decide +kernel)) ggX11_shook_X8_meetingTwos
set_option maxRecDepth 20000 in
theorem ggX11_shook_X6_learn : GoodIn wsX11_shook wsX6_learn := goodIn_r _ [58, 59, 60, 61, 62, 63, 64, 65, 66, 67, 68, 12, 13, 14, 15, 16, 69, 18, 19, 20, 21, 22, 23, 24, 25, 26, 27, 28, 29, 30, 31, 32, 33, 34, 35, 36, 37, 38, 39, 40, 41, 70, 48, 49, 50, 51, 52, 53, 100, 101, 102, 103, 104, 105, 106, 107, 108, 109, 110, 111, 112, 124, 125, 126, 127, 128, 129, 113, 114, 115, 116, 117, 118, 119, 120, 121, 122, 123] (by decide +kernel) (by decide +kernel)
set_option maxRecDepth 20000 in
theorem gX11_shook_X6_learn : GoodIn wsX11_shook (wsV RX11 311 RX6 yX6_learn wsX6_learn) := goodIn_app (goodIn_of _ (by decide +kernel)) ggX11_shook_X6_learn
set_option maxRecDepth 20000 in
theorem ggX11_shook_X6_waysWith : GoodIn wsX11_shook wsX6_waysWith := goodIn_r _ [74, 75, 76, 77, 57, 78, 63, 61, 64, 79, 80, 81, 82, 60, 66, 67, 124, 125, 126, 127, 128, 129] (by decide +kernel) (by decide +kernel)
set_option maxRecDepth 20000 in
theorem gX11_shook_X6_waysWith : GoodIn wsX11_shook (wsV RX11 314 RX6 yX6_waysWith wsX6_waysWith) := goodIn_app (goodIn_of _ (by decide +kernel)) ggX11_shook_X6_waysWith
set_option maxRecDepth 20000 in
theorem ggX11_shook_X6_numberOf : GoodIn wsX11_shook wsX6_numberOf := goodIn_r _ [86, 60, 66, 67, 124, 125, 126, 127, 128, 129] (by decide +kernel) (by decide +kernel)
set_option maxRecDepth 20000 in
theorem gX11_shook_X6_numberOf : GoodIn wsX11_shook (wsV RX11 317 RX6 yX6_numberOf wsX6_numberOf) := goodIn_app (goodIn_of _ (by decide +kernel)) ggX11_shook_X6_numberOf
theorem dX11_shook_0 : decode cX11_shook 0 = .ok (.aload_n 0, 1) := by decide +kernel
theorem dX11_shook_1 : decode cX11_shook 1 = .ok (.getfield 45, 3) := by decide +kernel
theorem dX11_shook_4 : decode cX11_shook 4 = .ok (.getfield 116, 3) := by decide +kernel
theorem dX11_shook_7 : decode cX11_shook 7 = .ok (.astore_n 3, 1) := by decide +kernel
theorem dX11_shook_8 : decode cX11_shook 8 = .ok (.aload_n 3, 1) := by decide +kernel
theorem dX11_shook_9 : decode cX11_shook 9 = .ok (.iload_n 1, 1) := by decide +kernel
theorem dX11_shook_10 : decode cX11_shook 10 = .ok (.invokevirtual 130, 3) := by decide +kernel
theorem dX11_shook_13 : decode cX11_shook 13 = .ok (.ifCond .eq 23, 3) := by decide +kernel
theorem dX11_shook_16 : decode cX11_shook 16 = .ok (.aload_n 3, 1) := by decide +kernel
theorem dX11_shook_17 : decode cX11_shook 17 = .ok (.iload_n 2, 1) := by decide +kernel
theorem dX11_shook_18 : decode cX11_shook 18 = .ok (.invokevirtual 130, 3) := by decide +kernel
theorem dX11_shook_21 : decode cX11_shook 21 = .ok (.ifCond .eq 15, 3) := by decide +kernel
theorem dX11_shook_24 : decode cX11_shook 24 = .ok (.aload_n 3, 1) := by decide +kernel
theorem dX11_shook_25 : decode cX11_shook 25 = .ok (.iload_n 1, 1) := by decide +kernel
theorem dX11_shook_26 : decode cX11_shook 26 = .ok (.invokevirtual 154, 3) := by decide +kernel
theorem dX11_shook_29 : decode cX11_shook 29 = .ok (.iload_n 2, 1) := by decide +kernel
theorem dX11_shook_30 : decode cX11_shook 30 = .ok (.ishr, 1) := by decide +kernel
theorem dX11_shook_31 : decode cX11_shook 31 = .ok (.iconst 1, 1) := by decide +kernel
theorem dX11_shook_32 : decode cX11_shook 32 = .ok (.iand, 1) := by decide +kernel
theorem dX11_shook_33 : decode cX11_shook 33 = .ok (.ifCond .ne 5, 3) := by decide +kernel
theorem dX11_shook_36 : decode cX11_shook 36 = .ok (.iconst (-1), 1) := by decide +kernel
theorem dX11_shook_37 : decode cX11_shook 37 = .ok (.ireturn, 1) := by decide +kernel
theorem dX11_shook_38 : decode cX11_shook 38 = .ok (.aload_n 3, 1) := by decide +kernel
theorem dX11_shook_39 : decode cX11_shook 39 = .ok (.invokevirtual 307, 3) := by decide +kernel
theorem dX11_shook_42 : decode cX11_shook 42 = .ok (.bipush 16, 2) := by decide +kernel
theorem dX11_shook_44 : decode cX11_shook 44 = .ok (.if_icmp .le 6, 3) := by decide +kernel
theorem dX11_shook_47 : decode cX11_shook 47 = .ok (.bipush (-3), 2) := by decide +kernel
theorem dX11_shook_49 : decode cX11_shook 49 = .ok (.ireturn, 1) := by decide +kernel
theorem dX11_shook_50 : decode cX11_shook 50 = .ok (.aload_n 0, 1) := by decide +kernel
theorem dX11_shook_51 : decode cX11_shook 51 = .ok (.getfield 84, 3) := by decide +kernel
theorem dX11_shook_54 : decode cX11_shook 54 = .ok (.aload_n 0, 1) := by decide +kernel
theorem dX11_shook_55 : decode cX11_shook 55 = .ok (.getfield 45, 3) := by decide +kernel
theorem dX11_shook_58 : decode cX11_shook 58 = .ok (.invokevirtual 311, 3) := by decide +kernel
theorem dX11_shook_61 : decode cX11_shook 61 = .ok (.aload_n 0, 1) := by decide +kernel
theorem dX11_shook_62 : decode cX11_shook 62 = .ok (.getfield 84, 3) := by decide +kernel
theorem dX11_shook_65 : decode cX11_shook 65 = .ok (.iconst (-1), 1) := by decide +kernel
theorem dX11_shook_66 : decode cX11_shook 66 = .ok (.invokevirtual 314, 3) := by decide +kernel
theorem dX11_shook_69 : decode cX11_shook 69 = .ok (.istore 4, 2) := by decide +kernel
theorem dX11_shook_71 : decode cX11_shook 71 = .ok (.iload 4, 2) := by decide +kernel
theorem dX11_shook_73 : decode cX11_shook 73 = .ok (.ifCond .ne 6, 3) := by decide +kernel
theorem dX11_shook_76 : decode cX11_shook 76 = .ok (.bipush (-2), 2) := by decide +kernel
theorem dX11_shook_78 : decode cX11_shook 78 = .ok (.ireturn, 1) := by decide +kernel
theorem dX11_shook_79 : decode cX11_shook 79 = .ok (.aload_n 0, 1) := by decide +kernel
theorem dX11_shook_80 : decode cX11_shook 80 = .ok (.getfield 84, 3) := by decide +kernel
theorem dX11_shook_83 : decode cX11_shook 83 = .ok (.aload_n 0, 1) := by decide +kernel
theorem dX11_shook_84 : decode cX11_shook 84 = .ok (.getfield 84, 3) := by decide +kernel
theorem dX11_shook_87 : decode cX11_shook 87 = .ok (.iload_n 1, 1) := by decide +kernel
theorem dX11_shook_88 : decode cX11_shook 88 = .ok (.iload_n 2, 1) := by decide +kernel
theorem dX11_shook_89 : decode cX11_shook 89 = .ok (.invokestatic 178, 3) := by decide +kernel
theorem dX11_shook_92 : decode cX11_shook 92 = .ok (.iload_n 1, 1) := by decide +kernel
theorem dX11_shook_93 : decode cX11_shook 93 = .ok (.iload_n 2, 1) := by decide +kernel
theorem dX11_shook_94 : decode cX11_shook 94 = .ok (.invokestatic 183, 3) := by decide +kernel
theorem dX11_shook_97 : decode cX11_shook 97 = .ok (.invokevirtual 317, 3) := by decide +kernel
theorem dX11_shook_100 : decode cX11_shook 100 = .ok (.invokevirtual 314, 3) := by decide +kernel
theorem dX11_shook_103 : decode cX11_shook 103 = .ok (.istore 5, 2) := by decide +kernel
theorem dX11_shook_105 : decode cX11_shook 105 = .ok (.iload 5, 2) := by decide +kernel
theorem dX11_shook_107 : decode cX11_shook 107 = .ok (.ifCond .ne 5, 3) := by decide +kernel
theorem dX11_shook_110 : decode cX11_shook 110 = .ok (.iconst 0, 1) := by decide +kernel
theorem dX11_shook_111 : decode cX11_shook 111 = .ok (.ireturn, 1) := by decide +kernel
theorem dX11_shook_112 : decode cX11_shook 112 = .ok (.iload 5, 2) := by decide +kernel
theorem dX11_shook_114 : decode cX11_shook 114 = .ok (.iload 4, 2) := by decide +kernel
theorem dX11_shook_116 : decode cX11_shook 116 = .ok (.if_icmp .ne 7, 3) := by decide +kernel
theorem dX11_shook_119 : decode cX11_shook 119 = .ok (.iconst 1, 1) := by decide +kernel
theorem dX11_shook_120 : decode cX11_shook 120 = .ok (.goto 4, 3) := by decide +kernel
theorem dX11_shook_123 : decode cX11_shook 123 = .ok (.iconst 2, 1) := by decide +kernel
theorem dX11_shook_124 : decode cX11_shook 124 = .ok (.ireturn, 1) := by decide +kernel
set_option maxRecDepth 20000 in
theorem ggX11_passes_X8_isPerson : GoodIn wsX11_passes wsX8_isPerson := goodIn_r _ [8, 9, 55, 56, 57, 58, 59, 60, 61, 62, 63, 64, 65] (by decide +kernel) (by decide +kernel)
set_option maxRecDepth 20000 in
theorem gX11_passes_X8_isPerson : GoodIn wsX11_passes (wsV RX11 130 RX8 yX8_isPerson wsX8_isPerson) := goodIn_app (goodIn_of _ (by decide +kernel)) ggX11_passes_X8_isPerson
set_option maxRecDepth 20000 in
theorem ggX11_passes_X8_passedOn : GoodIn wsX11_passes wsX8_passedOn := goodIn_r _ [13, 14, 15, 16, 17, 7, 18, 19, 20, 21, 22, 23, 24, 25, 26, 27, 28, 55, 56, 57, 58, 59, 60, 61, 62, 63, 64, 65] (by decide +kernel) (by decide +kernel)
set_option maxRecDepth 20000 in
theorem gX11_passes_X8_passedOn : GoodIn wsX11_passes (wsV RX11 320 RX8 yX8_passedOn wsX8_passedOn) := goodIn_app (goodIn_of _ (by decide +kernel)) ggX11_passes_X8_passedOn
theorem dX11_passes_0 : decode cX11_passes 0 = .ok (.aload_n 0, 1) := by decide +kernel
theorem dX11_passes_1 : decode cX11_passes 1 = .ok (.getfield 45, 3) := by decide +kernel
theorem dX11_passes_4 : decode cX11_passes 4 = .ok (.getfield 116, 3) := by decide +kernel
theorem dX11_passes_7 : decode cX11_passes 7 = .ok (.astore_n 3, 1) := by decide +kernel
theorem dX11_passes_8 : decode cX11_passes 8 = .ok (.aload_n 3, 1) := by decide +kernel
theorem dX11_passes_9 : decode cX11_passes 9 = .ok (.iload_n 1, 1) := by decide +kernel
theorem dX11_passes_10 : decode cX11_passes 10 = .ok (.invokevirtual 130, 3) := by decide +kernel
theorem dX11_passes_13 : decode cX11_passes 13 = .ok (.ifCond .eq 11, 3) := by decide +kernel
theorem dX11_passes_16 : decode cX11_passes 16 = .ok (.aload_n 3, 1) := by decide +kernel
theorem dX11_passes_17 : decode cX11_passes 17 = .ok (.iload_n 2, 1) := by decide +kernel
theorem dX11_passes_18 : decode cX11_passes 18 = .ok (.invokevirtual 130, 3) := by decide +kernel
theorem dX11_passes_21 : decode cX11_passes 21 = .ok (.ifCond .ne 6, 3) := by decide +kernel
theorem dX11_passes_24 : decode cX11_passes 24 = .ok (.bipush (-3), 2) := by decide +kernel
theorem dX11_passes_26 : decode cX11_passes 26 = .ok (.ireturn, 1) := by decide +kernel
theorem dX11_passes_27 : decode cX11_passes 27 = .ok (.iload_n 1, 1) := by decide +kernel
theorem dX11_passes_28 : decode cX11_passes 28 = .ok (.iload_n 2, 1) := by decide +kernel
theorem dX11_passes_29 : decode cX11_passes 29 = .ok (.if_icmp .ne 5, 3) := by decide +kernel
theorem dX11_passes_32 : decode cX11_passes 32 = .ok (.iconst (-1), 1) := by decide +kernel
theorem dX11_passes_33 : decode cX11_passes 33 = .ok (.ireturn, 1) := by decide +kernel
theorem dX11_passes_34 : decode cX11_passes 34 = .ok (.iconst 1, 1) := by decide +kernel
theorem dX11_passes_35 : decode cX11_passes 35 = .ok (.iload_n 1, 1) := by decide +kernel
theorem dX11_passes_36 : decode cX11_passes 36 = .ok (.ishl, 1) := by decide +kernel
theorem dX11_passes_37 : decode cX11_passes 37 = .ok (.istore 4, 2) := by decide +kernel
theorem dX11_passes_39 : decode cX11_passes 39 = .ok (.iconst 0, 1) := by decide +kernel
theorem dX11_passes_40 : decode cX11_passes 40 = .ok (.istore 5, 2) := by decide +kernel
theorem dX11_passes_42 : decode cX11_passes 42 = .ok (.iload 5, 2) := by decide +kernel
theorem dX11_passes_44 : decode cX11_passes 44 = .ok (.aload_n 3, 1) := by decide +kernel
theorem dX11_passes_45 : decode cX11_passes 45 = .ok (.getfield 215, 3) := by decide +kernel
theorem dX11_passes_48 : decode cX11_passes 48 = .ok (.if_icmp .ge 31, 3) := by decide +kernel
theorem dX11_passes_51 : decode cX11_passes 51 = .ok (.aload_n 3, 1) := by decide +kernel
theorem dX11_passes_52 : decode cX11_passes 52 = .ok (.iload 4, 2) := by decide +kernel
theorem dX11_passes_54 : decode cX11_passes 54 = .ok (.iload 5, 2) := by decide +kernel
theorem dX11_passes_56 : decode cX11_passes 56 = .ok (.invokevirtual 320, 3) := by decide +kernel
theorem dX11_passes_59 : decode cX11_passes 59 = .ok (.istore 4, 2) := by decide +kernel
theorem dX11_passes_61 : decode cX11_passes 61 = .ok (.iload 4, 2) := by decide +kernel
theorem dX11_passes_63 : decode cX11_passes 63 = .ok (.iload_n 2, 1) := by decide +kernel
theorem dX11_passes_64 : decode cX11_passes 64 = .ok (.ishr, 1) := by decide +kernel
theorem dX11_passes_65 : decode cX11_passes 65 = .ok (.iconst 1, 1) := by decide +kernel
theorem dX11_passes_66 : decode cX11_passes 66 = .ok (.iand, 1) := by decide +kernel
theorem dX11_passes_67 : decode cX11_passes 67 = .ok (.ifCond .eq 6, 3) := by decide +kernel
theorem dX11_passes_70 : decode cX11_passes 70 = .ok (.iload 5, 2) := by decide +kernel
theorem dX11_passes_72 : decode cX11_passes 72 = .ok (.ireturn, 1) := by decide +kernel
theorem dX11_passes_73 : decode cX11_passes 73 = .ok (.iinc 5 1, 3) := by decide +kernel
theorem dX11_passes_76 : decode cX11_passes 76 = .ok (.goto (-34), 3) := by decide +kernel
theorem dX11_passes_79 : decode cX11_passes 79 = .ok (.bipush (-2), 2) := by decide +kernel
theorem dX11_passes_81 : decode cX11_passes 81 = .ok (.ireturn, 1) := by decide +kernel
set_option maxRecDepth 20000 in
theorem ggX11_have_X8_isPerson : GoodIn wsX11_have wsX8_isPerson := goodIn_r _ [7, 8, 55, 56, 57, 58, 59, 60, 61, 62, 63, 64, 65] (by decide +kernel) (by decide +kernel)
set_option maxRecDepth 20000 in
theorem gX11_have_X8_isPerson : GoodIn wsX11_have (wsV RX11 130 RX8 yX8_isPerson wsX8_isPerson) := goodIn_app (goodIn_of _ (by decide +kernel)) ggX11_have_X8_isPerson
set_option maxRecDepth 20000 in
theorem ggX11_have_X8_isHour : GoodIn wsX11_have wsX8_isHour := goodIn_r _ [12, 13, 55, 56, 57, 58, 59, 60, 61, 62, 63, 64, 65] (by decide +kernel) (by decide +kernel)
set_option maxRecDepth 20000 in
theorem gX11_have_X8_isHour : GoodIn wsX11_have (wsV RX11 134 RX8 yX8_isHour wsX8_isHour) := goodIn_app (goodIn_of _ (by decide +kernel)) ggX11_have_X8_isHour
set_option maxRecDepth 20000 in
theorem ggX11_have_X8_passedOn : GoodIn wsX11_have wsX8_passedOn := goodIn_r _ [17, 18, 19, 20, 21, 6, 22, 23, 24, 25, 26, 27, 28, 10, 11, 12, 13, 55, 56, 57, 58, 59, 60, 61, 62, 63, 64, 65] (by decide +kernel) (by decide +kernel)
set_option maxRecDepth 20000 in
theorem gX11_have_X8_passedOn : GoodIn wsX11_have (wsV RX11 320 RX8 yX8_passedOn wsX8_passedOn) := goodIn_app (goodIn_of _ (by decide +kernel)) ggX11_have_X8_passedOn
theorem dX11_have_0 : decode cX11_have 0 = .ok (.aload_n 0, 1) := by decide +kernel
theorem dX11_have_1 : decode cX11_have 1 = .ok (.getfield 45, 3) := by decide +kernel
theorem dX11_have_4 : decode cX11_have 4 = .ok (.getfield 116, 3) := by decide +kernel
theorem dX11_have_7 : decode cX11_have 7 = .ok (.astore_n 3, 1) := by decide +kernel
theorem dX11_have_8 : decode cX11_have 8 = .ok (.aload_n 3, 1) := by decide +kernel
theorem dX11_have_9 : decode cX11_have 9 = .ok (.iload_n 1, 1) := by decide +kernel
theorem dX11_have_10 : decode cX11_have 10 = .ok (.invokevirtual 130, 3) := by decide +kernel
theorem dX11_have_13 : decode cX11_have 13 = .ok (.ifCond .eq 11, 3) := by decide +kernel
theorem dX11_have_16 : decode cX11_have 16 = .ok (.aload_n 3, 1) := by decide +kernel
theorem dX11_have_17 : decode cX11_have 17 = .ok (.iload_n 2, 1) := by decide +kernel
theorem dX11_have_18 : decode cX11_have 18 = .ok (.invokevirtual 134, 3) := by decide +kernel
theorem dX11_have_21 : decode cX11_have 21 = .ok (.ifCond .ne 5, 3) := by decide +kernel
theorem dX11_have_24 : decode cX11_have 24 = .ok (.iconst (-1), 1) := by decide +kernel
theorem dX11_have_25 : decode cX11_have 25 = .ok (.ireturn, 1) := by decide +kernel
theorem dX11_have_26 : decode cX11_have 26 = .ok (.iconst 1, 1) := by decide +kernel
theorem dX11_have_27 : decode cX11_have 27 = .ok (.iload_n 1, 1) := by decide +kernel
theorem dX11_have_28 : decode cX11_have 28 = .ok (.ishl, 1) := by decide +kernel
theorem dX11_have_29 : decode cX11_have 29 = .ok (.istore 4, 2) := by decide +kernel
theorem dX11_have_31 : decode cX11_have 31 = .ok (.iconst 0, 1) := by decide +kernel
theorem dX11_have_32 : decode cX11_have 32 = .ok (.istore 5, 2) := by decide +kernel
theorem dX11_have_34 : decode cX11_have 34 = .ok (.iload 5, 2) := by decide +kernel
theorem dX11_have_36 : decode cX11_have 36 = .ok (.iload_n 2, 1) := by decide +kernel
theorem dX11_have_37 : decode cX11_have 37 = .ok (.if_icmp .gt 19, 3) := by decide +kernel
theorem dX11_have_40 : decode cX11_have 40 = .ok (.aload_n 3, 1) := by decide +kernel
theorem dX11_have_41 : decode cX11_have 41 = .ok (.iload 4, 2) := by decide +kernel
theorem dX11_have_43 : decode cX11_have 43 = .ok (.iload 5, 2) := by decide +kernel
theorem dX11_have_45 : decode cX11_have 45 = .ok (.invokevirtual 320, 3) := by decide +kernel
theorem dX11_have_48 : decode cX11_have 48 = .ok (.istore 4, 2) := by decide +kernel
theorem dX11_have_50 : decode cX11_have 50 = .ok (.iinc 5 1, 3) := by decide +kernel
theorem dX11_have_53 : decode cX11_have 53 = .ok (.goto (-19), 3) := by decide +kernel
theorem dX11_have_56 : decode cX11_have 56 = .ok (.iload 4, 2) := by decide +kernel
theorem dX11_have_58 : decode cX11_have 58 = .ok (.ireturn, 1) := by decide +kernel
set_option maxRecDepth 20000 in
theorem ggX11_islands_X11_hasTown : GoodIn wsX11_islands wsX11_hasTown := goodIn_r _ [8, 1, 2, 9, 35, 36, 37, 38, 39, 40, 41, 42, 43, 44, 45, 46, 47, 48, 49, 50, 51, 52, 53, 54, 55, 56, 57, 58, 59, 60, 61, 62, 63, 64, 65, 66, 67, 68, 69, 70, 71] (by decide +kernel) (by decide +kernel)
set_option maxRecDepth 20000 in
theorem gX11_islands_X11_hasTown : GoodIn wsX11_islands (wsV RX11 209 RX11 yX11_hasTown wsX11_hasTown) := goodIn_app (goodIn_of _ (by decide +kernel)) ggX11_islands_X11_hasTown
set_option maxRecDepth 20000 in
theorem ggX11_islands_X8_islandOf : GoodIn wsX11_islands wsX8_islandOf := goodIn_r _ [14, 15, 16, 17, 18, 19, 13, 20, 21, 22, 23, 24, 25, 26, 27, 28, 29, 30, 31, 32, 33, 34, 61, 62, 63, 64, 65, 66, 67, 68, 69, 70, 71] (by decide +kernel) (by decide +kernel)
set_option maxRecDepth 20000 in
theorem gX11_islands_X8_islandOf : GoodIn wsX11_islands (wsV RX11 323 RX8 yX8_islandOf wsX8_islandOf) := goodIn_app (goodIn_of _ (by decide +kernel)) ggX11_islands_X8_islandOf
theorem dX11_islands_0 : decode cX11_islands 0 = .ok (.aload_n 0, 1) := by decide +kernel
theorem dX11_islands_1 : decode cX11_islands 1 = .ok (.invokevirtual 209, 3) := by decide +kernel
theorem dX11_islands_4 : decode cX11_islands 4 = .ok (.ifCond .ne 5, 3) := by decide +kernel
theorem dX11_islands_7 : decode cX11_islands 7 = .ok (.iconst (-1), 1) := by decide +kernel
theorem dX11_islands_8 : decode cX11_islands 8 = .ok (.ireturn, 1) := by decide +kernel
theorem dX11_islands_9 : decode cX11_islands 9 = .ok (.iconst 0, 1) := by decide +kernel
theorem dX11_islands_10 : decode cX11_islands 10 = .ok (.istore_n 1, 1) := by decide +kernel
theorem dX11_islands_11 : decode cX11_islands 11 = .ok (.iconst 0, 1) := by decide +kernel
theorem dX11_islands_12 : decode cX11_islands 12 = .ok (.istore_n 2, 1) := by decide +kernel
theorem dX11_islands_13 : decode cX11_islands 13 = .ok (.iconst 0, 1) := by decide +kernel
theorem dX11_islands_14 : decode cX11_islands 14 = .ok (.istore_n 3, 1) := by decide +kernel
theorem dX11_islands_15 : decode cX11_islands 15 = .ok (.iload_n 3, 1) := by decide +kernel
theorem dX11_islands_16 : decode cX11_islands 16 = .ok (.aload_n 0, 1) := by decide +kernel
theorem dX11_islands_17 : decode cX11_islands 17 = .ok (.getfield 45, 3) := by decide +kernel
theorem dX11_islands_20 : decode cX11_islands 20 = .ok (.getfield 116, 3) := by decide +kernel
theorem dX11_islands_23 : decode cX11_islands 23 = .ok (.getfield 117, 3) := by decide +kernel
theorem dX11_islands_26 : decode cX11_islands 26 = .ok (.if_icmp .ge 34, 3) := by decide +kernel
theorem dX11_islands_29 : decode cX11_islands 29 = .ok (.iload_n 2, 1) := by decide +kernel
theorem dX11_islands_30 : decode cX11_islands 30 = .ok (.iload_n 3, 1) := by decide +kernel
theorem dX11_islands_31 : decode cX11_islands 31 = .ok (.ishr, 1) := by decide +kernel
theorem dX11_islands_32 : decode cX11_islands 32 = .ok (.iconst 1, 1) := by decide +kernel
theorem dX11_islands_33 : decode cX11_islands 33 = .ok (.iand, 1) := by decide +kernel
theorem dX11_islands_34 : decode cX11_islands 34 = .ok (.ifCond .ne 20, 3) := by decide +kernel
theorem dX11_islands_37 : decode cX11_islands 37 = .ok (.iload_n 2, 1) := by decide +kernel
theorem dX11_islands_38 : decode cX11_islands 38 = .ok (.aload_n 0, 1) := by decide +kernel
theorem dX11_islands_39 : decode cX11_islands 39 = .ok (.getfield 45, 3) := by decide +kernel
theorem dX11_islands_42 : decode cX11_islands 42 = .ok (.getfield 116, 3) := by decide +kernel
theorem dX11_islands_45 : decode cX11_islands 45 = .ok (.iload_n 3, 1) := by decide +kernel
theorem dX11_islands_46 : decode cX11_islands 46 = .ok (.invokevirtual 323, 3) := by decide +kernel
theorem dX11_islands_49 : decode cX11_islands 49 = .ok (.ior, 1) := by decide +kernel
theorem dX11_islands_50 : decode cX11_islands 50 = .ok (.istore_n 2, 1) := by decide +kernel
theorem dX11_islands_51 : decode cX11_islands 51 = .ok (.iinc 1 1, 3) := by decide +kernel
theorem dX11_islands_54 : decode cX11_islands 54 = .ok (.iinc 3 1, 3) := by decide +kernel
theorem dX11_islands_57 : decode cX11_islands 57 = .ok (.goto (-42), 3) := by decide +kernel
theorem dX11_islands_60 : decode cX11_islands 60 = .ok (.iload_n 1, 1) := by decide +kernel
theorem dX11_islands_61 : decode cX11_islands 61 = .ok (.ireturn, 1) := by decide +kernel
set_option maxRecDepth 20000 in
theorem ggX11_rounds_J6_bitCount_0f7a4 : GoodIn wsX11_rounds wsJ6_bitCount_0f7a4 := goodIn_r _ [14, 15, 16, 17] (by decide +kernel) (by decide +kernel)
set_option maxRecDepth 20000 in
theorem gX11_rounds_J6_bitCount_0f7a4 : GoodIn wsX11_rounds (va_wsS RX11 169 yJ6_bitCount_0f7a4 wsJ6_bitCount_0f7a4) := goodIn_app (goodIn_of _ (by decide +kernel)) ggX11_rounds_J6_bitCount_0f7a4
theorem dX11_rounds_0 : decode cX11_rounds 0 = .ok (.iload_n 1, 1) := by decide +kernel
theorem dX11_rounds_1 : decode cX11_rounds 1 = .ok (.ifCond .lt 30, 3) := by decide +kernel
theorem dX11_rounds_4 : decode cX11_rounds 4 = .ok (.iload_n 1, 1) := by decide +kernel
theorem dX11_rounds_5 : decode cX11_rounds 5 = .ok (.iconst 1, 1) := by decide +kernel
theorem dX11_rounds_6 : decode cX11_rounds 6 = .ok (.aload_n 0, 1) := by decide +kernel
theorem dX11_rounds_7 : decode cX11_rounds 7 = .ok (.getfield 45, 3) := by decide +kernel
theorem dX11_rounds_10 : decode cX11_rounds 10 = .ok (.getfield 116, 3) := by decide +kernel
theorem dX11_rounds_13 : decode cX11_rounds 13 = .ok (.getfield 117, 3) := by decide +kernel
theorem dX11_rounds_16 : decode cX11_rounds 16 = .ok (.ishl, 1) := by decide +kernel
theorem dX11_rounds_17 : decode cX11_rounds 17 = .ok (.if_icmp .ge 14, 3) := by decide +kernel
theorem dX11_rounds_20 : decode cX11_rounds 20 = .ok (.iload_n 2, 1) := by decide +kernel
theorem dX11_rounds_21 : decode cX11_rounds 21 = .ok (.iconst 1, 1) := by decide +kernel
theorem dX11_rounds_22 : decode cX11_rounds 22 = .ok (.if_icmp .lt 9, 3) := by decide +kernel
theorem dX11_rounds_25 : decode cX11_rounds 25 = .ok (.iload_n 2, 1) := by decide +kernel
theorem dX11_rounds_26 : decode cX11_rounds 26 = .ok (.bipush 6, 2) := by decide +kernel
theorem dX11_rounds_28 : decode cX11_rounds 28 = .ok (.if_icmp .le 5, 3) := by decide +kernel
theorem dX11_rounds_31 : decode cX11_rounds 31 = .ok (.iconst (-1), 1) := by decide +kernel
theorem dX11_rounds_32 : decode cX11_rounds 32 = .ok (.ireturn, 1) := by decide +kernel
theorem dX11_rounds_33 : decode cX11_rounds 33 = .ok (.iload_n 1, 1) := by decide +kernel
theorem dX11_rounds_34 : decode cX11_rounds 34 = .ok (.invokestatic 169, 3) := by decide +kernel
theorem dX11_rounds_37 : decode cX11_rounds 37 = .ok (.istore_n 3, 1) := by decide +kernel
theorem dX11_rounds_38 : decode cX11_rounds 38 = .ok (.iload_n 3, 1) := by decide +kernel
theorem dX11_rounds_39 : decode cX11_rounds 39 = .ok (.iconst 2, 1) := by decide +kernel
theorem dX11_rounds_40 : decode cX11_rounds 40 = .ok (.if_icmp .ge 5, 3) := by decide +kernel
theorem dX11_rounds_43 : decode cX11_rounds 43 = .ok (.iconst 0, 1) := by decide +kernel
theorem dX11_rounds_44 : decode cX11_rounds 44 = .ok (.ireturn, 1) := by decide +kernel
theorem dX11_rounds_45 : decode cX11_rounds 45 = .ok (.iconst 1, 1) := by decide +kernel
theorem dX11_rounds_46 : decode cX11_rounds 46 = .ok (.iload_n 2, 1) := by decide +kernel
theorem dX11_rounds_47 : decode cX11_rounds 47 = .ok (.iload_n 3, 1) := by decide +kernel
theorem dX11_rounds_48 : decode cX11_rounds 48 = .ok (.iconst 2, 1) := by decide +kernel
theorem dX11_rounds_49 : decode cX11_rounds 49 = .ok (.idiv, 1) := by decide +kernel
theorem dX11_rounds_50 : decode cX11_rounds 50 = .ok (.invokestatic 178, 3) := by decide +kernel
theorem dX11_rounds_53 : decode cX11_rounds 53 = .ok (.invokestatic 183, 3) := by decide +kernel
theorem dX11_rounds_56 : decode cX11_rounds 56 = .ok (.istore 4, 2) := by decide +kernel
theorem dX11_rounds_58 : decode cX11_rounds 58 = .ok (.iload_n 3, 1) := by decide +kernel
theorem dX11_rounds_59 : decode cX11_rounds 59 = .ok (.iload_n 3, 1) := by decide +kernel
theorem dX11_rounds_60 : decode cX11_rounds 60 = .ok (.iconst 1, 1) := by decide +kernel
theorem dX11_rounds_61 : decode cX11_rounds 61 = .ok (.isub, 1) := by decide +kernel
theorem dX11_rounds_62 : decode cX11_rounds 62 = .ok (.imul, 1) := by decide +kernel
theorem dX11_rounds_63 : decode cX11_rounds 63 = .ok (.iconst 2, 1) := by decide +kernel
theorem dX11_rounds_64 : decode cX11_rounds 64 = .ok (.idiv, 1) := by decide +kernel
theorem dX11_rounds_65 : decode cX11_rounds 65 = .ok (.iload 4, 2) := by decide +kernel
theorem dX11_rounds_67 : decode cX11_rounds 67 = .ok (.iadd, 1) := by decide +kernel
theorem dX11_rounds_68 : decode cX11_rounds 68 = .ok (.iconst 1, 1) := by decide +kernel
theorem dX11_rounds_69 : decode cX11_rounds 69 = .ok (.isub, 1) := by decide +kernel
theorem dX11_rounds_70 : decode cX11_rounds 70 = .ok (.iload 4, 2) := by decide +kernel
theorem dX11_rounds_72 : decode cX11_rounds 72 = .ok (.idiv, 1) := by decide +kernel
theorem dX11_rounds_73 : decode cX11_rounds 73 = .ok (.ireturn, 1) := by decide +kernel
set_option maxRecDepth 20000 in
theorem ggX11_census_X11_hasTown : GoodIn wsX11_census wsX11_hasTown := goodIn_r _ [11, 1, 2, 12, 119, 120, 121, 122, 123, 124, 125, 126, 127, 128, 129, 130, 131, 132, 133, 134, 135, 136, 137, 138, 139, 140, 141, 142, 143, 144, 145, 146, 147, 148, 149, 150, 151, 152, 153, 154, 155] (by decide +kernel) (by decide +kernel)
set_option maxRecDepth 20000 in
theorem gX11_census_X11_hasTown : GoodIn wsX11_census (wsV RX11 209 RX11 yX11_hasTown wsX11_hasTown) := goodIn_app (goodIn_of _ (by decide +kernel)) ggX11_census_X11_hasTown
set_option maxRecDepth 20000 in
theorem ggX11_census_X11_counting : GoodIn wsX11_census wsX11_counting := goodIn_r _ [16, 1, 17, 18, 19, 20, 119, 120, 121, 122, 123, 124, 125, 126, 127, 128, 129, 130, 131, 132, 133, 134, 135, 136, 137, 138, 139, 140, 141, 142, 143, 144, 156, 157, 158, 159] (by decide +kernel) (by decide +kernel)
set_option maxRecDepth 20000 in
theorem gX11_census_X11_counting : GoodIn wsX11_census (wsV RX11 174 RX11 yX11_counting wsX11_counting) := goodIn_app (goodIn_of _ (by decide +kernel)) ggX11_census_X11_counting
set_option maxRecDepth 20000 in
theorem ggX11_census_X5_totalOf : GoodIn wsX11_census wsX5_totalOf := goodIn_r _ [25, 26, 27, 28, 29, 30, 24, 31, 32, 33, 34, 35, 36, 37, 38, 39, 40, 41, 42, 43, 44, 45, 46, 47, 48, 49, 50, 51, 52, 53, 10, 54, 55, 56, 57, 58, 59, 60, 61, 62, 63, 64, 65, 66, 67, 68, 69, 70, 71, 72, 73, 74, 75, 76, 77, 78, 79, 80, 81, 82, 83, 84, 85, 86, 87, 88, 89, 90, 91, 92, 93, 94, 95, 96, 97, 98, 99, 100, 101, 102, 103, 104, 105, 106, 107, 108, 109, 110, 111, 5, 112, 113, 114, 115, 116, 117, 118, 145, 146, 147, 148, 149, 150, 151, 152, 153, 154, 155, 156, 157, 158, 159, 160, 161] (by decide +kernel) (by decide +kernel)
set_option maxRecDepth 20000 in
theorem gX11_census_X5_totalOf : GoodIn wsX11_census (wsV RX11 198 RX5 yX5_totalOf wsX5_totalOf) := goodIn_app (goodIn_of _ (by decide +kernel)) ggX11_census_X5_totalOf
theorem dX11_census_0 : decode cX11_census 0 = .ok (.aload_n 0, 1) := by decide +kernel
theorem dX11_census_1 : decode cX11_census 1 = .ok (.invokevirtual 209, 3) := by decide +kernel
theorem dX11_census_4 : decode cX11_census 4 = .ok (.ifCond .ne 5, 3) := by decide +kernel
theorem dX11_census_7 : decode cX11_census 7 = .ok (.iconst (-1), 1) := by decide +kernel
theorem dX11_census_8 : decode cX11_census 8 = .ok (.ireturn, 1) := by decide +kernel
theorem dX11_census_9 : decode cX11_census 9 = .ok (.aload_n 0, 1) := by decide +kernel
theorem dX11_census_10 : decode cX11_census 10 = .ok (.invokevirtual 174, 3) := by decide +kernel
theorem dX11_census_13 : decode cX11_census 13 = .ok (.aload_n 0, 1) := by decide +kernel
theorem dX11_census_14 : decode cX11_census 14 = .ok (.getfield 45, 3) := by decide +kernel
theorem dX11_census_17 : decode cX11_census 17 = .ok (.getfield 116, 3) := by decide +kernel
theorem dX11_census_20 : decode cX11_census 20 = .ok (.invokevirtual 198, 3) := by decide +kernel
theorem dX11_census_23 : decode cX11_census 23 = .ok (.istore_n 1, 1) := by decide +kernel
theorem dX11_census_24 : decode cX11_census 24 = .ok (.iconst 0, 1) := by decide +kernel
theorem dX11_census_25 : decode cX11_census 25 = .ok (.istore_n 2, 1) := by decide +kernel
theorem dX11_census_26 : decode cX11_census 26 = .ok (.iconst 1, 1) := by decide +kernel
theorem dX11_census_27 : decode cX11_census 27 = .ok (.istore_n 3, 1) := by decide +kernel
theorem dX11_census_28 : decode cX11_census 28 = .ok (.iload_n 3, 1) := by decide +kernel
theorem dX11_census_29 : decode cX11_census 29 = .ok (.sipush 736, 3) := by decide +kernel
theorem dX11_census_32 : decode cX11_census 32 = .ok (.if_icmp .gt 34, 3) := by decide +kernel
theorem dX11_census_35 : decode cX11_census 35 = .ok (.iload_n 3, 1) := by decide +kernel
theorem dX11_census_36 : decode cX11_census 36 = .ok (.iload_n 3, 1) := by decide +kernel
theorem dX11_census_37 : decode cX11_census 37 = .ok (.iconst 1, 1) := by decide +kernel
theorem dX11_census_38 : decode cX11_census 38 = .ok (.isub, 1) := by decide +kernel
theorem dX11_census_39 : decode cX11_census 39 = .ok (.imul, 1) := by decide +kernel
theorem dX11_census_40 : decode cX11_census 40 = .ok (.iload_n 1, 1) := by decide +kernel
theorem dX11_census_41 : decode cX11_census 41 = .ok (.isub, 1) := by decide +kernel
theorem dX11_census_42 : decode cX11_census 42 = .ok (.invokestatic 326, 3) := by decide +kernel
theorem dX11_census_45 : decode cX11_census 45 = .ok (.iload_n 2, 1) := by decide +kernel
theorem dX11_census_46 : decode cX11_census 46 = .ok (.iload_n 2, 1) := by decide +kernel
theorem dX11_census_47 : decode cX11_census 47 = .ok (.iconst 1, 1) := by decide +kernel
theorem dX11_census_48 : decode cX11_census 48 = .ok (.isub, 1) := by decide +kernel
theorem dX11_census_49 : decode cX11_census 49 = .ok (.imul, 1) := by decide +kernel
theorem dX11_census_50 : decode cX11_census 50 = .ok (.iload_n 1, 1) := by decide +kernel
theorem dX11_census_51 : decode cX11_census 51 = .ok (.isub, 1) := by decide +kernel
theorem dX11_census_52 : decode cX11_census 52 = .ok (.invokestatic 326, 3) := by decide +kernel
theorem dX11_census_55 : decode cX11_census 55 = .ok (.if_icmp .gt 5, 3) := by decide +kernel
theorem dX11_census_58 : decode cX11_census 58 = .ok (.iload_n 3, 1) := by decide +kernel
theorem dX11_census_59 : decode cX11_census 59 = .ok (.istore_n 2, 1) := by decide +kernel
theorem dX11_census_60 : decode cX11_census 60 = .ok (.iinc 3 1, 3) := by decide +kernel
theorem dX11_census_63 : decode cX11_census 63 = .ok (.goto (-35), 3) := by decide +kernel
theorem dX11_census_66 : decode cX11_census 66 = .ok (.iload_n 2, 1) := by decide +kernel
theorem dX11_census_67 : decode cX11_census 67 = .ok (.ireturn, 1) := by decide +kernel
theorem dX11_seed_0 : decode cX11_seed 0 = .ok (.iload_n 1, 1) := by decide +kernel
theorem dX11_seed_1 : decode cX11_seed 1 = .ok (.ifCond .ge 5, 3) := by decide +kernel
theorem dX11_seed_4 : decode cX11_seed 4 = .ok (.iconst (-1), 1) := by decide +kernel
theorem dX11_seed_5 : decode cX11_seed 5 = .ok (.ireturn, 1) := by decide +kernel
theorem dX11_seed_6 : decode cX11_seed 6 = .ok (.aload_n 0, 1) := by decide +kernel
theorem dX11_seed_7 : decode cX11_seed 7 = .ok (.getfield 45, 3) := by decide +kernel
theorem dX11_seed_10 : decode cX11_seed 10 = .ok (.getfield 329, 3) := by decide +kernel
theorem dX11_seed_13 : decode cX11_seed 13 = .ok (.istore_n 2, 1) := by decide +kernel
theorem dX11_seed_14 : decode cX11_seed 14 = .ok (.aload_n 0, 1) := by decide +kernel
theorem dX11_seed_15 : decode cX11_seed 15 = .ok (.getfield 45, 3) := by decide +kernel
theorem dX11_seed_18 : decode cX11_seed 18 = .ok (.iload_n 1, 1) := by decide +kernel
theorem dX11_seed_19 : decode cX11_seed 19 = .ok (.putfield 329, 3) := by decide +kernel
theorem dX11_seed_22 : decode cX11_seed 22 = .ok (.iload_n 2, 1) := by decide +kernel
theorem dX11_seed_23 : decode cX11_seed 23 = .ok (.ireturn, 1) := by decide +kernel
set_option maxRecDepth 20000 in
theorem ggX11_drawn_X11_hasTown : GoodIn wsX11_drawn wsX11_hasTown := goodIn_r _ [10, 2, 3, 11, 146, 147, 148, 149, 150, 151, 152, 153, 154, 155, 156, 157, 158, 159, 160, 161, 162, 163, 164, 165, 166, 167, 168, 169, 170, 171, 172, 173, 174, 175, 176, 177, 178, 179, 180, 181, 182] (by decide +kernel) (by decide +kernel)
set_option maxRecDepth 20000 in
theorem gX11_drawn_X11_hasTown : GoodIn wsX11_drawn (wsV RX11 209 RX11 yX11_hasTown wsX11_hasTown) := goodIn_app (goodIn_of _ (by decide +kernel)) ggX11_drawn_X11_hasTown
set_option maxRecDepth 20000 in
theorem ggX11_drawn_X11_counting : GoodIn wsX11_drawn wsX11_counting := goodIn_r _ [15, 2, 16, 17, 18, 19, 146, 147, 148, 149, 150, 151, 152, 153, 154, 155, 156, 157, 158, 159, 160, 161, 162, 163, 164, 165, 166, 167, 168, 169, 170, 171, 183, 184, 185, 186] (by decide +kernel) (by decide +kernel)
set_option maxRecDepth 20000 in
theorem gX11_drawn_X11_counting : GoodIn wsX11_drawn (wsV RX11 174 RX11 yX11_counting wsX11_counting) := goodIn_app (goodIn_of _ (by decide +kernel)) ggX11_drawn_X11_counting
set_option maxRecDepth 20000 in
theorem ggX11_drawn_X5_totalOf : GoodIn wsX11_drawn wsX5_totalOf := goodIn_r _ [24, 25, 26, 27, 28, 29, 23, 30, 31, 32, 33, 34, 35, 36, 37, 38, 39, 40, 41, 42, 43, 44, 45, 46, 47, 48, 49, 50, 51, 52, 9, 53, 54, 55, 56, 57, 58, 59, 60, 61, 62, 63, 64, 65, 66, 67, 68, 69, 70, 71, 72, 73, 74, 75, 76, 77, 78, 79, 80, 81, 82, 83, 84, 85, 86, 87, 88, 89, 90, 91, 92, 93, 94, 95, 96, 97, 98, 99, 100, 101, 102, 103, 104, 105, 106, 107, 108, 109, 110, 111, 112, 113, 114, 115, 116, 117, 118, 172, 173, 174, 175, 176, 177, 178, 179, 180, 181, 182, 183, 184, 185, 186, 187, 188] (by decide +kernel) (by decide +kernel)
set_option maxRecDepth 20000 in
theorem gX11_drawn_X5_totalOf : GoodIn wsX11_drawn (wsV RX11 198 RX5 yX5_totalOf wsX5_totalOf) := goodIn_app (goodIn_of _ (by decide +kernel)) ggX11_drawn_X5_totalOf
set_option maxRecDepth 20000 in
theorem ggX11_drawn_X8_copyFrom : GoodIn wsX11_drawn wsX8_copyFrom := goodIn_r _ [122, 46, 51, 74, 123, 86, 84, 85, 124, 79, 125, 126, 127, 128, 69, 41, 172, 173, 174, 175, 176, 177, 178, 179, 180, 181, 182] (by decide +kernel) (by decide +kernel)
set_option maxRecDepth 20000 in
theorem gX11_drawn_X8_copyFrom : GoodIn wsX11_drawn (wsV RX11 290 RX8 yX8_copyFrom wsX8_copyFrom) := goodIn_app (goodIn_of _ (by decide +kernel)) ggX11_drawn_X8_copyFrom
set_option maxRecDepth 20000 in
theorem ggX11_drawn_X8_scatter : GoodIn wsX11_drawn wsX8_scatter := goodIn_r _ [132, 74, 51, 46, 133, 134, 39, 135, 136, 137, 138, 139, 140, 141, 69, 41, 70, 71, 72, 73, 47, 48, 49, 50, 142, 143, 144, 145, 42, 43, 44, 45, 172, 173, 174, 175, 176, 177, 178, 179, 180, 181, 182] (by decide +kernel) (by decide +kernel)
set_option maxRecDepth 20000 in
theorem gX11_drawn_X8_scatter : GoodIn wsX11_drawn (wsV RX11 332 RX8 yX8_scatter wsX8_scatter) := goodIn_app (goodIn_of _ (by decide +kernel)) ggX11_drawn_X8_scatter
theorem dX11_drawn_0 : decode cX11_drawn 0 = .ok (.aload_n 0, 1) := by decide +kernel
theorem dX11_drawn_1 : decode cX11_drawn 1 = .ok (.invokevirtual 209, 3) := by decide +kernel
theorem dX11_drawn_4 : decode cX11_drawn 4 = .ok (.ifCond .eq 33, 3) := by decide +kernel
theorem dX11_drawn_7 : decode cX11_drawn 7 = .ok (.iload_n 1, 1) := by decide +kernel
theorem dX11_drawn_8 : decode cX11_drawn 8 = .ok (.iconst 1, 1) := by decide +kernel
theorem dX11_drawn_9 : decode cX11_drawn 9 = .ok (.if_icmp .lt 28, 3) := by decide +kernel
theorem dX11_drawn_12 : decode cX11_drawn 12 = .ok (.iload_n 1, 1) := by decide +kernel
theorem dX11_drawn_13 : decode cX11_drawn 13 = .ok (.bipush 20, 2) := by decide +kernel
theorem dX11_drawn_15 : decode cX11_drawn 15 = .ok (.if_icmp .gt 22, 3) := by decide +kernel
theorem dX11_drawn_18 : decode cX11_drawn 18 = .ok (.iload_n 2, 1) := by decide +kernel
theorem dX11_drawn_19 : decode cX11_drawn 19 = .ok (.ifCond .lt 18, 3) := by decide +kernel
theorem dX11_drawn_22 : decode cX11_drawn 22 = .ok (.iload_n 2, 1) := by decide +kernel
theorem dX11_drawn_23 : decode cX11_drawn 23 = .ok (.bipush 100, 2) := by decide +kernel
theorem dX11_drawn_25 : decode cX11_drawn 25 = .ok (.if_icmp .gt 12, 3) := by decide +kernel
theorem dX11_drawn_28 : decode cX11_drawn 28 = .ok (.iload_n 3, 1) := by decide +kernel
theorem dX11_drawn_29 : decode cX11_drawn 29 = .ok (.ifCond .lt 8, 3) := by decide +kernel
theorem dX11_drawn_32 : decode cX11_drawn 32 = .ok (.iload_n 3, 1) := by decide +kernel
theorem dX11_drawn_33 : decode cX11_drawn 33 = .ok (.iconst 2, 1) := by decide +kernel
theorem dX11_drawn_34 : decode cX11_drawn 34 = .ok (.if_icmp .le 6, 3) := by decide +kernel
theorem dX11_drawn_37 : decode cX11_drawn 37 = .ok (.ldc 194, 2) := by decide +kernel
theorem dX11_drawn_39 : decode cX11_drawn 39 = .ok (.ireturn, 1) := by decide +kernel
theorem dX11_drawn_40 : decode cX11_drawn 40 = .ok (.aload_n 0, 1) := by decide +kernel
theorem dX11_drawn_41 : decode cX11_drawn 41 = .ok (.invokevirtual 174, 3) := by decide +kernel
theorem dX11_drawn_44 : decode cX11_drawn 44 = .ok (.aload_n 0, 1) := by decide +kernel
theorem dX11_drawn_45 : decode cX11_drawn 45 = .ok (.getfield 45, 3) := by decide +kernel
theorem dX11_drawn_48 : decode cX11_drawn 48 = .ok (.getfield 116, 3) := by decide +kernel
theorem dX11_drawn_51 : decode cX11_drawn 51 = .ok (.invokevirtual 198, 3) := by decide +kernel
theorem dX11_drawn_54 : decode cX11_drawn 54 = .ok (.istore 4, 2) := by decide +kernel
theorem dX11_drawn_56 : decode cX11_drawn 56 = .ok (.aload_n 0, 1) := by decide +kernel
theorem dX11_drawn_57 : decode cX11_drawn 57 = .ok (.getfield 45, 3) := by decide +kernel
theorem dX11_drawn_60 : decode cX11_drawn 60 = .ok (.getfield 329, 3) := by decide +kernel
theorem dX11_drawn_63 : decode cX11_drawn 63 = .ok (.istore 5, 2) := by decide +kernel
theorem dX11_drawn_65 : decode cX11_drawn 65 = .ok (.iconst 0, 1) := by decide +kernel
theorem dX11_drawn_66 : decode cX11_drawn 66 = .ok (.istore 6, 2) := by decide +kernel
theorem dX11_drawn_68 : decode cX11_drawn 68 = .ok (.iconst 0, 1) := by decide +kernel
theorem dX11_drawn_69 : decode cX11_drawn 69 = .ok (.istore 7, 2) := by decide +kernel
theorem dX11_drawn_71 : decode cX11_drawn 71 = .ok (.iconst 0, 1) := by decide +kernel
theorem dX11_drawn_72 : decode cX11_drawn 72 = .ok (.istore 8, 2) := by decide +kernel
theorem dX11_drawn_74 : decode cX11_drawn 74 = .ok (.iconst 0, 1) := by decide +kernel
theorem dX11_drawn_75 : decode cX11_drawn 75 = .ok (.istore 9, 2) := by decide +kernel
theorem dX11_drawn_77 : decode cX11_drawn 77 = .ok (.iload 9, 2) := by decide +kernel
theorem dX11_drawn_79 : decode cX11_drawn 79 = .ok (.iload_n 1, 1) := by decide +kernel
theorem dX11_drawn_80 : decode cX11_drawn 80 = .ok (.if_icmp .ge 81, 3) := by decide +kernel
theorem dX11_drawn_83 : decode cX11_drawn 83 = .ok (.aload_n 0, 1) := by decide +kernel
theorem dX11_drawn_84 : decode cX11_drawn 84 = .ok (.getfield 56, 3) := by decide +kernel
theorem dX11_drawn_87 : decode cX11_drawn 87 = .ok (.aload_n 0, 1) := by decide +kernel
theorem dX11_drawn_88 : decode cX11_drawn 88 = .ok (.getfield 45, 3) := by decide +kernel
theorem dX11_drawn_91 : decode cX11_drawn 91 = .ok (.getfield 116, 3) := by decide +kernel
theorem dX11_drawn_94 : decode cX11_drawn 94 = .ok (.invokevirtual 290, 3) := by decide +kernel
theorem dX11_drawn_97 : decode cX11_drawn 97 = .ok (.aload_n 0, 1) := by decide +kernel
theorem dX11_drawn_98 : decode cX11_drawn 98 = .ok (.getfield 56, 3) := by decide +kernel
theorem dX11_drawn_101 : decode cX11_drawn 101 = .ok (.iload 5, 2) := by decide +kernel
theorem dX11_drawn_103 : decode cX11_drawn 103 = .ok (.iload_n 2, 1) := by decide +kernel
theorem dX11_drawn_104 : decode cX11_drawn 104 = .ok (.invokevirtual 332, 3) := by decide +kernel
theorem dX11_drawn_107 : decode cX11_drawn 107 = .ok (.istore 5, 2) := by decide +kernel
theorem dX11_drawn_109 : decode cX11_drawn 109 = .ok (.aload_n 0, 1) := by decide +kernel
theorem dX11_drawn_110 : decode cX11_drawn 110 = .ok (.invokevirtual 174, 3) := by decide +kernel
theorem dX11_drawn_113 : decode cX11_drawn 113 = .ok (.aload_n 0, 1) := by decide +kernel
theorem dX11_drawn_114 : decode cX11_drawn 114 = .ok (.getfield 56, 3) := by decide +kernel
theorem dX11_drawn_117 : decode cX11_drawn 117 = .ok (.invokevirtual 198, 3) := by decide +kernel
theorem dX11_drawn_120 : decode cX11_drawn 120 = .ok (.istore 10, 2) := by decide +kernel
theorem dX11_drawn_122 : decode cX11_drawn 122 = .ok (.iload 6, 2) := by decide +kernel
theorem dX11_drawn_124 : decode cX11_drawn 124 = .ok (.iload 10, 2) := by decide +kernel
theorem dX11_drawn_126 : decode cX11_drawn 126 = .ok (.iadd, 1) := by decide +kernel
theorem dX11_drawn_127 : decode cX11_drawn 127 = .ok (.istore 6, 2) := by decide +kernel
theorem dX11_drawn_129 : decode cX11_drawn 129 = .ok (.iload 7, 2) := by decide +kernel
theorem dX11_drawn_131 : decode cX11_drawn 131 = .ok (.iload 10, 2) := by decide +kernel
theorem dX11_drawn_133 : decode cX11_drawn 133 = .ok (.iconst 1, 1) := by decide +kernel
theorem dX11_drawn_134 : decode cX11_drawn 134 = .ok (.iand, 1) := by decide +kernel
theorem dX11_drawn_135 : decode cX11_drawn 135 = .ok (.iadd, 1) := by decide +kernel
theorem dX11_drawn_136 : decode cX11_drawn 136 = .ok (.istore 7, 2) := by decide +kernel
theorem dX11_drawn_138 : decode cX11_drawn 138 = .ok (.iload 8, 2) := by decide +kernel
