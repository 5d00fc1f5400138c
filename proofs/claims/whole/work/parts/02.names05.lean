theorem dX6_loose_36 : decode cX6_loose 36 = .ok (.iconst 0, 1) := by decide +kernel
theorem dX6_loose_37 : decode cX6_loose 37 = .ok (.iadd, 1) := by decide +kernel
theorem dX6_loose_38 : decode cX6_loose 38 = .ok (.istore_n 2, 1) := by decide +kernel
theorem dX6_loose_39 : decode cX6_loose 39 = .ok (.iinc 3 1, 3) := by decide +kernel
theorem dX6_loose_42 : decode cX6_loose 42 = .ok (.goto (-38), 3) := by decide +kernel
theorem dX6_loose_45 : decode cX6_loose 45 = .ok (.iload_n 2, 1) := by decide +kernel
theorem dX6_loose_46 : decode cX6_loose 46 = .ok (.ireturn, 1) := by decide +kernel
theorem dX6_placeOf_0 : decode cX6_placeOf 0 = .ok (.iload_n 1, 1) := by decide +kernel
theorem dX6_placeOf_1 : decode cX6_placeOf 1 = .ok (.iconst (-1), 1) := by decide +kernel
theorem dX6_placeOf_2 : decode cX6_placeOf 2 = .ok (.if_icmp .ne 7, 3) := by decide +kernel
theorem dX6_placeOf_5 : decode cX6_placeOf 5 = .ok (.iconst 0, 1) := by decide +kernel
theorem dX6_placeOf_6 : decode cX6_placeOf 6 = .ok (.goto 9, 3) := by decide +kernel
theorem dX6_placeOf_9 : decode cX6_placeOf 9 = .ok (.aload_n 0, 1) := by decide +kernel
theorem dX6_placeOf_10 : decode cX6_placeOf 10 = .ok (.getfield 28, 3) := by decide +kernel
theorem dX6_placeOf_13 : decode cX6_placeOf 13 = .ok (.iload_n 1, 1) := by decide +kernel
theorem dX6_placeOf_14 : decode cX6_placeOf 14 = .ok (.iaload, 1) := by decide +kernel
theorem dX6_placeOf_15 : decode cX6_placeOf 15 = .ok (.ireturn, 1) := by decide +kernel
set_option maxRecDepth 20000 in
theorem ggX6_crosses_X6_placeOf : GoodIn wsX6_crosses wsX6_placeOf := goodIn_r _ [15, 16, 17, 18, 19, 20, 21, 22, 23, 24, 25, 26, 27, 28, 29, 30, 31, 32, 33, 34, 35, 36, 37, 38, 39, 40, 41] (by decide +kernel) (by decide +kernel)
set_option maxRecDepth 20000 in
theorem gX6_crosses_X6_placeOf : GoodIn wsX6_crosses (wsV RX6 106 RX6 yX6_placeOf wsX6_placeOf) := goodIn_app (goodIn_of _ (by decide +kernel)) ggX6_crosses_X6_placeOf
theorem dX6_crosses_0 : decode cX6_crosses 0 = .ok (.iload_n 1, 1) := by decide +kernel
theorem dX6_crosses_1 : decode cX6_crosses 1 = .ok (.iload_n 2, 1) := by decide +kernel
theorem dX6_crosses_2 : decode cX6_crosses 2 = .ok (.if_icmp .eq 23, 3) := by decide +kernel
theorem dX6_crosses_5 : decode cX6_crosses 5 = .ok (.aload_n 0, 1) := by decide +kernel
theorem dX6_crosses_6 : decode cX6_crosses 6 = .ok (.getfield 50, 3) := by decide +kernel
theorem dX6_crosses_9 : decode cX6_crosses 9 = .ok (.iload_n 1, 1) := by decide +kernel
theorem dX6_crosses_10 : decode cX6_crosses 10 = .ok (.iaload, 1) := by decide +kernel
theorem dX6_crosses_11 : decode cX6_crosses 11 = .ok (.iconst 2, 1) := by decide +kernel
theorem dX6_crosses_12 : decode cX6_crosses 12 = .ok (.if_icmp .eq 13, 3) := by decide +kernel
theorem dX6_crosses_15 : decode cX6_crosses 15 = .ok (.aload_n 0, 1) := by decide +kernel
theorem dX6_crosses_16 : decode cX6_crosses 16 = .ok (.getfield 50, 3) := by decide +kernel
theorem dX6_crosses_19 : decode cX6_crosses 19 = .ok (.iload_n 2, 1) := by decide +kernel
theorem dX6_crosses_20 : decode cX6_crosses 20 = .ok (.iaload, 1) := by decide +kernel
theorem dX6_crosses_21 : decode cX6_crosses 21 = .ok (.iconst 2, 1) := by decide +kernel
theorem dX6_crosses_22 : decode cX6_crosses 22 = .ok (.if_icmp .ne 5, 3) := by decide +kernel
theorem dX6_crosses_25 : decode cX6_crosses 25 = .ok (.iconst 0, 1) := by decide +kernel
theorem dX6_crosses_26 : decode cX6_crosses 26 = .ok (.ireturn, 1) := by decide +kernel
theorem dX6_crosses_27 : decode cX6_crosses 27 = .ok (.aload_n 0, 1) := by decide +kernel
theorem dX6_crosses_28 : decode cX6_crosses 28 = .ok (.aload_n 0, 1) := by decide +kernel
theorem dX6_crosses_29 : decode cX6_crosses 29 = .ok (.getfield 41, 3) := by decide +kernel
theorem dX6_crosses_32 : decode cX6_crosses 32 = .ok (.iload_n 1, 1) := by decide +kernel
theorem dX6_crosses_33 : decode cX6_crosses 33 = .ok (.iaload, 1) := by decide +kernel
theorem dX6_crosses_34 : decode cX6_crosses 34 = .ok (.invokevirtual 106, 3) := by decide +kernel
theorem dX6_crosses_37 : decode cX6_crosses 37 = .ok (.aload_n 0, 1) := by decide +kernel
theorem dX6_crosses_38 : decode cX6_crosses 38 = .ok (.aload_n 0, 1) := by decide +kernel
theorem dX6_crosses_39 : decode cX6_crosses 39 = .ok (.getfield 44, 3) := by decide +kernel
theorem dX6_crosses_42 : decode cX6_crosses 42 = .ok (.iload_n 1, 1) := by decide +kernel
theorem dX6_crosses_43 : decode cX6_crosses 43 = .ok (.iaload, 1) := by decide +kernel
theorem dX6_crosses_44 : decode cX6_crosses 44 = .ok (.invokevirtual 106, 3) := by decide +kernel
theorem dX6_crosses_47 : decode cX6_crosses 47 = .ok (.invokestatic 109, 3) := by decide +kernel
theorem dX6_crosses_50 : decode cX6_crosses 50 = .ok (.aload_n 0, 1) := by decide +kernel
theorem dX6_crosses_51 : decode cX6_crosses 51 = .ok (.aload_n 0, 1) := by decide +kernel
theorem dX6_crosses_52 : decode cX6_crosses 52 = .ok (.getfield 41, 3) := by decide +kernel
theorem dX6_crosses_55 : decode cX6_crosses 55 = .ok (.iload_n 2, 1) := by decide +kernel
theorem dX6_crosses_56 : decode cX6_crosses 56 = .ok (.iaload, 1) := by decide +kernel
theorem dX6_crosses_57 : decode cX6_crosses 57 = .ok (.invokevirtual 106, 3) := by decide +kernel
theorem dX6_crosses_60 : decode cX6_crosses 60 = .ok (.aload_n 0, 1) := by decide +kernel
theorem dX6_crosses_61 : decode cX6_crosses 61 = .ok (.aload_n 0, 1) := by decide +kernel
theorem dX6_crosses_62 : decode cX6_crosses 62 = .ok (.getfield 44, 3) := by decide +kernel
theorem dX6_crosses_65 : decode cX6_crosses 65 = .ok (.iload_n 2, 1) := by decide +kernel
theorem dX6_crosses_66 : decode cX6_crosses 66 = .ok (.iaload, 1) := by decide +kernel
theorem dX6_crosses_67 : decode cX6_crosses 67 = .ok (.invokevirtual 106, 3) := by decide +kernel
theorem dX6_crosses_70 : decode cX6_crosses 70 = .ok (.invokestatic 109, 3) := by decide +kernel
theorem dX6_crosses_73 : decode cX6_crosses 73 = .ok (.invokestatic 83, 3) := by decide +kernel
theorem dX6_crosses_76 : decode cX6_crosses 76 = .ok (.istore_n 3, 1) := by decide +kernel
theorem dX6_crosses_77 : decode cX6_crosses 77 = .ok (.aload_n 0, 1) := by decide +kernel
theorem dX6_crosses_78 : decode cX6_crosses 78 = .ok (.aload_n 0, 1) := by decide +kernel
theorem dX6_crosses_79 : decode cX6_crosses 79 = .ok (.getfield 41, 3) := by decide +kernel
theorem dX6_crosses_82 : decode cX6_crosses 82 = .ok (.iload_n 1, 1) := by decide +kernel
theorem dX6_crosses_83 : decode cX6_crosses 83 = .ok (.iaload, 1) := by decide +kernel
theorem dX6_crosses_84 : decode cX6_crosses 84 = .ok (.invokevirtual 106, 3) := by decide +kernel
theorem dX6_crosses_87 : decode cX6_crosses 87 = .ok (.aload_n 0, 1) := by decide +kernel
theorem dX6_crosses_88 : decode cX6_crosses 88 = .ok (.aload_n 0, 1) := by decide +kernel
theorem dX6_crosses_89 : decode cX6_crosses 89 = .ok (.getfield 44, 3) := by decide +kernel
theorem dX6_crosses_92 : decode cX6_crosses 92 = .ok (.iload_n 1, 1) := by decide +kernel
theorem dX6_crosses_93 : decode cX6_crosses 93 = .ok (.iaload, 1) := by decide +kernel
theorem dX6_crosses_94 : decode cX6_crosses 94 = .ok (.invokevirtual 106, 3) := by decide +kernel
theorem dX6_crosses_97 : decode cX6_crosses 97 = .ok (.invokestatic 83, 3) := by decide +kernel
theorem dX6_crosses_100 : decode cX6_crosses 100 = .ok (.aload_n 0, 1) := by decide +kernel
theorem dX6_crosses_101 : decode cX6_crosses 101 = .ok (.aload_n 0, 1) := by decide +kernel
theorem dX6_crosses_102 : decode cX6_crosses 102 = .ok (.getfield 41, 3) := by decide +kernel
theorem dX6_crosses_105 : decode cX6_crosses 105 = .ok (.iload_n 2, 1) := by decide +kernel
theorem dX6_crosses_106 : decode cX6_crosses 106 = .ok (.iaload, 1) := by decide +kernel
theorem dX6_crosses_107 : decode cX6_crosses 107 = .ok (.invokevirtual 106, 3) := by decide +kernel
theorem dX6_crosses_110 : decode cX6_crosses 110 = .ok (.aload_n 0, 1) := by decide +kernel
theorem dX6_crosses_111 : decode cX6_crosses 111 = .ok (.aload_n 0, 1) := by decide +kernel
theorem dX6_crosses_112 : decode cX6_crosses 112 = .ok (.getfield 44, 3) := by decide +kernel
theorem dX6_crosses_115 : decode cX6_crosses 115 = .ok (.iload_n 2, 1) := by decide +kernel
theorem dX6_crosses_116 : decode cX6_crosses 116 = .ok (.iaload, 1) := by decide +kernel
theorem dX6_crosses_117 : decode cX6_crosses 117 = .ok (.invokevirtual 106, 3) := by decide +kernel
theorem dX6_crosses_120 : decode cX6_crosses 120 = .ok (.invokestatic 83, 3) := by decide +kernel
theorem dX6_crosses_123 : decode cX6_crosses 123 = .ok (.invokestatic 109, 3) := by decide +kernel
theorem dX6_crosses_126 : decode cX6_crosses 126 = .ok (.istore 4, 2) := by decide +kernel
theorem dX6_crosses_128 : decode cX6_crosses 128 = .ok (.iload_n 3, 1) := by decide +kernel
theorem dX6_crosses_129 : decode cX6_crosses 129 = .ok (.iload 4, 2) := by decide +kernel
theorem dX6_crosses_131 : decode cX6_crosses 131 = .ok (.if_icmp .ge 7, 3) := by decide +kernel
theorem dX6_crosses_134 : decode cX6_crosses 134 = .ok (.iconst 1, 1) := by decide +kernel
theorem dX6_crosses_135 : decode cX6_crosses 135 = .ok (.goto 4, 3) := by decide +kernel
theorem dX6_crosses_138 : decode cX6_crosses 138 = .ok (.iconst 0, 1) := by decide +kernel
theorem dX6_crosses_139 : decode cX6_crosses 139 = .ok (.ireturn, 1) := by decide +kernel
set_option maxRecDepth 20000 in
theorem ggX6_behind_X6_lean : GoodIn wsX6_behind wsX6_lean := goodIn_r _ [10, 11, 12, 9, 13] (by decide +kernel) (by decide +kernel)
set_option maxRecDepth 20000 in
theorem gX6_behind_X6_lean : GoodIn wsX6_behind (va_wsS RX6 76 yX6_lean wsX6_lean) := goodIn_app (goodIn_of _ (by decide +kernel)) ggX6_behind_X6_lean
set_option maxRecDepth 20000 in
theorem ggX6_behind_X6_isHeld : GoodIn wsX6_behind wsX6_isHeld := goodIn_r _ [17, 2, 1, 3, 65, 66, 67, 68, 69, 70, 71, 72, 73, 74, 75, 76, 77, 78, 79, 80, 81, 82, 83, 84, 85, 86, 87, 88, 89] (by decide +kernel) (by decide +kernel)
set_option maxRecDepth 20000 in
theorem gX6_behind_X6_isHeld : GoodIn wsX6_behind (wsV RX6 112 RX6 yX6_isHeld wsX6_isHeld) := goodIn_app (goodIn_of _ (by decide +kernel)) ggX6_behind_X6_isHeld
set_option maxRecDepth 20000 in
theorem ggX6_behind_X6_crosses : GoodIn wsX6_behind wsX6_crosses := goodIn_r _ [21, 3, 1, 22, 23, 24, 25, 26, 27, 28, 29, 30, 31, 32, 9, 33, 34, 65, 66, 67, 68, 69, 70, 71, 72, 73, 74, 75, 76, 77, 78, 79, 80, 81, 82, 83, 84, 85, 86, 87, 88, 89] (by decide +kernel) (by decide +kernel)
set_option maxRecDepth 20000 in
theorem gX6_behind_X6_crosses : GoodIn wsX6_behind (wsV RX6 116 RX6 yX6_crosses wsX6_crosses) := goodIn_app (goodIn_of _ (by decide +kernel)) ggX6_behind_X6_crosses
set_option maxRecDepth 20000 in
theorem ggX6_behind_X6_unit : GoodIn wsX6_behind wsX6_unit := goodIn_r _ [13] (by decide +kernel) (by decide +kernel)
set_option maxRecDepth 20000 in
theorem gX6_behind_X6_unit : GoodIn wsX6_behind (va_wsS RX6 72 yX6_unit wsX6_unit) := goodIn_app (goodIn_of _ (by decide +kernel)) ggX6_behind_X6_unit
set_option maxRecDepth 20000 in
theorem ggX6_behind_X6_leads : GoodIn wsX6_behind wsX6_leads := goodIn_r _ [38, 2, 1, 22, 3, 65, 66, 67, 68, 69, 70, 71, 72, 73, 74, 75, 76, 77, 78, 79, 80, 81, 82, 83, 84, 85, 86, 87, 88, 89] (by decide +kernel) (by decide +kernel)
set_option maxRecDepth 20000 in
theorem gX6_behind_X6_leads : GoodIn wsX6_behind (wsV RX6 120 RX6 yX6_leads wsX6_leads) := goodIn_app (goodIn_of _ (by decide +kernel)) ggX6_behind_X6_leads
set_option maxRecDepth 20000 in
theorem ggX6_behind_X6_fits : GoodIn wsX6_behind wsX6_fits := goodIn_r _ [42, 43, 44, 45, 46, 47, 48, 9, 49, 50, 5, 34, 27, 28, 25, 29, 51, 52, 53, 54, 55, 7, 8, 10, 11, 12, 13, 56, 57, 58, 59, 60, 61, 62, 63, 64, 65, 66, 67, 68, 69, 70, 71, 72, 73, 74, 75, 76, 77, 78, 79, 80, 81, 82, 83, 84, 85, 86, 87, 88, 89] (by decide +kernel) (by decide +kernel)
set_option maxRecDepth 20000 in
theorem gX6_behind_X6_fits : GoodIn wsX6_behind (wsV RX6 127 RX6 yX6_fits wsX6_fits) := goodIn_app (goodIn_of _ (by decide +kernel)) ggX6_behind_X6_fits
theorem dX6_behind_0 : decode cX6_behind 0 = .ok (.aload_n 0, 1) := by decide +kernel
theorem dX6_behind_1 : decode cX6_behind 1 = .ok (.getfield 41, 3) := by decide +kernel
theorem dX6_behind_4 : decode cX6_behind 4 = .ok (.iload_n 2, 1) := by decide +kernel
theorem dX6_behind_5 : decode cX6_behind 5 = .ok (.iaload, 1) := by decide +kernel
theorem dX6_behind_6 : decode cX6_behind 6 = .ok (.istore_n 3, 1) := by decide +kernel
theorem dX6_behind_7 : decode cX6_behind 7 = .ok (.iload_n 1, 1) := by decide +kernel
theorem dX6_behind_8 : decode cX6_behind 8 = .ok (.iload_n 3, 1) := by decide +kernel
theorem dX6_behind_9 : decode cX6_behind 9 = .ok (.invokestatic 76, 3) := by decide +kernel
theorem dX6_behind_12 : decode cX6_behind 12 = .ok (.ifCond .eq 11, 3) := by decide +kernel
theorem dX6_behind_15 : decode cX6_behind 15 = .ok (.aload_n 0, 1) := by decide +kernel
theorem dX6_behind_16 : decode cX6_behind 16 = .ok (.iload_n 3, 1) := by decide +kernel
theorem dX6_behind_17 : decode cX6_behind 17 = .ok (.invokevirtual 112, 3) := by decide +kernel
theorem dX6_behind_20 : decode cX6_behind 20 = .ok (.ifCond .eq 5, 3) := by decide +kernel
theorem dX6_behind_23 : decode cX6_behind 23 = .ok (.iconst (-1), 1) := by decide +kernel
theorem dX6_behind_24 : decode cX6_behind 24 = .ok (.ireturn, 1) := by decide +kernel
theorem dX6_behind_25 : decode cX6_behind 25 = .ok (.iconst 0, 1) := by decide +kernel
theorem dX6_behind_26 : decode cX6_behind 26 = .ok (.istore 4, 2) := by decide +kernel
theorem dX6_behind_28 : decode cX6_behind 28 = .ok (.iload 4, 2) := by decide +kernel
theorem dX6_behind_30 : decode cX6_behind 30 = .ok (.aload_n 0, 1) := by decide +kernel
theorem dX6_behind_31 : decode cX6_behind 31 = .ok (.getfield 69, 3) := by decide +kernel
theorem dX6_behind_34 : decode cX6_behind 34 = .ok (.if_icmp .ge 48, 3) := by decide +kernel
theorem dX6_behind_37 : decode cX6_behind 37 = .ok (.aload_n 0, 1) := by decide +kernel
theorem dX6_behind_38 : decode cX6_behind 38 = .ok (.getfield 50, 3) := by decide +kernel
theorem dX6_behind_41 : decode cX6_behind 41 = .ok (.iload 4, 2) := by decide +kernel
theorem dX6_behind_43 : decode cX6_behind 43 = .ok (.iaload, 1) := by decide +kernel
theorem dX6_behind_44 : decode cX6_behind 44 = .ok (.ifCond .ne 32, 3) := by decide +kernel
theorem dX6_behind_47 : decode cX6_behind 47 = .ok (.aload_n 0, 1) := by decide +kernel
theorem dX6_behind_48 : decode cX6_behind 48 = .ok (.getfield 47, 3) := by decide +kernel
theorem dX6_behind_51 : decode cX6_behind 51 = .ok (.iload 4, 2) := by decide +kernel
theorem dX6_behind_53 : decode cX6_behind 53 = .ok (.iaload, 1) := by decide +kernel
theorem dX6_behind_54 : decode cX6_behind 54 = .ok (.aload_n 0, 1) := by decide +kernel
theorem dX6_behind_55 : decode cX6_behind 55 = .ok (.getfield 47, 3) := by decide +kernel
theorem dX6_behind_58 : decode cX6_behind 58 = .ok (.iload_n 2, 1) := by decide +kernel
theorem dX6_behind_59 : decode cX6_behind 59 = .ok (.iaload, 1) := by decide +kernel
theorem dX6_behind_60 : decode cX6_behind 60 = .ok (.if_icmp .le 16, 3) := by decide +kernel
theorem dX6_behind_63 : decode cX6_behind 63 = .ok (.aload_n 0, 1) := by decide +kernel
theorem dX6_behind_64 : decode cX6_behind 64 = .ok (.iload_n 2, 1) := by decide +kernel
theorem dX6_behind_65 : decode cX6_behind 65 = .ok (.iload 4, 2) := by decide +kernel
theorem dX6_behind_67 : decode cX6_behind 67 = .ok (.invokevirtual 116, 3) := by decide +kernel
theorem dX6_behind_70 : decode cX6_behind 70 = .ok (.ifCond .eq 6, 3) := by decide +kernel
theorem dX6_behind_73 : decode cX6_behind 73 = .ok (.bipush (-2), 2) := by decide +kernel
theorem dX6_behind_75 : decode cX6_behind 75 = .ok (.ireturn, 1) := by decide +kernel
theorem dX6_behind_76 : decode cX6_behind 76 = .ok (.iinc 4 1, 3) := by decide +kernel
theorem dX6_behind_79 : decode cX6_behind 79 = .ok (.goto (-51), 3) := by decide +kernel
theorem dX6_behind_82 : decode cX6_behind 82 = .ok (.iload_n 1, 1) := by decide +kernel
theorem dX6_behind_83 : decode cX6_behind 83 = .ok (.iload_n 3, 1) := by decide +kernel
theorem dX6_behind_84 : decode cX6_behind 84 = .ok (.invokestatic 72, 3) := by decide +kernel
theorem dX6_behind_87 : decode cX6_behind 87 = .ok (.isub, 1) := by decide +kernel
theorem dX6_behind_88 : decode cX6_behind 88 = .ok (.istore 4, 2) := by decide +kernel
theorem dX6_behind_90 : decode cX6_behind 90 = .ok (.iconst 0, 1) := by decide +kernel
theorem dX6_behind_91 : decode cX6_behind 91 = .ok (.istore 5, 2) := by decide +kernel
theorem dX6_behind_93 : decode cX6_behind 93 = .ok (.iload 5, 2) := by decide +kernel
theorem dX6_behind_95 : decode cX6_behind 95 = .ok (.aload_n 0, 1) := by decide +kernel
theorem dX6_behind_96 : decode cX6_behind 96 = .ok (.getfield 62, 3) := by decide +kernel
theorem dX6_behind_99 : decode cX6_behind 99 = .ok (.if_icmp .ge 55, 3) := by decide +kernel
theorem dX6_behind_102 : decode cX6_behind 102 = .ok (.iload 5, 2) := by decide +kernel
theorem dX6_behind_104 : decode cX6_behind 104 = .ok (.iload_n 3, 1) := by decide +kernel
theorem dX6_behind_105 : decode cX6_behind 105 = .ok (.if_icmp .eq 43, 3) := by decide +kernel
theorem dX6_behind_108 : decode cX6_behind 108 = .ok (.iload_n 1, 1) := by decide +kernel
theorem dX6_behind_109 : decode cX6_behind 109 = .ok (.iload 5, 2) := by decide +kernel
theorem dX6_behind_111 : decode cX6_behind 111 = .ok (.invokestatic 76, 3) := by decide +kernel
theorem dX6_behind_114 : decode cX6_behind 114 = .ok (.bipush 9, 2) := by decide +kernel
theorem dX6_behind_116 : decode cX6_behind 116 = .ok (.if_icmp .ge 32, 3) := by decide +kernel
theorem dX6_behind_119 : decode cX6_behind 119 = .ok (.aload_n 0, 1) := by decide +kernel
theorem dX6_behind_120 : decode cX6_behind 120 = .ok (.iload 5, 2) := by decide +kernel
theorem dX6_behind_122 : decode cX6_behind 122 = .ok (.invokevirtual 112, 3) := by decide +kernel
theorem dX6_behind_125 : decode cX6_behind 125 = .ok (.ifCond .ne 23, 3) := by decide +kernel
theorem dX6_behind_128 : decode cX6_behind 128 = .ok (.aload_n 0, 1) := by decide +kernel
theorem dX6_behind_129 : decode cX6_behind 129 = .ok (.iload_n 3, 1) := by decide +kernel
theorem dX6_behind_130 : decode cX6_behind 130 = .ok (.iload 5, 2) := by decide +kernel
theorem dX6_behind_132 : decode cX6_behind 132 = .ok (.invokevirtual 120, 3) := by decide +kernel
theorem dX6_behind_135 : decode cX6_behind 135 = .ok (.ifCond .eq 13, 3) := by decide +kernel
theorem dX6_behind_138 : decode cX6_behind 138 = .ok (.iload 4, 2) := by decide +kernel
theorem dX6_behind_140 : decode cX6_behind 140 = .ok (.iload 5, 2) := by decide +kernel
theorem dX6_behind_142 : decode cX6_behind 142 = .ok (.invokestatic 72, 3) := by decide +kernel
theorem dX6_behind_145 : decode cX6_behind 145 = .ok (.iadd, 1) := by decide +kernel
theorem dX6_behind_146 : decode cX6_behind 146 = .ok (.istore 4, 2) := by decide +kernel
theorem dX6_behind_148 : decode cX6_behind 148 = .ok (.iinc 5 1, 3) := by decide +kernel
theorem dX6_behind_151 : decode cX6_behind 151 = .ok (.goto (-58), 3) := by decide +kernel
theorem dX6_behind_154 : decode cX6_behind 154 = .ok (.aload_n 0, 1) := by decide +kernel
theorem dX6_behind_155 : decode cX6_behind 155 = .ok (.getfield 123, 3) := by decide +kernel
theorem dX6_behind_158 : decode cX6_behind 158 = .ok (.ifCond .eq 17, 3) := by decide +kernel
theorem dX6_behind_161 : decode cX6_behind 161 = .ok (.aload_n 0, 1) := by decide +kernel
theorem dX6_behind_162 : decode cX6_behind 162 = .ok (.iload 4, 2) := by decide +kernel
theorem dX6_behind_164 : decode cX6_behind 164 = .ok (.invokevirtual 127, 3) := by decide +kernel
theorem dX6_behind_167 : decode cX6_behind 167 = .ok (.ifCond .ne 8, 3) := by decide +kernel
theorem dX6_behind_170 : decode cX6_behind 170 = .ok (.bipush (-3), 2) := by decide +kernel
theorem dX6_behind_172 : decode cX6_behind 172 = .ok (.goto 5, 3) := by decide +kernel
theorem dX6_behind_175 : decode cX6_behind 175 = .ok (.iload 4, 2) := by decide +kernel
theorem dX6_behind_177 : decode cX6_behind 177 = .ok (.ireturn, 1) := by decide +kernel
theorem dX6_leads_0 : decode cX6_leads 0 = .ok (.iconst 0, 1) := by decide +kernel
theorem dX6_leads_1 : decode cX6_leads 1 = .ok (.istore_n 3, 1) := by decide +kernel
theorem dX6_leads_2 : decode cX6_leads 2 = .ok (.iload_n 3, 1) := by decide +kernel
theorem dX6_leads_3 : decode cX6_leads 3 = .ok (.aload_n 0, 1) := by decide +kernel
theorem dX6_leads_4 : decode cX6_leads 4 = .ok (.getfield 69, 3) := by decide +kernel
theorem dX6_leads_7 : decode cX6_leads 7 = .ok (.if_icmp .ge 40, 3) := by decide +kernel
theorem dX6_leads_10 : decode cX6_leads 10 = .ok (.aload_n 0, 1) := by decide +kernel
theorem dX6_leads_11 : decode cX6_leads 11 = .ok (.getfield 41, 3) := by decide +kernel
theorem dX6_leads_14 : decode cX6_leads 14 = .ok (.iload_n 3, 1) := by decide +kernel
theorem dX6_leads_15 : decode cX6_leads 15 = .ok (.iaload, 1) := by decide +kernel
theorem dX6_leads_16 : decode cX6_leads 16 = .ok (.iload_n 1, 1) := by decide +kernel
theorem dX6_leads_17 : decode cX6_leads 17 = .ok (.if_icmp .ne 24, 3) := by decide +kernel
theorem dX6_leads_20 : decode cX6_leads 20 = .ok (.aload_n 0, 1) := by decide +kernel
theorem dX6_leads_21 : decode cX6_leads 21 = .ok (.getfield 44, 3) := by decide +kernel
theorem dX6_leads_24 : decode cX6_leads 24 = .ok (.iload_n 3, 1) := by decide +kernel
theorem dX6_leads_25 : decode cX6_leads 25 = .ok (.iaload, 1) := by decide +kernel
theorem dX6_leads_26 : decode cX6_leads 26 = .ok (.iload_n 2, 1) := by decide +kernel
theorem dX6_leads_27 : decode cX6_leads 27 = .ok (.if_icmp .ne 14, 3) := by decide +kernel
theorem dX6_leads_30 : decode cX6_leads 30 = .ok (.aload_n 0, 1) := by decide +kernel
theorem dX6_leads_31 : decode cX6_leads 31 = .ok (.getfield 50, 3) := by decide +kernel
theorem dX6_leads_34 : decode cX6_leads 34 = .ok (.iload_n 3, 1) := by decide +kernel
theorem dX6_leads_35 : decode cX6_leads 35 = .ok (.iaload, 1) := by decide +kernel
theorem dX6_leads_36 : decode cX6_leads 36 = .ok (.ifCond .ne 5, 3) := by decide +kernel
theorem dX6_leads_39 : decode cX6_leads 39 = .ok (.iconst 1, 1) := by decide +kernel
theorem dX6_leads_40 : decode cX6_leads 40 = .ok (.ireturn, 1) := by decide +kernel
theorem dX6_leads_41 : decode cX6_leads 41 = .ok (.iinc 3 1, 3) := by decide +kernel
theorem dX6_leads_44 : decode cX6_leads 44 = .ok (.goto (-42), 3) := by decide +kernel
theorem dX6_leads_47 : decode cX6_leads 47 = .ok (.iconst 0, 1) := by decide +kernel
theorem dX6_leads_48 : decode cX6_leads 48 = .ok (.ireturn, 1) := by decide +kernel
set_option maxRecDepth 20000 in
theorem ggX6_setBottle_X6_isBetween : GoodIn wsX6_setBottle wsX6_isBetween := goodIn_r _ [10] (by decide +kernel) (by decide +kernel)
set_option maxRecDepth 20000 in
theorem gX6_setBottle_X6_isBetween : GoodIn wsX6_setBottle (va_wsS RX6 65 yX6_isBetween wsX6_isBetween) := goodIn_app (goodIn_of _ (by decide +kernel)) ggX6_setBottle_X6_isBetween
set_option maxRecDepth 20000 in
theorem ggX6_setBottle_X6_no : GoodIn wsX6_setBottle wsX6_no := goodIn_r _ [14, 1, 15, 16, 17, 18, 19, 20, 21, 22, 23, 24, 25, 26, 27, 28, 29, 30, 31, 32, 33, 34, 35, 36, 37, 38, 39] (by decide +kernel) (by decide +kernel)
set_option maxRecDepth 20000 in
theorem gX6_setBottle_X6_no : GoodIn wsX6_setBottle (wsV RX6 130 RX6 yX6_no wsX6_no) := goodIn_app (goodIn_of _ (by decide +kernel)) ggX6_setBottle_X6_no
theorem dX6_setBottle_0 : decode cX6_setBottle 0 = .ok (.aload_n 0, 1) := by decide +kernel
theorem dX6_setBottle_1 : decode cX6_setBottle 1 = .ok (.iconst 0, 1) := by decide +kernel
theorem dX6_setBottle_2 : decode cX6_setBottle 2 = .ok (.putfield 59, 3) := by decide +kernel
theorem dX6_setBottle_5 : decode cX6_setBottle 5 = .ok (.iload_n 1, 1) := by decide +kernel
theorem dX6_setBottle_6 : decode cX6_setBottle 6 = .ok (.iconst 1, 1) := by decide +kernel
theorem dX6_setBottle_7 : decode cX6_setBottle 7 = .ok (.bipush 20, 2) := by decide +kernel
theorem dX6_setBottle_9 : decode cX6_setBottle 9 = .ok (.invokestatic 65, 3) := by decide +kernel
theorem dX6_setBottle_12 : decode cX6_setBottle 12 = .ok (.ifCond .eq 35, 3) := by decide +kernel
theorem dX6_setBottle_15 : decode cX6_setBottle 15 = .ok (.iload_n 2, 1) := by decide +kernel
theorem dX6_setBottle_16 : decode cX6_setBottle 16 = .ok (.iconst 5, 1) := by decide +kernel
theorem dX6_setBottle_17 : decode cX6_setBottle 17 = .ok (.bipush 60, 2) := by decide +kernel
theorem dX6_setBottle_19 : decode cX6_setBottle 19 = .ok (.invokestatic 65, 3) := by decide +kernel
theorem dX6_setBottle_22 : decode cX6_setBottle 22 = .ok (.ifCond .eq 25, 3) := by decide +kernel
theorem dX6_setBottle_25 : decode cX6_setBottle 25 = .ok (.iload_n 3, 1) := by decide +kernel
theorem dX6_setBottle_26 : decode cX6_setBottle 26 = .ok (.bipush 10, 2) := by decide +kernel
theorem dX6_setBottle_28 : decode cX6_setBottle 28 = .ok (.bipush 90, 2) := by decide +kernel
theorem dX6_setBottle_30 : decode cX6_setBottle 30 = .ok (.invokestatic 65, 3) := by decide +kernel
theorem dX6_setBottle_33 : decode cX6_setBottle 33 = .ok (.ifCond .eq 14, 3) := by decide +kernel
theorem dX6_setBottle_36 : decode cX6_setBottle 36 = .ok (.iload 4, 2) := by decide +kernel
theorem dX6_setBottle_38 : decode cX6_setBottle 38 = .ok (.iconst 0, 1) := by decide +kernel
theorem dX6_setBottle_39 : decode cX6_setBottle 39 = .ok (.bipush 20, 2) := by decide +kernel
theorem dX6_setBottle_41 : decode cX6_setBottle 41 = .ok (.invokestatic 65, 3) := by decide +kernel
theorem dX6_setBottle_44 : decode cX6_setBottle 44 = .ok (.ifCond .ne 9, 3) := by decide +kernel
theorem dX6_setBottle_47 : decode cX6_setBottle 47 = .ok (.aload_n 0, 1) := by decide +kernel
theorem dX6_setBottle_48 : decode cX6_setBottle 48 = .ok (.iconst 1, 1) := by decide +kernel
theorem dX6_setBottle_49 : decode cX6_setBottle 49 = .ok (.invokevirtual 130, 3) := by decide +kernel
theorem dX6_setBottle_52 : decode cX6_setBottle 52 = .ok (.ireturn, 1) := by decide +kernel
theorem dX6_setBottle_53 : decode cX6_setBottle 53 = .ok (.aload_n 0, 1) := by decide +kernel
theorem dX6_setBottle_54 : decode cX6_setBottle 54 = .ok (.getfield 123, 3) := by decide +kernel
theorem dX6_setBottle_57 : decode cX6_setBottle 57 = .ok (.ifCond .eq 9, 3) := by decide +kernel
theorem dX6_setBottle_60 : decode cX6_setBottle 60 = .ok (.aload_n 0, 1) := by decide +kernel
theorem dX6_setBottle_61 : decode cX6_setBottle 61 = .ok (.iconst 2, 1) := by decide +kernel
theorem dX6_setBottle_62 : decode cX6_setBottle 62 = .ok (.invokevirtual 130, 3) := by decide +kernel
theorem dX6_setBottle_65 : decode cX6_setBottle 65 = .ok (.ireturn, 1) := by decide +kernel
theorem dX6_setBottle_66 : decode cX6_setBottle 66 = .ok (.aload_n 0, 1) := by decide +kernel
theorem dX6_setBottle_67 : decode cX6_setBottle 67 = .ok (.getfield 7, 3) := by decide +kernel
theorem dX6_setBottle_70 : decode cX6_setBottle 70 = .ok (.istore 5, 2) := by decide +kernel
theorem dX6_setBottle_72 : decode cX6_setBottle 72 = .ok (.aload_n 0, 1) := by decide +kernel
theorem dX6_setBottle_73 : decode cX6_setBottle 73 = .ok (.iload_n 1, 1) := by decide +kernel
theorem dX6_setBottle_74 : decode cX6_setBottle 74 = .ok (.putfield 7, 3) := by decide +kernel
theorem dX6_setBottle_77 : decode cX6_setBottle 77 = .ok (.aload_n 0, 1) := by decide +kernel
theorem dX6_setBottle_78 : decode cX6_setBottle 78 = .ok (.iload_n 2, 1) := by decide +kernel
theorem dX6_setBottle_79 : decode cX6_setBottle 79 = .ok (.putfield 13, 3) := by decide +kernel
theorem dX6_setBottle_82 : decode cX6_setBottle 82 = .ok (.aload_n 0, 1) := by decide +kernel
theorem dX6_setBottle_83 : decode cX6_setBottle 83 = .ok (.iload_n 3, 1) := by decide +kernel
theorem dX6_setBottle_84 : decode cX6_setBottle 84 = .ok (.putfield 16, 3) := by decide +kernel
theorem dX6_setBottle_87 : decode cX6_setBottle 87 = .ok (.aload_n 0, 1) := by decide +kernel
theorem dX6_setBottle_88 : decode cX6_setBottle 88 = .ok (.iload 4, 2) := by decide +kernel
theorem dX6_setBottle_90 : decode cX6_setBottle 90 = .ok (.putfield 103, 3) := by decide +kernel
theorem dX6_setBottle_93 : decode cX6_setBottle 93 = .ok (.iload 5, 2) := by decide +kernel
theorem dX6_setBottle_95 : decode cX6_setBottle 95 = .ok (.ireturn, 1) := by decide +kernel
set_option maxRecDepth 20000 in
theorem ggX6_setHull_X6_isBetween : GoodIn wsX6_setHull wsX6_isBetween := goodIn_r _ [10] (by decide +kernel) (by decide +kernel)
set_option maxRecDepth 20000 in
theorem gX6_setHull_X6_isBetween : GoodIn wsX6_setHull (va_wsS RX6 65 yX6_isBetween wsX6_isBetween) := goodIn_app (goodIn_of _ (by decide +kernel)) ggX6_setHull_X6_isBetween
set_option maxRecDepth 20000 in
theorem ggX6_setHull_X6_no : GoodIn wsX6_setHull wsX6_no := goodIn_r _ [14, 1, 15, 16, 17, 18, 19, 20, 21, 22, 23, 24, 25, 26, 27, 28, 29, 30, 31, 32, 33, 34, 35, 36, 37, 38, 39] (by decide +kernel) (by decide +kernel)
set_option maxRecDepth 20000 in
theorem gX6_setHull_X6_no : GoodIn wsX6_setHull (wsV RX6 130 RX6 yX6_no wsX6_no) := goodIn_app (goodIn_of _ (by decide +kernel)) ggX6_setHull_X6_no
theorem dX6_setHull_0 : decode cX6_setHull 0 = .ok (.aload_n 0, 1) := by decide +kernel
theorem dX6_setHull_1 : decode cX6_setHull 1 = .ok (.iconst 0, 1) := by decide +kernel
theorem dX6_setHull_2 : decode cX6_setHull 2 = .ok (.putfield 59, 3) := by decide +kernel
theorem dX6_setHull_5 : decode cX6_setHull 5 = .ok (.iload_n 1, 1) := by decide +kernel
theorem dX6_setHull_6 : decode cX6_setHull 6 = .ok (.iconst 5, 1) := by decide +kernel
theorem dX6_setHull_7 : decode cX6_setHull 7 = .ok (.bipush 80, 2) := by decide +kernel
theorem dX6_setHull_9 : decode cX6_setHull 9 = .ok (.invokestatic 65, 3) := by decide +kernel
theorem dX6_setHull_12 : decode cX6_setHull 12 = .ok (.ifCond .eq 23, 3) := by decide +kernel
theorem dX6_setHull_15 : decode cX6_setHull 15 = .ok (.iload_n 2, 1) := by decide +kernel
theorem dX6_setHull_16 : decode cX6_setHull 16 = .ok (.iconst 1, 1) := by decide +kernel
theorem dX6_setHull_17 : decode cX6_setHull 17 = .ok (.bipush 15, 2) := by decide +kernel
theorem dX6_setHull_19 : decode cX6_setHull 19 = .ok (.invokestatic 65, 3) := by decide +kernel
theorem dX6_setHull_22 : decode cX6_setHull 22 = .ok (.ifCond .eq 13, 3) := by decide +kernel
theorem dX6_setHull_25 : decode cX6_setHull 25 = .ok (.iload_n 3, 1) := by decide +kernel
theorem dX6_setHull_26 : decode cX6_setHull 26 = .ok (.iconst 1, 1) := by decide +kernel
theorem dX6_setHull_27 : decode cX6_setHull 27 = .ok (.bipush 15, 2) := by decide +kernel
theorem dX6_setHull_29 : decode cX6_setHull 29 = .ok (.invokestatic 65, 3) := by decide +kernel
theorem dX6_setHull_32 : decode cX6_setHull 32 = .ok (.ifCond .ne 9, 3) := by decide +kernel
theorem dX6_setHull_35 : decode cX6_setHull 35 = .ok (.aload_n 0, 1) := by decide +kernel
theorem dX6_setHull_36 : decode cX6_setHull 36 = .ok (.iconst 1, 1) := by decide +kernel
theorem dX6_setHull_37 : decode cX6_setHull 37 = .ok (.invokevirtual 130, 3) := by decide +kernel
theorem dX6_setHull_40 : decode cX6_setHull 40 = .ok (.ireturn, 1) := by decide +kernel
theorem dX6_setHull_41 : decode cX6_setHull 41 = .ok (.aload_n 0, 1) := by decide +kernel
theorem dX6_setHull_42 : decode cX6_setHull 42 = .ok (.getfield 62, 3) := by decide +kernel
theorem dX6_setHull_45 : decode cX6_setHull 45 = .ok (.ifCond .gt 10, 3) := by decide +kernel
theorem dX6_setHull_48 : decode cX6_setHull 48 = .ok (.aload_n 0, 1) := by decide +kernel
theorem dX6_setHull_49 : decode cX6_setHull 49 = .ok (.getfield 123, 3) := by decide +kernel
theorem dX6_setHull_52 : decode cX6_setHull 52 = .ok (.ifCond .eq 9, 3) := by decide +kernel
theorem dX6_setHull_55 : decode cX6_setHull 55 = .ok (.aload_n 0, 1) := by decide +kernel
theorem dX6_setHull_56 : decode cX6_setHull 56 = .ok (.iconst 2, 1) := by decide +kernel
theorem dX6_setHull_57 : decode cX6_setHull 57 = .ok (.invokevirtual 130, 3) := by decide +kernel
theorem dX6_setHull_60 : decode cX6_setHull 60 = .ok (.ireturn, 1) := by decide +kernel
theorem dX6_setHull_61 : decode cX6_setHull 61 = .ok (.aload_n 0, 1) := by decide +kernel
theorem dX6_setHull_62 : decode cX6_setHull 62 = .ok (.getfield 19, 3) := by decide +kernel
theorem dX6_setHull_65 : decode cX6_setHull 65 = .ok (.istore 4, 2) := by decide +kernel
theorem dX6_setHull_67 : decode cX6_setHull 67 = .ok (.aload_n 0, 1) := by decide +kernel
theorem dX6_setHull_68 : decode cX6_setHull 68 = .ok (.iload_n 1, 1) := by decide +kernel
theorem dX6_setHull_69 : decode cX6_setHull 69 = .ok (.putfield 19, 3) := by decide +kernel
theorem dX6_setHull_72 : decode cX6_setHull 72 = .ok (.aload_n 0, 1) := by decide +kernel
theorem dX6_setHull_73 : decode cX6_setHull 73 = .ok (.iload_n 2, 1) := by decide +kernel
theorem dX6_setHull_74 : decode cX6_setHull 74 = .ok (.putfield 22, 3) := by decide +kernel
theorem dX6_setHull_77 : decode cX6_setHull 77 = .ok (.aload_n 0, 1) := by decide +kernel
theorem dX6_setHull_78 : decode cX6_setHull 78 = .ok (.iload_n 3, 1) := by decide +kernel
theorem dX6_setHull_79 : decode cX6_setHull 79 = .ok (.putfield 25, 3) := by decide +kernel
theorem dX6_setHull_82 : decode cX6_setHull 82 = .ok (.iload 4, 2) := by decide +kernel
theorem dX6_setHull_84 : decode cX6_setHull 84 = .ok (.ireturn, 1) := by decide +kernel
set_option maxRecDepth 20000 in
theorem ggX6_step_X6_isBetween : GoodIn wsX6_step wsX6_isBetween := goodIn_r _ [11] (by decide +kernel) (by decide +kernel)
set_option maxRecDepth 20000 in
theorem gX6_step_X6_isBetween : GoodIn wsX6_step (va_wsS RX6 65 yX6_isBetween wsX6_isBetween) := goodIn_app (goodIn_of _ (by decide +kernel)) ggX6_step_X6_isBetween
set_option maxRecDepth 20000 in
theorem ggX6_step_X6_no : GoodIn wsX6_step wsX6_no := goodIn_r _ [15, 1, 19, 20, 21, 22, 23, 24, 25, 26, 27, 28, 29, 30, 31, 32, 33, 34, 35, 36, 37, 38, 39, 40, 41, 42, 43] (by decide +kernel) (by decide +kernel)
set_option maxRecDepth 20000 in
theorem gX6_step_X6_no : GoodIn wsX6_step (wsV RX6 130 RX6 yX6_no wsX6_no) := goodIn_app (goodIn_of _ (by decide +kernel)) ggX6_step_X6_no
set_option maxRecDepth 20000 in
theorem ggX6_step_X6_unit : GoodIn wsX6_step wsX6_unit := goodIn_r _ [18] (by decide +kernel) (by decide +kernel)
set_option maxRecDepth 20000 in
theorem gX6_step_X6_unit : GoodIn wsX6_step (va_wsS RX6 72 yX6_unit wsX6_unit) := goodIn_app (goodIn_of _ (by decide +kernel)) ggX6_step_X6_unit
theorem dX6_step_0 : decode cX6_step 0 = .ok (.aload_n 0, 1) := by decide +kernel
theorem dX6_step_1 : decode cX6_step 1 = .ok (.iconst 0, 1) := by decide +kernel
theorem dX6_step_2 : decode cX6_step 2 = .ok (.putfield 59, 3) := by decide +kernel
theorem dX6_step_5 : decode cX6_step 5 = .ok (.iload_n 1, 1) := by decide +kernel
theorem dX6_step_6 : decode cX6_step 6 = .ok (.iconst 0, 1) := by decide +kernel
theorem dX6_step_7 : decode cX6_step 7 = .ok (.aload_n 0, 1) := by decide +kernel
theorem dX6_step_8 : decode cX6_step 8 = .ok (.getfield 19, 3) := by decide +kernel
theorem dX6_step_11 : decode cX6_step 11 = .ok (.invokestatic 65, 3) := by decide +kernel
theorem dX6_step_14 : decode cX6_step 14 = .ok (.ifCond .eq 13, 3) := by decide +kernel
theorem dX6_step_17 : decode cX6_step 17 = .ok (.iload_n 2, 1) := by decide +kernel
theorem dX6_step_18 : decode cX6_step 18 = .ok (.iconst 1, 1) := by decide +kernel
theorem dX6_step_19 : decode cX6_step 19 = .ok (.bipush 50, 2) := by decide +kernel
theorem dX6_step_21 : decode cX6_step 21 = .ok (.invokestatic 65, 3) := by decide +kernel
theorem dX6_step_24 : decode cX6_step 24 = .ok (.ifCond .ne 9, 3) := by decide +kernel
theorem dX6_step_27 : decode cX6_step 27 = .ok (.aload_n 0, 1) := by decide +kernel
theorem dX6_step_28 : decode cX6_step 28 = .ok (.iconst 1, 1) := by decide +kernel
theorem dX6_step_29 : decode cX6_step 29 = .ok (.invokevirtual 130, 3) := by decide +kernel
theorem dX6_step_32 : decode cX6_step 32 = .ok (.ireturn, 1) := by decide +kernel
theorem dX6_step_33 : decode cX6_step 33 = .ok (.aload_n 0, 1) := by decide +kernel
theorem dX6_step_34 : decode cX6_step 34 = .ok (.getfield 123, 3) := by decide +kernel
theorem dX6_step_37 : decode cX6_step 37 = .ok (.ifCond .ne 15, 3) := by decide +kernel
theorem dX6_step_40 : decode cX6_step 40 = .ok (.aload_n 0, 1) := by decide +kernel
theorem dX6_step_41 : decode cX6_step 41 = .ok (.getfield 62, 3) := by decide +kernel
theorem dX6_step_44 : decode cX6_step 44 = .ok (.iconst 3, 1) := by decide +kernel
theorem dX6_step_45 : decode cX6_step 45 = .ok (.if_icmp .ge 7, 3) := by decide +kernel
theorem dX6_step_48 : decode cX6_step 48 = .ok (.iconst 1, 1) := by decide +kernel
theorem dX6_step_49 : decode cX6_step 49 = .ok (.goto 4, 3) := by decide +kernel
theorem dX6_step_52 : decode cX6_step 52 = .ok (.iconst 0, 1) := by decide +kernel
theorem dX6_step_53 : decode cX6_step 53 = .ok (.istore_n 3, 1) := by decide +kernel
theorem dX6_step_54 : decode cX6_step 54 = .ok (.iconst 0, 1) := by decide +kernel
theorem dX6_step_55 : decode cX6_step 55 = .ok (.istore 4, 2) := by decide +kernel
theorem dX6_step_57 : decode cX6_step 57 = .ok (.iload 4, 2) := by decide +kernel
theorem dX6_step_59 : decode cX6_step 59 = .ok (.aload_n 0, 1) := by decide +kernel
theorem dX6_step_60 : decode cX6_step 60 = .ok (.getfield 62, 3) := by decide +kernel
theorem dX6_step_63 : decode cX6_step 63 = .ok (.if_icmp .ge 28, 3) := by decide +kernel
theorem dX6_step_66 : decode cX6_step 66 = .ok (.iload_n 3, 1) := by decide +kernel
theorem dX6_step_67 : decode cX6_step 67 = .ok (.aload_n 0, 1) := by decide +kernel
theorem dX6_step_68 : decode cX6_step 68 = .ok (.getfield 28, 3) := by decide +kernel
theorem dX6_step_71 : decode cX6_step 71 = .ok (.iload 4, 2) := by decide +kernel
theorem dX6_step_73 : decode cX6_step 73 = .ok (.iaload, 1) := by decide +kernel
theorem dX6_step_74 : decode cX6_step 74 = .ok (.iload_n 1, 1) := by decide +kernel
theorem dX6_step_75 : decode cX6_step 75 = .ok (.if_icmp .eq 7, 3) := by decide +kernel
theorem dX6_step_78 : decode cX6_step 78 = .ok (.iconst 1, 1) := by decide +kernel
theorem dX6_step_79 : decode cX6_step 79 = .ok (.goto 4, 3) := by decide +kernel
theorem dX6_step_82 : decode cX6_step 82 = .ok (.iconst 0, 1) := by decide +kernel
theorem dX6_step_83 : decode cX6_step 83 = .ok (.iand, 1) := by decide +kernel
theorem dX6_step_84 : decode cX6_step 84 = .ok (.istore_n 3, 1) := by decide +kernel
theorem dX6_step_85 : decode cX6_step 85 = .ok (.iinc 4 1, 3) := by decide +kernel
theorem dX6_step_88 : decode cX6_step 88 = .ok (.goto (-31), 3) := by decide +kernel
theorem dX6_step_91 : decode cX6_step 91 = .ok (.iload_n 3, 1) := by decide +kernel
theorem dX6_step_92 : decode cX6_step 92 = .ok (.ifCond .ne 9, 3) := by decide +kernel
theorem dX6_step_95 : decode cX6_step 95 = .ok (.aload_n 0, 1) := by decide +kernel
theorem dX6_step_96 : decode cX6_step 96 = .ok (.iconst 2, 1) := by decide +kernel
theorem dX6_step_97 : decode cX6_step 97 = .ok (.invokevirtual 130, 3) := by decide +kernel
theorem dX6_step_100 : decode cX6_step 100 = .ok (.ireturn, 1) := by decide +kernel
theorem dX6_step_101 : decode cX6_step 101 = .ok (.aload_n 0, 1) := by decide +kernel
theorem dX6_step_102 : decode cX6_step 102 = .ok (.getfield 28, 3) := by decide +kernel
theorem dX6_step_105 : decode cX6_step 105 = .ok (.aload_n 0, 1) := by decide +kernel
theorem dX6_step_106 : decode cX6_step 106 = .ok (.getfield 62, 3) := by decide +kernel
theorem dX6_step_109 : decode cX6_step 109 = .ok (.iload_n 1, 1) := by decide +kernel
theorem dX6_step_110 : decode cX6_step 110 = .ok (.iastore, 1) := by decide +kernel
theorem dX6_step_111 : decode cX6_step 111 = .ok (.aload_n 0, 1) := by decide +kernel
theorem dX6_step_112 : decode cX6_step 112 = .ok (.getfield 32, 3) := by decide +kernel
theorem dX6_step_115 : decode cX6_step 115 = .ok (.aload_n 0, 1) := by decide +kernel
theorem dX6_step_116 : decode cX6_step 116 = .ok (.getfield 62, 3) := by decide +kernel
theorem dX6_step_119 : decode cX6_step 119 = .ok (.iload_n 2, 1) := by decide +kernel
theorem dX6_step_120 : decode cX6_step 120 = .ok (.iastore, 1) := by decide +kernel
theorem dX6_step_121 : decode cX6_step 121 = .ok (.aload_n 0, 1) := by decide +kernel
theorem dX6_step_122 : decode cX6_step 122 = .ok (.dup, 1) := by decide +kernel
theorem dX6_step_123 : decode cX6_step 123 = .ok (.getfield 91, 3) := by decide +kernel
theorem dX6_step_126 : decode cX6_step 126 = .ok (.bipush 9, 2) := by decide +kernel
theorem dX6_step_128 : decode cX6_step 128 = .ok (.aload_n 0, 1) := by decide +kernel
theorem dX6_step_129 : decode cX6_step 129 = .ok (.getfield 62, 3) := by decide +kernel
theorem dX6_step_132 : decode cX6_step 132 = .ok (.invokestatic 72, 3) := by decide +kernel
theorem dX6_step_135 : decode cX6_step 135 = .ok (.imul, 1) := by decide +kernel
theorem dX6_step_136 : decode cX6_step 136 = .ok (.iadd, 1) := by decide +kernel
theorem dX6_step_137 : decode cX6_step 137 = .ok (.putfield 91, 3) := by decide +kernel
theorem dX6_step_140 : decode cX6_step 140 = .ok (.aload_n 0, 1) := by decide +kernel
theorem dX6_step_141 : decode cX6_step 141 = .ok (.dup, 1) := by decide +kernel
theorem dX6_step_142 : decode cX6_step 142 = .ok (.getfield 62, 3) := by decide +kernel
theorem dX6_step_145 : decode cX6_step 145 = .ok (.iconst 1, 1) := by decide +kernel
theorem dX6_step_146 : decode cX6_step 146 = .ok (.iadd, 1) := by decide +kernel
theorem dX6_step_147 : decode cX6_step 147 = .ok (.putfield 62, 3) := by decide +kernel
theorem dX6_step_150 : decode cX6_step 150 = .ok (.aload_n 0, 1) := by decide +kernel
theorem dX6_step_151 : decode cX6_step 151 = .ok (.getfield 62, 3) := by decide +kernel
theorem dX6_step_154 : decode cX6_step 154 = .ok (.iconst 1, 1) := by decide +kernel
theorem dX6_step_155 : decode cX6_step 155 = .ok (.isub, 1) := by decide +kernel
theorem dX6_step_156 : decode cX6_step 156 = .ok (.ireturn, 1) := by decide +kernel
set_option maxRecDepth 20000 in
theorem ggX6_yard_X6_isMast : GoodIn wsX6_yard wsX6_isMast := goodIn_r _ [9, 10, 11, 12, 8, 13, 18, 19, 20, 21, 22, 23, 24, 25, 26, 27, 28, 29, 30, 31, 32, 33, 34, 35, 36, 37, 38, 39, 40, 41, 42] (by decide +kernel) (by decide +kernel)
set_option maxRecDepth 20000 in
theorem gX6_yard_X6_isMast : GoodIn wsX6_yard (wsV RX6 133 RX6 yX6_isMast wsX6_isMast) := goodIn_app (goodIn_of _ (by decide +kernel)) ggX6_yard_X6_isMast
set_option maxRecDepth 20000 in
theorem ggX6_yard_X6_no : GoodIn wsX6_yard wsX6_no := goodIn_r _ [17, 1, 18, 19, 20, 21, 22, 23, 24, 25, 26, 27, 28, 29, 30, 31, 32, 33, 34, 35, 36, 37, 38, 39, 40, 41, 42] (by decide +kernel) (by decide +kernel)
set_option maxRecDepth 20000 in
theorem gX6_yard_X6_no : GoodIn wsX6_yard (wsV RX6 130 RX6 yX6_no wsX6_no) := goodIn_app (goodIn_of _ (by decide +kernel)) ggX6_yard_X6_no
set_option maxRecDepth 20000 in
theorem ggX6_yard_X6_isBetween : GoodIn wsX6_yard wsX6_isBetween := goodIn_r _ [13] (by decide +kernel) (by decide +kernel)
set_option maxRecDepth 20000 in
theorem gX6_yard_X6_isBetween : GoodIn wsX6_yard (va_wsS RX6 65 yX6_isBetween wsX6_isBetween) := goodIn_app (goodIn_of _ (by decide +kernel)) ggX6_yard_X6_isBetween
theorem dX6_yard_0 : decode cX6_yard 0 = .ok (.aload_n 0, 1) := by decide +kernel
theorem dX6_yard_1 : decode cX6_yard 1 = .ok (.iconst 0, 1) := by decide +kernel
theorem dX6_yard_2 : decode cX6_yard 2 = .ok (.putfield 59, 3) := by decide +kernel
theorem dX6_yard_5 : decode cX6_yard 5 = .ok (.aload_n 0, 1) := by decide +kernel
theorem dX6_yard_6 : decode cX6_yard 6 = .ok (.iload_n 1, 1) := by decide +kernel
theorem dX6_yard_7 : decode cX6_yard 7 = .ok (.invokevirtual 133, 3) := by decide +kernel
theorem dX6_yard_10 : decode cX6_yard 10 = .ok (.ifCond .ne 9, 3) := by decide +kernel
theorem dX6_yard_13 : decode cX6_yard 13 = .ok (.aload_n 0, 1) := by decide +kernel
theorem dX6_yard_14 : decode cX6_yard 14 = .ok (.iconst 1, 1) := by decide +kernel
theorem dX6_yard_15 : decode cX6_yard 15 = .ok (.invokevirtual 130, 3) := by decide +kernel
theorem dX6_yard_18 : decode cX6_yard 18 = .ok (.ireturn, 1) := by decide +kernel
theorem dX6_yard_19 : decode cX6_yard 19 = .ok (.iload_n 2, 1) := by decide +kernel
theorem dX6_yard_20 : decode cX6_yard 20 = .ok (.iconst 1, 1) := by decide +kernel
theorem dX6_yard_21 : decode cX6_yard 21 = .ok (.bipush 20, 2) := by decide +kernel
theorem dX6_yard_23 : decode cX6_yard 23 = .ok (.invokestatic 65, 3) := by decide +kernel
theorem dX6_yard_26 : decode cX6_yard 26 = .ok (.ifCond .ne 9, 3) := by decide +kernel
theorem dX6_yard_29 : decode cX6_yard 29 = .ok (.aload_n 0, 1) := by decide +kernel
theorem dX6_yard_30 : decode cX6_yard 30 = .ok (.iconst 2, 1) := by decide +kernel
theorem dX6_yard_31 : decode cX6_yard 31 = .ok (.invokevirtual 130, 3) := by decide +kernel
theorem dX6_yard_34 : decode cX6_yard 34 = .ok (.ireturn, 1) := by decide +kernel
theorem dX6_yard_35 : decode cX6_yard 35 = .ok (.aload_n 0, 1) := by decide +kernel
theorem dX6_yard_36 : decode cX6_yard 36 = .ok (.getfield 123, 3) := by decide +kernel
theorem dX6_yard_39 : decode cX6_yard 39 = .ok (.ifCond .ne 13, 3) := by decide +kernel
theorem dX6_yard_42 : decode cX6_yard 42 = .ok (.aload_n 0, 1) := by decide +kernel
theorem dX6_yard_43 : decode cX6_yard 43 = .ok (.getfield 35, 3) := by decide +kernel
theorem dX6_yard_46 : decode cX6_yard 46 = .ok (.iload_n 1, 1) := by decide +kernel
theorem dX6_yard_47 : decode cX6_yard 47 = .ok (.iaload, 1) := by decide +kernel
theorem dX6_yard_48 : decode cX6_yard 48 = .ok (.iconst 3, 1) := by decide +kernel
theorem dX6_yard_49 : decode cX6_yard 49 = .ok (.if_icmp .ne 9, 3) := by decide +kernel
theorem dX6_yard_52 : decode cX6_yard 52 = .ok (.aload_n 0, 1) := by decide +kernel
theorem dX6_yard_53 : decode cX6_yard 53 = .ok (.iconst 3, 1) := by decide +kernel
theorem dX6_yard_54 : decode cX6_yard 54 = .ok (.invokevirtual 130, 3) := by decide +kernel
theorem dX6_yard_57 : decode cX6_yard 57 = .ok (.ireturn, 1) := by decide +kernel
theorem dX6_yard_58 : decode cX6_yard 58 = .ok (.aload_n 0, 1) := by decide +kernel
theorem dX6_yard_59 : decode cX6_yard 59 = .ok (.getfield 38, 3) := by decide +kernel
theorem dX6_yard_62 : decode cX6_yard 62 = .ok (.iconst 3, 1) := by decide +kernel
theorem dX6_yard_63 : decode cX6_yard 63 = .ok (.iload_n 1, 1) := by decide +kernel
theorem dX6_yard_64 : decode cX6_yard 64 = .ok (.imul, 1) := by decide +kernel
theorem dX6_yard_65 : decode cX6_yard 65 = .ok (.aload_n 0, 1) := by decide +kernel
theorem dX6_yard_66 : decode cX6_yard 66 = .ok (.getfield 35, 3) := by decide +kernel
theorem dX6_yard_69 : decode cX6_yard 69 = .ok (.iload_n 1, 1) := by decide +kernel
theorem dX6_yard_70 : decode cX6_yard 70 = .ok (.iaload, 1) := by decide +kernel
theorem dX6_yard_71 : decode cX6_yard 71 = .ok (.iadd, 1) := by decide +kernel
theorem dX6_yard_72 : decode cX6_yard 72 = .ok (.iload_n 2, 1) := by decide +kernel
theorem dX6_yard_73 : decode cX6_yard 73 = .ok (.iastore, 1) := by decide +kernel
theorem dX6_yard_74 : decode cX6_yard 74 = .ok (.aload_n 0, 1) := by decide +kernel
theorem dX6_yard_75 : decode cX6_yard 75 = .ok (.getfield 35, 3) := by decide +kernel
theorem dX6_yard_78 : decode cX6_yard 78 = .ok (.iload_n 1, 1) := by decide +kernel
theorem dX6_yard_79 : decode cX6_yard 79 = .ok (.dup2, 1) := by decide +kernel
theorem dX6_yard_80 : decode cX6_yard 80 = .ok (.iaload, 1) := by decide +kernel
theorem dX6_yard_81 : decode cX6_yard 81 = .ok (.iconst 1, 1) := by decide +kernel
theorem dX6_yard_82 : decode cX6_yard 82 = .ok (.iadd, 1) := by decide +kernel
theorem dX6_yard_83 : decode cX6_yard 83 = .ok (.iastore, 1) := by decide +kernel
theorem dX6_yard_84 : decode cX6_yard 84 = .ok (.aload_n 0, 1) := by decide +kernel
theorem dX6_yard_85 : decode cX6_yard 85 = .ok (.getfield 35, 3) := by decide +kernel
theorem dX6_yard_88 : decode cX6_yard 88 = .ok (.iload_n 1, 1) := by decide +kernel
theorem dX6_yard_89 : decode cX6_yard 89 = .ok (.iaload, 1) := by decide +kernel
theorem dX6_yard_90 : decode cX6_yard 90 = .ok (.ireturn, 1) := by decide +kernel
set_option maxRecDepth 20000 in
theorem ggX6_lead_X6_isMast : GoodIn wsX6_lead wsX6_isMast := goodIn_r _ [10, 11, 12, 13, 9, 14, 19, 20, 21, 22, 23, 24, 25, 26, 27, 28, 29, 30, 31, 32, 33, 34, 35, 36, 37, 38, 39, 40, 41, 42, 43] (by decide +kernel) (by decide +kernel)
set_option maxRecDepth 20000 in
theorem gX6_lead_X6_isMast : GoodIn wsX6_lead (wsV RX6 133 RX6 yX6_isMast wsX6_isMast) := goodIn_app (goodIn_of _ (by decide +kernel)) ggX6_lead_X6_isMast
set_option maxRecDepth 20000 in
theorem ggX6_lead_X6_no : GoodIn wsX6_lead wsX6_no := goodIn_r _ [18, 1, 19, 20, 21, 22, 23, 24, 25, 26, 27, 28, 29, 30, 31, 32, 33, 34, 35, 36, 37, 38, 39, 40, 41, 42, 43] (by decide +kernel) (by decide +kernel)
set_option maxRecDepth 20000 in
theorem gX6_lead_X6_no : GoodIn wsX6_lead (wsV RX6 130 RX6 yX6_no wsX6_no) := goodIn_app (goodIn_of _ (by decide +kernel)) ggX6_lead_X6_no
set_option maxRecDepth 20000 in
theorem ggX6_lead_X6_isBetween : GoodIn wsX6_lead wsX6_isBetween := goodIn_r _ [14] (by decide +kernel) (by decide +kernel)
set_option maxRecDepth 20000 in
theorem gX6_lead_X6_isBetween : GoodIn wsX6_lead (va_wsS RX6 65 yX6_isBetween wsX6_isBetween) := goodIn_app (goodIn_of _ (by decide +kernel)) ggX6_lead_X6_isBetween
theorem dX6_lead_0 : decode cX6_lead 0 = .ok (.aload_n 0, 1) := by decide +kernel
theorem dX6_lead_1 : decode cX6_lead 1 = .ok (.iconst 0, 1) := by decide +kernel
theorem dX6_lead_2 : decode cX6_lead 2 = .ok (.putfield 59, 3) := by decide +kernel
theorem dX6_lead_5 : decode cX6_lead 5 = .ok (.aload_n 0, 1) := by decide +kernel
theorem dX6_lead_6 : decode cX6_lead 6 = .ok (.iload_n 1, 1) := by decide +kernel
theorem dX6_lead_7 : decode cX6_lead 7 = .ok (.invokevirtual 133, 3) := by decide +kernel
theorem dX6_lead_10 : decode cX6_lead 10 = .ok (.ifCond .eq 16, 3) := by decide +kernel
theorem dX6_lead_13 : decode cX6_lead 13 = .ok (.iload_n 2, 1) := by decide +kernel
theorem dX6_lead_14 : decode cX6_lead 14 = .ok (.iconst (-1), 1) := by decide +kernel
theorem dX6_lead_15 : decode cX6_lead 15 = .ok (.if_icmp .eq 17, 3) := by decide +kernel
theorem dX6_lead_18 : decode cX6_lead 18 = .ok (.aload_n 0, 1) := by decide +kernel
theorem dX6_lead_19 : decode cX6_lead 19 = .ok (.iload_n 2, 1) := by decide +kernel
theorem dX6_lead_20 : decode cX6_lead 20 = .ok (.invokevirtual 133, 3) := by decide +kernel
theorem dX6_lead_23 : decode cX6_lead 23 = .ok (.ifCond .ne 9, 3) := by decide +kernel
theorem dX6_lead_26 : decode cX6_lead 26 = .ok (.aload_n 0, 1) := by decide +kernel
theorem dX6_lead_27 : decode cX6_lead 27 = .ok (.iconst 1, 1) := by decide +kernel
theorem dX6_lead_28 : decode cX6_lead 28 = .ok (.invokevirtual 130, 3) := by decide +kernel
theorem dX6_lead_31 : decode cX6_lead 31 = .ok (.ireturn, 1) := by decide +kernel
theorem dX6_lead_32 : decode cX6_lead 32 = .ok (.iload_n 1, 1) := by decide +kernel
theorem dX6_lead_33 : decode cX6_lead 33 = .ok (.iload_n 2, 1) := by decide +kernel
theorem dX6_lead_34 : decode cX6_lead 34 = .ok (.if_icmp .eq 13, 3) := by decide +kernel
theorem dX6_lead_37 : decode cX6_lead 37 = .ok (.iload_n 3, 1) := by decide +kernel
theorem dX6_lead_38 : decode cX6_lead 38 = .ok (.iconst 1, 1) := by decide +kernel
theorem dX6_lead_39 : decode cX6_lead 39 = .ok (.bipush 9, 2) := by decide +kernel
theorem dX6_lead_41 : decode cX6_lead 41 = .ok (.invokestatic 65, 3) := by decide +kernel
theorem dX6_lead_44 : decode cX6_lead 44 = .ok (.ifCond .ne 9, 3) := by decide +kernel
theorem dX6_lead_47 : decode cX6_lead 47 = .ok (.aload_n 0, 1) := by decide +kernel
theorem dX6_lead_48 : decode cX6_lead 48 = .ok (.iconst 2, 1) := by decide +kernel
theorem dX6_lead_49 : decode cX6_lead 49 = .ok (.invokevirtual 130, 3) := by decide +kernel
theorem dX6_lead_52 : decode cX6_lead 52 = .ok (.ireturn, 1) := by decide +kernel
theorem dX6_lead_53 : decode cX6_lead 53 = .ok (.aload_n 0, 1) := by decide +kernel
theorem dX6_lead_54 : decode cX6_lead 54 = .ok (.getfield 69, 3) := by decide +kernel
theorem dX6_lead_57 : decode cX6_lead 57 = .ok (.bipush 8, 2) := by decide +kernel
theorem dX6_lead_59 : decode cX6_lead 59 = .ok (.if_icmp .ne 9, 3) := by decide +kernel
theorem dX6_lead_62 : decode cX6_lead 62 = .ok (.aload_n 0, 1) := by decide +kernel
theorem dX6_lead_63 : decode cX6_lead 63 = .ok (.iconst 3, 1) := by decide +kernel
theorem dX6_lead_64 : decode cX6_lead 64 = .ok (.invokevirtual 130, 3) := by decide +kernel
theorem dX6_lead_67 : decode cX6_lead 67 = .ok (.ireturn, 1) := by decide +kernel
theorem dX6_lead_68 : decode cX6_lead 68 = .ok (.aload_n 0, 1) := by decide +kernel
theorem dX6_lead_69 : decode cX6_lead 69 = .ok (.getfield 41, 3) := by decide +kernel
theorem dX6_lead_72 : decode cX6_lead 72 = .ok (.aload_n 0, 1) := by decide +kernel
theorem dX6_lead_73 : decode cX6_lead 73 = .ok (.getfield 69, 3) := by decide +kernel
theorem dX6_lead_76 : decode cX6_lead 76 = .ok (.iload_n 1, 1) := by decide +kernel
theorem dX6_lead_77 : decode cX6_lead 77 = .ok (.iastore, 1) := by decide +kernel
theorem dX6_lead_78 : decode cX6_lead 78 = .ok (.aload_n 0, 1) := by decide +kernel
theorem dX6_lead_79 : decode cX6_lead 79 = .ok (.getfield 44, 3) := by decide +kernel
theorem dX6_lead_82 : decode cX6_lead 82 = .ok (.aload_n 0, 1) := by decide +kernel
theorem dX6_lead_83 : decode cX6_lead 83 = .ok (.getfield 69, 3) := by decide +kernel
theorem dX6_lead_86 : decode cX6_lead 86 = .ok (.iload_n 2, 1) := by decide +kernel
theorem dX6_lead_87 : decode cX6_lead 87 = .ok (.iastore, 1) := by decide +kernel
theorem dX6_lead_88 : decode cX6_lead 88 = .ok (.aload_n 0, 1) := by decide +kernel
theorem dX6_lead_89 : decode cX6_lead 89 = .ok (.getfield 47, 3) := by decide +kernel
theorem dX6_lead_92 : decode cX6_lead 92 = .ok (.aload_n 0, 1) := by decide +kernel
theorem dX6_lead_93 : decode cX6_lead 93 = .ok (.getfield 69, 3) := by decide +kernel
theorem dX6_lead_96 : decode cX6_lead 96 = .ok (.iload_n 3, 1) := by decide +kernel
theorem dX6_lead_97 : decode cX6_lead 97 = .ok (.iastore, 1) := by decide +kernel
theorem dX6_lead_98 : decode cX6_lead 98 = .ok (.aload_n 0, 1) := by decide +kernel
theorem dX6_lead_99 : decode cX6_lead 99 = .ok (.dup, 1) := by decide +kernel
theorem dX6_lead_100 : decode cX6_lead 100 = .ok (.getfield 69, 3) := by decide +kernel
theorem dX6_lead_103 : decode cX6_lead 103 = .ok (.iconst 1, 1) := by decide +kernel
theorem dX6_lead_104 : decode cX6_lead 104 = .ok (.iadd, 1) := by decide +kernel
theorem dX6_lead_105 : decode cX6_lead 105 = .ok (.putfield 69, 3) := by decide +kernel
theorem dX6_lead_108 : decode cX6_lead 108 = .ok (.aload_n 0, 1) := by decide +kernel
theorem dX6_lead_109 : decode cX6_lead 109 = .ok (.getfield 69, 3) := by decide +kernel
theorem dX6_lead_112 : decode cX6_lead 112 = .ok (.iconst 1, 1) := by decide +kernel
theorem dX6_lead_113 : decode cX6_lead 113 = .ok (.isub, 1) := by decide +kernel
theorem dX6_lead_114 : decode cX6_lead 114 = .ok (.ireturn, 1) := by decide +kernel
set_option maxRecDepth 20000 in
theorem ggX6_enter_X6_goesThrough : GoodIn wsX6_enter wsX6_goesThrough := goodIn_r _ [8, 3, 9, 10, 11, 12, 7, 13, 14, 15, 16, 17, 18, 19, 20, 21, 22, 23, 24, 25, 26, 27, 28, 29, 30, 31, 32, 33, 34, 35, 36, 37, 55, 56, 57, 58, 59, 60, 61, 62, 63, 64, 65, 66, 67, 68, 69, 70, 71, 72, 73, 74, 75, 76, 77, 78, 79] (by decide +kernel) (by decide +kernel)
set_option maxRecDepth 20000 in
theorem gX6_enter_X6_goesThrough : GoodIn wsX6_enter (wsV RX6 136 RX6 yX6_goesThrough wsX6_goesThrough) := goodIn_app (goodIn_of _ (by decide +kernel)) ggX6_enter_X6_goesThrough
set_option maxRecDepth 20000 in
theorem ggX6_enter_X6_fits : GoodIn wsX6_enter wsX6_fits := goodIn_r _ [41, 42, 43, 44, 45, 46, 47, 7, 48, 49, 15, 50, 18, 19, 20, 21, 51, 52, 53, 54, 37, 22, 23, 24, 25, 26, 27, 28, 29, 30, 31, 32, 33, 34, 35, 36, 55, 56, 57, 58, 59, 60, 61, 62, 63, 64, 65, 66, 67, 68, 69, 70, 71, 72, 73, 74, 75, 76, 77, 78, 79] (by decide +kernel) (by decide +kernel)
set_option maxRecDepth 20000 in
theorem gX6_enter_X6_fits : GoodIn wsX6_enter (wsV RX6 127 RX6 yX6_fits wsX6_fits) := goodIn_app (goodIn_of _ (by decide +kernel)) ggX6_enter_X6_fits
theorem dX6_enter_0 : decode cX6_enter 0 = .ok (.aload_n 0, 1) := by decide +kernel
theorem dX6_enter_1 : decode cX6_enter 1 = .ok (.iconst 0, 1) := by decide +kernel
theorem dX6_enter_2 : decode cX6_enter 2 = .ok (.putfield 59, 3) := by decide +kernel
theorem dX6_enter_5 : decode cX6_enter 5 = .ok (.aload_n 0, 1) := by decide +kernel
theorem dX6_enter_6 : decode cX6_enter 6 = .ok (.getfield 123, 3) := by decide +kernel
theorem dX6_enter_9 : decode cX6_enter 9 = .ok (.ifCond .ne 25, 3) := by decide +kernel
theorem dX6_enter_12 : decode cX6_enter 12 = .ok (.aload_n 0, 1) := by decide +kernel
theorem dX6_enter_13 : decode cX6_enter 13 = .ok (.invokevirtual 136, 3) := by decide +kernel
theorem dX6_enter_16 : decode cX6_enter 16 = .ok (.ifCond .eq 18, 3) := by decide +kernel
theorem dX6_enter_19 : decode cX6_enter 19 = .ok (.aload_n 0, 1) := by decide +kernel
theorem dX6_enter_20 : decode cX6_enter 20 = .ok (.aload_n 0, 1) := by decide +kernel
theorem dX6_enter_21 : decode cX6_enter 21 = .ok (.getfield 91, 3) := by decide +kernel
theorem dX6_enter_24 : decode cX6_enter 24 = .ok (.invokevirtual 127, 3) := by decide +kernel
theorem dX6_enter_27 : decode cX6_enter 27 = .ok (.ifCond .eq 7, 3) := by decide +kernel
theorem dX6_enter_30 : decode cX6_enter 30 = .ok (.iconst 1, 1) := by decide +kernel
theorem dX6_enter_31 : decode cX6_enter 31 = .ok (.goto 4, 3) := by decide +kernel
theorem dX6_enter_34 : decode cX6_enter 34 = .ok (.iconst 0, 1) := by decide +kernel
theorem dX6_enter_35 : decode cX6_enter 35 = .ok (.istore_n 1, 1) := by decide +kernel
theorem dX6_enter_36 : decode cX6_enter 36 = .ok (.aload_n 0, 1) := by decide +kernel
theorem dX6_enter_37 : decode cX6_enter 37 = .ok (.dup, 1) := by decide +kernel
theorem dX6_enter_38 : decode cX6_enter 38 = .ok (.getfield 123, 3) := by decide +kernel
theorem dX6_enter_41 : decode cX6_enter 41 = .ok (.iload_n 1, 1) := by decide +kernel
theorem dX6_enter_42 : decode cX6_enter 42 = .ok (.ior, 1) := by decide +kernel
theorem dX6_enter_43 : decode cX6_enter 43 = .ok (.putfield 123, 3) := by decide +kernel
theorem dX6_enter_46 : decode cX6_enter 46 = .ok (.iload_n 1, 1) := by decide +kernel
theorem dX6_enter_47 : decode cX6_enter 47 = .ok (.ireturn, 1) := by decide +kernel
set_option maxRecDepth 20000 in
theorem ggX6_leave_X6_goesThrough : GoodIn wsX6_leave wsX6_goesThrough := goodIn_r _ [7, 8, 9, 10, 11, 12, 6, 13, 14, 15, 16, 17, 18, 19, 20, 21, 22, 23, 24, 25, 26, 27, 28, 29, 30, 31, 32, 33, 34, 35, 36, 37, 38, 39, 40, 41, 42, 43, 44, 45, 46, 47, 48, 49, 50, 51, 52, 53, 54, 55, 56, 57, 58, 59, 60, 61, 62] (by decide +kernel) (by decide +kernel)
set_option maxRecDepth 20000 in
theorem gX6_leave_X6_goesThrough : GoodIn wsX6_leave (wsV RX6 136 RX6 yX6_goesThrough wsX6_goesThrough) := goodIn_app (goodIn_of _ (by decide +kernel)) ggX6_leave_X6_goesThrough
theorem dX6_leave_0 : decode cX6_leave 0 = .ok (.aload_n 0, 1) := by decide +kernel
theorem dX6_leave_1 : decode cX6_leave 1 = .ok (.iconst 0, 1) := by decide +kernel
theorem dX6_leave_2 : decode cX6_leave 2 = .ok (.putfield 59, 3) := by decide +kernel
theorem dX6_leave_5 : decode cX6_leave 5 = .ok (.aload_n 0, 1) := by decide +kernel
theorem dX6_leave_6 : decode cX6_leave 6 = .ok (.getfield 123, 3) := by decide +kernel
theorem dX6_leave_9 : decode cX6_leave 9 = .ok (.ifCond .eq 14, 3) := by decide +kernel
theorem dX6_leave_12 : decode cX6_leave 12 = .ok (.aload_n 0, 1) := by decide +kernel
theorem dX6_leave_13 : decode cX6_leave 13 = .ok (.invokevirtual 136, 3) := by decide +kernel
theorem dX6_leave_16 : decode cX6_leave 16 = .ok (.ifCond .eq 7, 3) := by decide +kernel
theorem dX6_leave_19 : decode cX6_leave 19 = .ok (.iconst 1, 1) := by decide +kernel
theorem dX6_leave_20 : decode cX6_leave 20 = .ok (.goto 4, 3) := by decide +kernel
theorem dX6_leave_23 : decode cX6_leave 23 = .ok (.iconst 0, 1) := by decide +kernel
theorem dX6_leave_24 : decode cX6_leave 24 = .ok (.istore_n 1, 1) := by decide +kernel
theorem dX6_leave_25 : decode cX6_leave 25 = .ok (.aload_n 0, 1) := by decide +kernel
theorem dX6_leave_26 : decode cX6_leave 26 = .ok (.dup, 1) := by decide +kernel
theorem dX6_leave_27 : decode cX6_leave 27 = .ok (.getfield 123, 3) := by decide +kernel
theorem dX6_leave_30 : decode cX6_leave 30 = .ok (.iload_n 1, 1) := by decide +kernel
theorem dX6_leave_31 : decode cX6_leave 31 = .ok (.ifCond .ne 7, 3) := by decide +kernel
theorem dX6_leave_34 : decode cX6_leave 34 = .ok (.iconst 1, 1) := by decide +kernel
theorem dX6_leave_35 : decode cX6_leave 35 = .ok (.goto 4, 3) := by decide +kernel
theorem dX6_leave_38 : decode cX6_leave 38 = .ok (.iconst 0, 1) := by decide +kernel
theorem dX6_leave_39 : decode cX6_leave 39 = .ok (.iand, 1) := by decide +kernel
theorem dX6_leave_40 : decode cX6_leave 40 = .ok (.putfield 123, 3) := by decide +kernel
theorem dX6_leave_43 : decode cX6_leave 43 = .ok (.iload_n 1, 1) := by decide +kernel
theorem dX6_leave_44 : decode cX6_leave 44 = .ok (.ireturn, 1) := by decide +kernel
set_option maxRecDepth 20000 in
theorem ggX6_pull_X6_isThread : GoodIn wsX6_pull wsX6_isThread := goodIn_r _ [12, 13, 14, 15, 11, 16, 84, 85, 86, 87, 88, 89, 90, 91, 92, 93, 94, 95, 96, 97, 98, 99, 100, 101, 102, 103, 104, 105, 106, 107, 108] (by decide +kernel) (by decide +kernel)
set_option maxRecDepth 20000 in
theorem gX6_pull_X6_isThread : GoodIn wsX6_pull (wsV RX6 140 RX6 yX6_isThread wsX6_isThread) := goodIn_app (goodIn_of _ (by decide +kernel)) ggX6_pull_X6_isThread
set_option maxRecDepth 20000 in
theorem ggX6_pull_X6_no : GoodIn wsX6_pull wsX6_no := goodIn_r _ [20, 1, 84, 85, 86, 87, 88, 89, 90, 91, 92, 93, 94, 95, 96, 97, 98, 99, 100, 101, 102, 103, 104, 105, 106, 107, 108] (by decide +kernel) (by decide +kernel)
set_option maxRecDepth 20000 in
theorem gX6_pull_X6_no : GoodIn wsX6_pull (wsV RX6 130 RX6 yX6_no wsX6_no) := goodIn_app (goodIn_of _ (by decide +kernel)) ggX6_pull_X6_no
set_option maxRecDepth 20000 in
theorem ggX6_pull_X6_behind : GoodIn wsX6_pull wsX6_behind := goodIn_r _ [24, 5, 13, 2, 7, 25, 26, 27, 28, 11, 29, 30, 31, 32, 33, 34, 35, 36, 37, 38, 39, 40, 41, 42, 43, 44, 45, 46, 47, 48, 49, 50, 51, 52, 53, 54, 55, 56, 57, 58, 59, 60, 61, 62, 63, 64, 65, 66, 67, 68, 69, 70, 71, 72, 73, 74, 75, 76, 77, 78, 79, 80, 81, 82, 83, 84, 85, 86, 87, 88, 89, 90, 91, 92, 93, 94, 95, 96, 97, 98, 99, 100, 101, 102, 103, 104, 105, 106, 107, 108] (by decide +kernel) (by decide +kernel)
set_option maxRecDepth 20000 in
theorem gX6_pull_X6_behind : GoodIn wsX6_pull (wsV RX6 143 RX6 yX6_behind wsX6_behind) := goodIn_app (goodIn_of _ (by decide +kernel)) ggX6_pull_X6_behind
set_option maxRecDepth 20000 in
theorem ggX6_pull_X6_lean : GoodIn wsX6_pull wsX6_lean := goodIn_r _ [29, 30, 31, 11, 32] (by decide +kernel) (by decide +kernel)
set_option maxRecDepth 20000 in
theorem gX6_pull_X6_lean : GoodIn wsX6_pull (va_wsS RX6 76 yX6_lean wsX6_lean) := goodIn_app (goodIn_of _ (by decide +kernel)) ggX6_pull_X6_lean
theorem dX6_pull_0 : decode cX6_pull 0 = .ok (.aload_n 0, 1) := by decide +kernel
theorem dX6_pull_1 : decode cX6_pull 1 = .ok (.iconst 0, 1) := by decide +kernel
theorem dX6_pull_2 : decode cX6_pull 2 = .ok (.putfield 59, 3) := by decide +kernel
theorem dX6_pull_5 : decode cX6_pull 5 = .ok (.aload_n 0, 1) := by decide +kernel
theorem dX6_pull_6 : decode cX6_pull 6 = .ok (.iload_n 1, 1) := by decide +kernel
theorem dX6_pull_7 : decode cX6_pull 7 = .ok (.invokevirtual 140, 3) := by decide +kernel
theorem dX6_pull_10 : decode cX6_pull 10 = .ok (.ifCond .ne 9, 3) := by decide +kernel
theorem dX6_pull_13 : decode cX6_pull 13 = .ok (.aload_n 0, 1) := by decide +kernel
theorem dX6_pull_14 : decode cX6_pull 14 = .ok (.iconst 1, 1) := by decide +kernel
theorem dX6_pull_15 : decode cX6_pull 15 = .ok (.invokevirtual 130, 3) := by decide +kernel
theorem dX6_pull_18 : decode cX6_pull 18 = .ok (.ireturn, 1) := by decide +kernel
theorem dX6_pull_19 : decode cX6_pull 19 = .ok (.aload_n 0, 1) := by decide +kernel
theorem dX6_pull_20 : decode cX6_pull 20 = .ok (.getfield 50, 3) := by decide +kernel
theorem dX6_pull_23 : decode cX6_pull 23 = .ok (.iload_n 1, 1) := by decide +kernel
theorem dX6_pull_24 : decode cX6_pull 24 = .ok (.iaload, 1) := by decide +kernel
