theorem dX5_step_22 : decode cX5_step 22 = .ok (.ifCond .ne 13, 3) := by decide +kernel
theorem dX5_step_25 : decode cX5_step 25 = .ok (.new 58, 3) := by decide +kernel
theorem dX5_step_28 : decode cX5_step 28 = .ok (.dup, 1) := by decide +kernel
theorem dX5_step_29 : decode cX5_step 29 = .ok (.ldc 101, 2) := by decide +kernel
theorem dX5_step_31 : decode cX5_step 31 = .ok (.invokespecial 62, 3) := by decide +kernel
theorem dX5_step_34 : decode cX5_step 34 = .ok (.athrow, 1) := by decide +kernel
theorem dX5_step_35 : decode cX5_step 35 = .ok (.aload_n 0, 1) := by decide +kernel
theorem dX5_step_36 : decode cX5_step 36 = .ok (.getfield 65, 3) := by decide +kernel
theorem dX5_step_39 : decode cX5_step 39 = .ok (.ifCond .ne 19, 3) := by decide +kernel
theorem dX5_step_42 : decode cX5_step 42 = .ok (.aload_n 0, 1) := by decide +kernel
theorem dX5_step_43 : decode cX5_step 43 = .ok (.getfield 89, 3) := by decide +kernel
theorem dX5_step_46 : decode cX5_step 46 = .ok (.iconst 3, 1) := by decide +kernel
theorem dX5_step_47 : decode cX5_step 47 = .ok (.if_icmp .ge 11, 3) := by decide +kernel
theorem dX5_step_50 : decode cX5_step 50 = .ok (.aload_n 0, 1) := by decide +kernel
theorem dX5_step_51 : decode cX5_step 51 = .ok (.iload_n 1, 1) := by decide +kernel
theorem dX5_step_52 : decode cX5_step 52 = .ok (.invokevirtual 103, 3) := by decide +kernel
theorem dX5_step_55 : decode cX5_step 55 = .ok (.ifCond .eq 13, 3) := by decide +kernel
theorem dX5_step_58 : decode cX5_step 58 = .ok (.new 69, 3) := by decide +kernel
theorem dX5_step_61 : decode cX5_step 61 = .ok (.dup, 1) := by decide +kernel
theorem dX5_step_62 : decode cX5_step 62 = .ok (.ldc 107, 2) := by decide +kernel
theorem dX5_step_64 : decode cX5_step 64 = .ok (.invokespecial 73, 3) := by decide +kernel
theorem dX5_step_67 : decode cX5_step 67 = .ok (.athrow, 1) := by decide +kernel
theorem dX5_step_68 : decode cX5_step 68 = .ok (.aload_n 0, 1) := by decide +kernel
theorem dX5_step_69 : decode cX5_step 69 = .ok (.getfield 89, 3) := by decide +kernel
theorem dX5_step_72 : decode cX5_step 72 = .ok (.istore_n 3, 1) := by decide +kernel
theorem dX5_step_73 : decode cX5_step 73 = .ok (.aload_n 0, 1) := by decide +kernel
theorem dX5_step_74 : decode cX5_step 74 = .ok (.getfield 25, 3) := by decide +kernel
theorem dX5_step_77 : decode cX5_step 77 = .ok (.iload_n 3, 1) := by decide +kernel
theorem dX5_step_78 : decode cX5_step 78 = .ok (.aaload, 1) := by decide +kernel
theorem dX5_step_79 : decode cX5_step 79 = .ok (.iload_n 1, 1) := by decide +kernel
theorem dX5_step_80 : decode cX5_step 80 = .ok (.putfield 109, 3) := by decide +kernel
theorem dX5_step_83 : decode cX5_step 83 = .ok (.aload_n 0, 1) := by decide +kernel
theorem dX5_step_84 : decode cX5_step 84 = .ok (.getfield 25, 3) := by decide +kernel
theorem dX5_step_87 : decode cX5_step 87 = .ok (.iload_n 3, 1) := by decide +kernel
theorem dX5_step_88 : decode cX5_step 88 = .ok (.aaload, 1) := by decide +kernel
theorem dX5_step_89 : decode cX5_step 89 = .ok (.iload_n 2, 1) := by decide +kernel
theorem dX5_step_90 : decode cX5_step 90 = .ok (.putfield 112, 3) := by decide +kernel
theorem dX5_step_93 : decode cX5_step 93 = .ok (.aload_n 0, 1) := by decide +kernel
theorem dX5_step_94 : decode cX5_step 94 = .ok (.getfield 42, 3) := by decide +kernel
theorem dX5_step_97 : decode cX5_step 97 = .ok (.iload_n 3, 1) := by decide +kernel
theorem dX5_step_98 : decode cX5_step 98 = .ok (.bipush 9, 2) := by decide +kernel
theorem dX5_step_100 : decode cX5_step 100 = .ok (.iastore, 1) := by decide +kernel
theorem dX5_step_101 : decode cX5_step 101 = .ok (.aload_n 0, 1) := by decide +kernel
theorem dX5_step_102 : decode cX5_step 102 = .ok (.dup, 1) := by decide +kernel
theorem dX5_step_103 : decode cX5_step 103 = .ok (.getfield 89, 3) := by decide +kernel
theorem dX5_step_106 : decode cX5_step 106 = .ok (.iconst 1, 1) := by decide +kernel
theorem dX5_step_107 : decode cX5_step 107 = .ok (.iadd, 1) := by decide +kernel
theorem dX5_step_108 : decode cX5_step 108 = .ok (.putfield 89, 3) := by decide +kernel
theorem dX5_step_111 : decode cX5_step 111 = .ok (.iload_n 3, 1) := by decide +kernel
theorem dX5_step_112 : decode cX5_step 112 = .ok (.ireturn, 1) := by decide +kernel
set_option maxRecDepth 20000 in
theorem ggX5_yard_X5_isMast : GoodIn wsX5_yard wsX5_isMast := goodIn_r _ [15, 16, 20, 21, 22, 23, 24, 25, 26, 27, 28, 29, 30, 31, 32, 33] (by decide +kernel) (by decide +kernel)
set_option maxRecDepth 20000 in
theorem gX5_yard_X5_isMast : GoodIn wsX5_yard (wsV RX5 113 RX5 yX5_isMast wsX5_isMast) := goodIn_app (goodIn_of _ (by decide +kernel)) ggX5_yard_X5_isMast
set_option maxRecDepth 20000 in
theorem ggX5_yard_X5_isWithin : GoodIn wsX5_yard wsX5_isWithin := goodIn_r _ [19] (by decide +kernel) (by decide +kernel)
set_option maxRecDepth 20000 in
theorem gX5_yard_X5_isWithin : GoodIn wsX5_yard (va_wsS RX5 54 yX5_isWithin wsX5_isWithin) := goodIn_app (goodIn_of _ (by decide +kernel)) ggX5_yard_X5_isWithin
theorem dX5_yard_0 : decode cX5_yard 0 = .ok (.aload_n 0, 1) := by decide +kernel
theorem dX5_yard_1 : decode cX5_yard 1 = .ok (.iload_n 1, 1) := by decide +kernel
theorem dX5_yard_2 : decode cX5_yard 2 = .ok (.invokevirtual 113, 3) := by decide +kernel
theorem dX5_yard_5 : decode cX5_yard 5 = .ok (.ifCond .ne 13, 3) := by decide +kernel
theorem dX5_yard_8 : decode cX5_yard 8 = .ok (.new 116, 3) := by decide +kernel
theorem dX5_yard_11 : decode cX5_yard 11 = .ok (.dup, 1) := by decide +kernel
theorem dX5_yard_12 : decode cX5_yard 12 = .ok (.ldc 118, 2) := by decide +kernel
theorem dX5_yard_14 : decode cX5_yard 14 = .ok (.invokespecial 120, 3) := by decide +kernel
theorem dX5_yard_17 : decode cX5_yard 17 = .ok (.athrow, 1) := by decide +kernel
theorem dX5_yard_18 : decode cX5_yard 18 = .ok (.iload_n 2, 1) := by decide +kernel
theorem dX5_yard_19 : decode cX5_yard 19 = .ok (.iconst 1, 1) := by decide +kernel
theorem dX5_yard_20 : decode cX5_yard 20 = .ok (.bipush 20, 2) := by decide +kernel
theorem dX5_yard_22 : decode cX5_yard 22 = .ok (.invokestatic 54, 3) := by decide +kernel
theorem dX5_yard_25 : decode cX5_yard 25 = .ok (.ifCond .ne 13, 3) := by decide +kernel
theorem dX5_yard_28 : decode cX5_yard 28 = .ok (.new 58, 3) := by decide +kernel
theorem dX5_yard_31 : decode cX5_yard 31 = .ok (.dup, 1) := by decide +kernel
theorem dX5_yard_32 : decode cX5_yard 32 = .ok (.ldc 121, 2) := by decide +kernel
theorem dX5_yard_34 : decode cX5_yard 34 = .ok (.invokespecial 62, 3) := by decide +kernel
theorem dX5_yard_37 : decode cX5_yard 37 = .ok (.athrow, 1) := by decide +kernel
theorem dX5_yard_38 : decode cX5_yard 38 = .ok (.aload_n 0, 1) := by decide +kernel
theorem dX5_yard_39 : decode cX5_yard 39 = .ok (.getfield 25, 3) := by decide +kernel
theorem dX5_yard_42 : decode cX5_yard 42 = .ok (.iload_n 1, 1) := by decide +kernel
theorem dX5_yard_43 : decode cX5_yard 43 = .ok (.aaload, 1) := by decide +kernel
theorem dX5_yard_44 : decode cX5_yard 44 = .ok (.astore_n 3, 1) := by decide +kernel
theorem dX5_yard_45 : decode cX5_yard 45 = .ok (.aload_n 0, 1) := by decide +kernel
theorem dX5_yard_46 : decode cX5_yard 46 = .ok (.getfield 65, 3) := by decide +kernel
theorem dX5_yard_49 : decode cX5_yard 49 = .ok (.ifCond .ne 11, 3) := by decide +kernel
theorem dX5_yard_52 : decode cX5_yard 52 = .ok (.aload_n 3, 1) := by decide +kernel
theorem dX5_yard_53 : decode cX5_yard 53 = .ok (.getfield 123, 3) := by decide +kernel
theorem dX5_yard_56 : decode cX5_yard 56 = .ok (.iconst 3, 1) := by decide +kernel
theorem dX5_yard_57 : decode cX5_yard 57 = .ok (.if_icmp .lt 13, 3) := by decide +kernel
theorem dX5_yard_60 : decode cX5_yard 60 = .ok (.new 69, 3) := by decide +kernel
theorem dX5_yard_63 : decode cX5_yard 63 = .ok (.dup, 1) := by decide +kernel
theorem dX5_yard_64 : decode cX5_yard 64 = .ok (.ldc 126, 2) := by decide +kernel
theorem dX5_yard_66 : decode cX5_yard 66 = .ok (.invokespecial 73, 3) := by decide +kernel
theorem dX5_yard_69 : decode cX5_yard 69 = .ok (.athrow, 1) := by decide +kernel
theorem dX5_yard_70 : decode cX5_yard 70 = .ok (.aload_n 3, 1) := by decide +kernel
theorem dX5_yard_71 : decode cX5_yard 71 = .ok (.getfield 128, 3) := by decide +kernel
theorem dX5_yard_74 : decode cX5_yard 74 = .ok (.aload_n 3, 1) := by decide +kernel
theorem dX5_yard_75 : decode cX5_yard 75 = .ok (.getfield 123, 3) := by decide +kernel
theorem dX5_yard_78 : decode cX5_yard 78 = .ok (.iload_n 2, 1) := by decide +kernel
theorem dX5_yard_79 : decode cX5_yard 79 = .ok (.iastore, 1) := by decide +kernel
theorem dX5_yard_80 : decode cX5_yard 80 = .ok (.aload_n 3, 1) := by decide +kernel
theorem dX5_yard_81 : decode cX5_yard 81 = .ok (.dup, 1) := by decide +kernel
theorem dX5_yard_82 : decode cX5_yard 82 = .ok (.getfield 123, 3) := by decide +kernel
theorem dX5_yard_85 : decode cX5_yard 85 = .ok (.iconst 1, 1) := by decide +kernel
theorem dX5_yard_86 : decode cX5_yard 86 = .ok (.iadd, 1) := by decide +kernel
theorem dX5_yard_87 : decode cX5_yard 87 = .ok (.putfield 123, 3) := by decide +kernel
theorem dX5_yard_90 : decode cX5_yard 90 = .ok (.aload_n 3, 1) := by decide +kernel
theorem dX5_yard_91 : decode cX5_yard 91 = .ok (.getfield 123, 3) := by decide +kernel
theorem dX5_yard_94 : decode cX5_yard 94 = .ok (.ireturn, 1) := by decide +kernel
set_option maxRecDepth 20000 in
theorem ggX5_lead_X5_isMast : GoodIn wsX5_lead wsX5_isMast := goodIn_r _ [18, 19, 37, 38, 39, 40, 41, 42, 43, 44, 45, 46, 47, 48, 49, 50] (by decide +kernel) (by decide +kernel)
set_option maxRecDepth 20000 in
theorem gX5_lead_X5_isMast : GoodIn wsX5_lead (wsV RX5 113 RX5 yX5_isMast wsX5_isMast) := goodIn_app (goodIn_of _ (by decide +kernel)) ggX5_lead_X5_isMast
set_option maxRecDepth 20000 in
theorem ggX5_lead_X5_isWithin : GoodIn wsX5_lead wsX5_isWithin := goodIn_r _ [22] (by decide +kernel) (by decide +kernel)
set_option maxRecDepth 20000 in
theorem gX5_lead_X5_isWithin : GoodIn wsX5_lead (va_wsS RX5 54 yX5_isWithin wsX5_isWithin) := goodIn_app (goodIn_of _ (by decide +kernel)) ggX5_lead_X5_isWithin
set_option maxRecDepth 20000 in
theorem ggX5_lead_X1_span : GoodIn wsX5_lead wsX1_span := goodIn_r _ [27, 28, 29, 30, 31, 32, 33, 34, 35, 36, 51, 52, 53, 54, 55, 56] (by decide +kernel) (by decide +kernel)
set_option maxRecDepth 20000 in
theorem gX5_lead_X1_span : GoodIn wsX5_lead (wsV RX5 147 RX1 yX1_span wsX1_span) := goodIn_app (goodIn_of _ (by decide +kernel)) ggX5_lead_X1_span
theorem dX5_lead_0 : decode cX5_lead 0 = .ok (.aload_n 0, 1) := by decide +kernel
theorem dX5_lead_1 : decode cX5_lead 1 = .ok (.iload_n 1, 1) := by decide +kernel
theorem dX5_lead_2 : decode cX5_lead 2 = .ok (.invokevirtual 113, 3) := by decide +kernel
theorem dX5_lead_5 : decode cX5_lead 5 = .ok (.ifCond .eq 16, 3) := by decide +kernel
theorem dX5_lead_8 : decode cX5_lead 8 = .ok (.iload_n 2, 1) := by decide +kernel
theorem dX5_lead_9 : decode cX5_lead 9 = .ok (.iconst (-1), 1) := by decide +kernel
theorem dX5_lead_10 : decode cX5_lead 10 = .ok (.if_icmp .eq 21, 3) := by decide +kernel
theorem dX5_lead_13 : decode cX5_lead 13 = .ok (.aload_n 0, 1) := by decide +kernel
theorem dX5_lead_14 : decode cX5_lead 14 = .ok (.iload_n 2, 1) := by decide +kernel
theorem dX5_lead_15 : decode cX5_lead 15 = .ok (.invokevirtual 113, 3) := by decide +kernel
theorem dX5_lead_18 : decode cX5_lead 18 = .ok (.ifCond .ne 13, 3) := by decide +kernel
theorem dX5_lead_21 : decode cX5_lead 21 = .ok (.new 116, 3) := by decide +kernel
theorem dX5_lead_24 : decode cX5_lead 24 = .ok (.dup, 1) := by decide +kernel
theorem dX5_lead_25 : decode cX5_lead 25 = .ok (.ldc 118, 2) := by decide +kernel
theorem dX5_lead_27 : decode cX5_lead 27 = .ok (.invokespecial 120, 3) := by decide +kernel
theorem dX5_lead_30 : decode cX5_lead 30 = .ok (.athrow, 1) := by decide +kernel
theorem dX5_lead_31 : decode cX5_lead 31 = .ok (.iload_n 1, 1) := by decide +kernel
theorem dX5_lead_32 : decode cX5_lead 32 = .ok (.iload_n 2, 1) := by decide +kernel
theorem dX5_lead_33 : decode cX5_lead 33 = .ok (.if_icmp .eq 13, 3) := by decide +kernel
theorem dX5_lead_36 : decode cX5_lead 36 = .ok (.iload_n 3, 1) := by decide +kernel
theorem dX5_lead_37 : decode cX5_lead 37 = .ok (.iconst 1, 1) := by decide +kernel
theorem dX5_lead_38 : decode cX5_lead 38 = .ok (.bipush 9, 2) := by decide +kernel
theorem dX5_lead_40 : decode cX5_lead 40 = .ok (.invokestatic 54, 3) := by decide +kernel
theorem dX5_lead_43 : decode cX5_lead 43 = .ok (.ifCond .ne 13, 3) := by decide +kernel
theorem dX5_lead_46 : decode cX5_lead 46 = .ok (.new 58, 3) := by decide +kernel
theorem dX5_lead_49 : decode cX5_lead 49 = .ok (.dup, 1) := by decide +kernel
theorem dX5_lead_50 : decode cX5_lead 50 = .ok (.ldc 131, 2) := by decide +kernel
theorem dX5_lead_52 : decode cX5_lead 52 = .ok (.invokespecial 62, 3) := by decide +kernel
theorem dX5_lead_55 : decode cX5_lead 55 = .ok (.athrow, 1) := by decide +kernel
theorem dX5_lead_56 : decode cX5_lead 56 = .ok (.aload_n 0, 1) := by decide +kernel
theorem dX5_lead_57 : decode cX5_lead 57 = .ok (.getfield 133, 3) := by decide +kernel
theorem dX5_lead_60 : decode cX5_lead 60 = .ok (.bipush 8, 2) := by decide +kernel
theorem dX5_lead_62 : decode cX5_lead 62 = .ok (.if_icmp .lt 13, 3) := by decide +kernel
theorem dX5_lead_65 : decode cX5_lead 65 = .ok (.new 69, 3) := by decide +kernel
theorem dX5_lead_68 : decode cX5_lead 68 = .ok (.dup, 1) := by decide +kernel
theorem dX5_lead_69 : decode cX5_lead 69 = .ok (.ldc 136, 2) := by decide +kernel
theorem dX5_lead_71 : decode cX5_lead 71 = .ok (.invokespecial 73, 3) := by decide +kernel
theorem dX5_lead_74 : decode cX5_lead 74 = .ok (.athrow, 1) := by decide +kernel
theorem dX5_lead_75 : decode cX5_lead 75 = .ok (.aload_n 0, 1) := by decide +kernel
theorem dX5_lead_76 : decode cX5_lead 76 = .ok (.getfield 133, 3) := by decide +kernel
theorem dX5_lead_79 : decode cX5_lead 79 = .ok (.istore 4, 2) := by decide +kernel
theorem dX5_lead_81 : decode cX5_lead 81 = .ok (.aload_n 0, 1) := by decide +kernel
theorem dX5_lead_82 : decode cX5_lead 82 = .ok (.getfield 31, 3) := by decide +kernel
theorem dX5_lead_85 : decode cX5_lead 85 = .ok (.iload 4, 2) := by decide +kernel
theorem dX5_lead_87 : decode cX5_lead 87 = .ok (.aaload, 1) := by decide +kernel
theorem dX5_lead_88 : decode cX5_lead 88 = .ok (.iload_n 1, 1) := by decide +kernel
theorem dX5_lead_89 : decode cX5_lead 89 = .ok (.putfield 138, 3) := by decide +kernel
theorem dX5_lead_92 : decode cX5_lead 92 = .ok (.aload_n 0, 1) := by decide +kernel
theorem dX5_lead_93 : decode cX5_lead 93 = .ok (.getfield 31, 3) := by decide +kernel
theorem dX5_lead_96 : decode cX5_lead 96 = .ok (.iload 4, 2) := by decide +kernel
theorem dX5_lead_98 : decode cX5_lead 98 = .ok (.aaload, 1) := by decide +kernel
theorem dX5_lead_99 : decode cX5_lead 99 = .ok (.iload_n 2, 1) := by decide +kernel
theorem dX5_lead_100 : decode cX5_lead 100 = .ok (.putfield 141, 3) := by decide +kernel
theorem dX5_lead_103 : decode cX5_lead 103 = .ok (.aload_n 0, 1) := by decide +kernel
theorem dX5_lead_104 : decode cX5_lead 104 = .ok (.getfield 31, 3) := by decide +kernel
theorem dX5_lead_107 : decode cX5_lead 107 = .ok (.iload 4, 2) := by decide +kernel
theorem dX5_lead_109 : decode cX5_lead 109 = .ok (.aaload, 1) := by decide +kernel
theorem dX5_lead_110 : decode cX5_lead 110 = .ok (.iload_n 3, 1) := by decide +kernel
theorem dX5_lead_111 : decode cX5_lead 111 = .ok (.putfield 144, 3) := by decide +kernel
theorem dX5_lead_114 : decode cX5_lead 114 = .ok (.aload_n 0, 1) := by decide +kernel
theorem dX5_lead_115 : decode cX5_lead 115 = .ok (.getfield 31, 3) := by decide +kernel
theorem dX5_lead_118 : decode cX5_lead 118 = .ok (.iload 4, 2) := by decide +kernel
theorem dX5_lead_120 : decode cX5_lead 120 = .ok (.aaload, 1) := by decide +kernel
theorem dX5_lead_121 : decode cX5_lead 121 = .ok (.aload_n 0, 1) := by decide +kernel
theorem dX5_lead_122 : decode cX5_lead 122 = .ok (.getfield 25, 3) := by decide +kernel
theorem dX5_lead_125 : decode cX5_lead 125 = .ok (.iload_n 1, 1) := by decide +kernel
theorem dX5_lead_126 : decode cX5_lead 126 = .ok (.aaload, 1) := by decide +kernel
theorem dX5_lead_127 : decode cX5_lead 127 = .ok (.getfield 109, 3) := by decide +kernel
theorem dX5_lead_130 : decode cX5_lead 130 = .ok (.iload_n 2, 1) := by decide +kernel
theorem dX5_lead_131 : decode cX5_lead 131 = .ok (.iconst (-1), 1) := by decide +kernel
theorem dX5_lead_132 : decode cX5_lead 132 = .ok (.if_icmp .ne 7, 3) := by decide +kernel
theorem dX5_lead_135 : decode cX5_lead 135 = .ok (.iconst 0, 1) := by decide +kernel
theorem dX5_lead_136 : decode cX5_lead 136 = .ok (.goto 12, 3) := by decide +kernel
theorem dX5_lead_139 : decode cX5_lead 139 = .ok (.aload_n 0, 1) := by decide +kernel
theorem dX5_lead_140 : decode cX5_lead 140 = .ok (.getfield 25, 3) := by decide +kernel
theorem dX5_lead_143 : decode cX5_lead 143 = .ok (.iload_n 2, 1) := by decide +kernel
theorem dX5_lead_144 : decode cX5_lead 144 = .ok (.aaload, 1) := by decide +kernel
theorem dX5_lead_145 : decode cX5_lead 145 = .ok (.getfield 109, 3) := by decide +kernel
theorem dX5_lead_148 : decode cX5_lead 148 = .ok (.invokevirtual 147, 3) := by decide +kernel
theorem dX5_lead_151 : decode cX5_lead 151 = .ok (.aload_n 0, 1) := by decide +kernel
theorem dX5_lead_152 : decode cX5_lead 152 = .ok (.dup, 1) := by decide +kernel
theorem dX5_lead_153 : decode cX5_lead 153 = .ok (.getfield 133, 3) := by decide +kernel
theorem dX5_lead_156 : decode cX5_lead 156 = .ok (.iconst 1, 1) := by decide +kernel
theorem dX5_lead_157 : decode cX5_lead 157 = .ok (.iadd, 1) := by decide +kernel
theorem dX5_lead_158 : decode cX5_lead 158 = .ok (.putfield 133, 3) := by decide +kernel
theorem dX5_lead_161 : decode cX5_lead 161 = .ok (.iload 4, 2) := by decide +kernel
theorem dX5_lead_163 : decode cX5_lead 163 = .ok (.ireturn, 1) := by decide +kernel
set_option maxRecDepth 20000 in
theorem ggX5_enter_X5_goesThroughNeck : GoodIn wsX5_enter wsX5_goesThroughNeck := goodIn_r _ [7, 8, 9, 2, 10, 11, 12, 6, 13, 14, 15, 16, 17, 18, 19, 20, 21, 22, 23, 24, 25, 26, 27, 28, 29, 30, 31, 32, 33, 34, 35, 36, 37, 38, 39, 57, 58, 59, 60, 61, 62, 63, 64, 65, 66, 67, 68, 69, 70, 71, 72, 73, 74, 75, 76, 77, 78, 79, 80, 81] (by decide +kernel) (by decide +kernel)
set_option maxRecDepth 20000 in
theorem gX5_enter_X5_goesThroughNeck : GoodIn wsX5_enter (wsV RX5 151 RX5 yX5_goesThroughNeck wsX5_goesThroughNeck) := goodIn_app (goodIn_of _ (by decide +kernel)) ggX5_enter_X5_goesThroughNeck
set_option maxRecDepth 20000 in
theorem ggX5_enter_X5_fitsWith : GoodIn wsX5_enter wsX5_fitsWith := goodIn_r _ [43, 8, 44, 45, 46, 47, 48, 49, 6, 50, 14, 51, 16, 17, 52, 18, 19, 20, 21, 53, 54, 55, 25, 56, 39, 30, 31, 32, 33, 34, 35, 36, 37, 38, 57, 58, 59, 60, 61, 62, 63, 64, 65, 66, 67, 68, 69, 70, 71, 72, 73, 74, 75, 76, 77, 78, 79, 80, 81] (by decide +kernel) (by decide +kernel)
set_option maxRecDepth 20000 in
theorem gX5_enter_X5_fitsWith : GoodIn wsX5_enter (wsV RX5 155 RX5 yX5_fitsWith wsX5_fitsWith) := goodIn_app (goodIn_of _ (by decide +kernel)) ggX5_enter_X5_fitsWith
theorem dX5_enter_0 : decode cX5_enter 0 = .ok (.aload_n 0, 1) := by decide +kernel
theorem dX5_enter_1 : decode cX5_enter 1 = .ok (.getfield 65, 3) := by decide +kernel
theorem dX5_enter_4 : decode cX5_enter 4 = .ok (.ifCond .ne 21, 3) := by decide +kernel
theorem dX5_enter_7 : decode cX5_enter 7 = .ok (.aload_n 0, 1) := by decide +kernel
theorem dX5_enter_8 : decode cX5_enter 8 = .ok (.invokevirtual 151, 3) := by decide +kernel
theorem dX5_enter_11 : decode cX5_enter 11 = .ok (.ifCond .eq 14, 3) := by decide +kernel
theorem dX5_enter_14 : decode cX5_enter 14 = .ok (.aload_n 0, 1) := by decide +kernel
theorem dX5_enter_15 : decode cX5_enter 15 = .ok (.aload_n 0, 1) := by decide +kernel
theorem dX5_enter_16 : decode cX5_enter 16 = .ok (.getfield 42, 3) := by decide +kernel
theorem dX5_enter_19 : decode cX5_enter 19 = .ok (.invokevirtual 155, 3) := by decide +kernel
theorem dX5_enter_22 : decode cX5_enter 22 = .ok (.ifCond .ne 5, 3) := by decide +kernel
theorem dX5_enter_25 : decode cX5_enter 25 = .ok (.iconst 0, 1) := by decide +kernel
theorem dX5_enter_26 : decode cX5_enter 26 = .ok (.ireturn, 1) := by decide +kernel
theorem dX5_enter_27 : decode cX5_enter 27 = .ok (.aload_n 0, 1) := by decide +kernel
theorem dX5_enter_28 : decode cX5_enter 28 = .ok (.iconst 1, 1) := by decide +kernel
theorem dX5_enter_29 : decode cX5_enter 29 = .ok (.putfield 65, 3) := by decide +kernel
theorem dX5_enter_32 : decode cX5_enter 32 = .ok (.iconst 1, 1) := by decide +kernel
theorem dX5_enter_33 : decode cX5_enter 33 = .ok (.ireturn, 1) := by decide +kernel
set_option maxRecDepth 20000 in
theorem ggX5_leave_X5_goesThroughNeck : GoodIn wsX5_leave wsX5_goesThroughNeck := goodIn_r _ [6, 7, 8, 9, 10, 11, 12, 5, 13, 14, 15, 16, 17, 18, 19, 20, 21, 22, 23, 24, 25, 26, 27, 28, 29, 30, 31, 32, 33, 34, 35, 36, 37, 38, 39, 40, 41, 42, 43, 44, 45, 46, 47, 48, 49, 50, 51, 52, 53, 54, 55, 56, 57, 58, 59, 60, 61, 62, 63, 64] (by decide +kernel) (by decide +kernel)
set_option maxRecDepth 20000 in
theorem gX5_leave_X5_goesThroughNeck : GoodIn wsX5_leave (wsV RX5 151 RX5 yX5_goesThroughNeck wsX5_goesThroughNeck) := goodIn_app (goodIn_of _ (by decide +kernel)) ggX5_leave_X5_goesThroughNeck
theorem dX5_leave_0 : decode cX5_leave 0 = .ok (.aload_n 0, 1) := by decide +kernel
theorem dX5_leave_1 : decode cX5_leave 1 = .ok (.getfield 65, 3) := by decide +kernel
theorem dX5_leave_4 : decode cX5_leave 4 = .ok (.ifCond .eq 10, 3) := by decide +kernel
theorem dX5_leave_7 : decode cX5_leave 7 = .ok (.aload_n 0, 1) := by decide +kernel
theorem dX5_leave_8 : decode cX5_leave 8 = .ok (.invokevirtual 151, 3) := by decide +kernel
theorem dX5_leave_11 : decode cX5_leave 11 = .ok (.ifCond .ne 5, 3) := by decide +kernel
theorem dX5_leave_14 : decode cX5_leave 14 = .ok (.iconst 0, 1) := by decide +kernel
theorem dX5_leave_15 : decode cX5_leave 15 = .ok (.ireturn, 1) := by decide +kernel
theorem dX5_leave_16 : decode cX5_leave 16 = .ok (.aload_n 0, 1) := by decide +kernel
theorem dX5_leave_17 : decode cX5_leave 17 = .ok (.iconst 0, 1) := by decide +kernel
theorem dX5_leave_18 : decode cX5_leave 18 = .ok (.putfield 65, 3) := by decide +kernel
theorem dX5_leave_21 : decode cX5_leave 21 = .ok (.iconst 1, 1) := by decide +kernel
theorem dX5_leave_22 : decode cX5_leave 22 = .ok (.ireturn, 1) := by decide +kernel
set_option maxRecDepth 20000 in
theorem ggX5_pull_X5_isThread : GoodIn wsX5_pull wsX5_isThread := goodIn_r _ [20, 21, 101, 102, 103, 104, 105, 106, 107, 108, 109, 110, 111, 112, 113, 114] (by decide +kernel) (by decide +kernel)
set_option maxRecDepth 20000 in
theorem gX5_pull_X5_isThread : GoodIn wsX5_pull (wsV RX5 159 RX5 yX5_isThread wsX5_isThread) := goodIn_app (goodIn_of _ (by decide +kernel)) ggX5_pull_X5_isThread
set_option maxRecDepth 20000 in
theorem ggX5_pull_X5_hindranceOf : GoodIn wsX5_pull wsX5_hindranceOf := goodIn_r _ [25, 9, 10, 11, 26, 27, 28, 29, 19, 30, 31, 32, 33, 34, 21, 5, 6, 35, 36, 37, 38, 39, 40, 41, 42, 43, 44, 45, 46, 47, 48, 49, 50, 51, 52, 53, 54, 55, 56, 57, 58, 59, 60, 61, 62, 63, 64, 65, 66, 67, 68, 69, 70, 71, 72, 73, 74, 75, 76, 77, 78, 79, 80, 81, 82, 83, 84, 85, 86, 87, 88, 89, 90, 91, 92, 93, 94, 95, 115, 116, 117, 118, 119, 120, 101, 102, 103, 104, 105, 106, 107, 108, 109, 110, 111, 112, 113, 114, 121, 122, 123, 124, 125, 126, 127, 128, 129, 130, 131] (by decide +kernel) (by decide +kernel)
set_option maxRecDepth 20000 in
theorem gX5_pull_X5_hindranceOf : GoodIn wsX5_pull (wsV RX5 169 RX5 yX5_hindranceOf wsX5_hindranceOf) := goodIn_app (goodIn_of _ (by decide +kernel)) ggX5_pull_X5_hindranceOf
set_option maxRecDepth 20000 in
theorem ggX5_pull_X1_wear : GoodIn wsX5_pull wsX1_wear := goodIn_r _ [99, 100, 45, 115, 116, 117, 118, 119, 120] (by decide +kernel) (by decide +kernel)
set_option maxRecDepth 20000 in
theorem gX5_pull_X1_wear : GoodIn wsX5_pull (wsV RX5 176 RX1 yX1_wear wsX1_wear) := goodIn_app (goodIn_of _ (by decide +kernel)) ggX5_pull_X1_wear
set_option maxRecDepth 20000 in
theorem ggX5_pull_X5_loweredBy : GoodIn wsX5_pull wsX5_loweredBy := goodIn_r _ [58, 21, 5, 9, 6, 59, 27, 28, 29, 19, 30, 31, 32, 33, 34, 101, 102, 103, 104, 105, 106, 107, 108, 109, 110, 111, 112, 113, 114, 115, 116, 117, 118, 119, 120] (by decide +kernel) (by decide +kernel)
set_option maxRecDepth 20000 in
theorem gX5_pull_X5_loweredBy : GoodIn wsX5_pull (wsV RX5 182 RX5 yX5_loweredBy wsX5_loweredBy) := goodIn_app (goodIn_of _ (by decide +kernel)) ggX5_pull_X5_loweredBy
set_option maxRecDepth 20000 in
theorem ggX5_pull_X5_raise : GoodIn wsX5_pull wsX5_raise := goodIn_r _ [62] (by decide +kernel) (by decide +kernel)
set_option maxRecDepth 20000 in
theorem gX5_pull_X5_raise : GoodIn wsX5_pull (va_wsS RX5 186 yX5_raise wsX5_raise) := goodIn_app (goodIn_of _ (by decide +kernel)) ggX5_pull_X5_raise
theorem dX5_pull_0 : decode cX5_pull 0 = .ok (.aload_n 0, 1) := by decide +kernel
theorem dX5_pull_1 : decode cX5_pull 1 = .ok (.iload_n 1, 1) := by decide +kernel
theorem dX5_pull_2 : decode cX5_pull 2 = .ok (.invokevirtual 159, 3) := by decide +kernel
theorem dX5_pull_5 : decode cX5_pull 5 = .ok (.ifCond .ne 13, 3) := by decide +kernel
theorem dX5_pull_8 : decode cX5_pull 8 = .ok (.new 116, 3) := by decide +kernel
theorem dX5_pull_11 : decode cX5_pull 11 = .ok (.dup, 1) := by decide +kernel
theorem dX5_pull_12 : decode cX5_pull 12 = .ok (.ldc 162, 2) := by decide +kernel
theorem dX5_pull_14 : decode cX5_pull 14 = .ok (.invokespecial 120, 3) := by decide +kernel
theorem dX5_pull_17 : decode cX5_pull 17 = .ok (.athrow, 1) := by decide +kernel
theorem dX5_pull_18 : decode cX5_pull 18 = .ok (.aload_n 0, 1) := by decide +kernel
theorem dX5_pull_19 : decode cX5_pull 19 = .ok (.getfield 31, 3) := by decide +kernel
theorem dX5_pull_22 : decode cX5_pull 22 = .ok (.iload_n 1, 1) := by decide +kernel
theorem dX5_pull_23 : decode cX5_pull 23 = .ok (.aaload, 1) := by decide +kernel
theorem dX5_pull_24 : decode cX5_pull 24 = .ok (.astore_n 2, 1) := by decide +kernel
theorem dX5_pull_25 : decode cX5_pull 25 = .ok (.aload_n 2, 1) := by decide +kernel
theorem dX5_pull_26 : decode cX5_pull 26 = .ok (.getfield 164, 3) := by decide +kernel
theorem dX5_pull_29 : decode cX5_pull 29 = .ok (.ifCond .eq 13, 3) := by decide +kernel
theorem dX5_pull_32 : decode cX5_pull 32 = .ok (.new 69, 3) := by decide +kernel
theorem dX5_pull_35 : decode cX5_pull 35 = .ok (.dup, 1) := by decide +kernel
theorem dX5_pull_36 : decode cX5_pull 36 = .ok (.ldc 167, 2) := by decide +kernel
theorem dX5_pull_38 : decode cX5_pull 38 = .ok (.invokespecial 73, 3) := by decide +kernel
theorem dX5_pull_41 : decode cX5_pull 41 = .ok (.athrow, 1) := by decide +kernel
theorem dX5_pull_42 : decode cX5_pull 42 = .ok (.aload_n 0, 1) := by decide +kernel
theorem dX5_pull_43 : decode cX5_pull 43 = .ok (.aload_n 2, 1) := by decide +kernel
theorem dX5_pull_44 : decode cX5_pull 44 = .ok (.invokevirtual 169, 3) := by decide +kernel
theorem dX5_pull_47 : decode cX5_pull 47 = .ok (.istore_n 3, 1) := by decide +kernel
theorem dX5_pull_48 : decode cX5_pull 48 = .ok (.iload_n 3, 1) := by decide +kernel
theorem dX5_pull_49 : decode cX5_pull 49 = .ok (.ifCond .eq 24, 3) := by decide +kernel
theorem dX5_pull_52 : decode cX5_pull 52 = .ok (.aload_n 0, 1) := by decide +kernel
theorem dX5_pull_53 : decode cX5_pull 53 = .ok (.dup, 1) := by decide +kernel
theorem dX5_pull_54 : decode cX5_pull 54 = .ok (.getfield 173, 3) := by decide +kernel
theorem dX5_pull_57 : decode cX5_pull 57 = .ok (.iconst 1, 1) := by decide +kernel
theorem dX5_pull_58 : decode cX5_pull 58 = .ok (.iadd, 1) := by decide +kernel
theorem dX5_pull_59 : decode cX5_pull 59 = .ok (.putfield 173, 3) := by decide +kernel
theorem dX5_pull_62 : decode cX5_pull 62 = .ok (.iload_n 3, 1) := by decide +kernel
theorem dX5_pull_63 : decode cX5_pull 63 = .ok (.iconst (-1), 1) := by decide +kernel
theorem dX5_pull_64 : decode cX5_pull 64 = .ok (.if_icmp .eq 7, 3) := by decide +kernel
theorem dX5_pull_67 : decode cX5_pull 67 = .ok (.aload_n 2, 1) := by decide +kernel
theorem dX5_pull_68 : decode cX5_pull 68 = .ok (.invokevirtual 176, 3) := by decide +kernel
theorem dX5_pull_71 : decode cX5_pull 71 = .ok (.iload_n 3, 1) := by decide +kernel
theorem dX5_pull_72 : decode cX5_pull 72 = .ok (.ireturn, 1) := by decide +kernel
theorem dX5_pull_73 : decode cX5_pull 73 = .ok (.aload_n 0, 1) := by decide +kernel
theorem dX5_pull_74 : decode cX5_pull 74 = .ok (.dup, 1) := by decide +kernel
theorem dX5_pull_75 : decode cX5_pull 75 = .ok (.getfield 179, 3) := by decide +kernel
theorem dX5_pull_78 : decode cX5_pull 78 = .ok (.iconst 1, 1) := by decide +kernel
theorem dX5_pull_79 : decode cX5_pull 79 = .ok (.iadd, 1) := by decide +kernel
theorem dX5_pull_80 : decode cX5_pull 80 = .ok (.putfield 179, 3) := by decide +kernel
theorem dX5_pull_83 : decode cX5_pull 83 = .ok (.aload_n 2, 1) := by decide +kernel
theorem dX5_pull_84 : decode cX5_pull 84 = .ok (.getfield 138, 3) := by decide +kernel
theorem dX5_pull_87 : decode cX5_pull 87 = .ok (.aload_n 0, 1) := by decide +kernel
theorem dX5_pull_88 : decode cX5_pull 88 = .ok (.aload_n 2, 1) := by decide +kernel
theorem dX5_pull_89 : decode cX5_pull 89 = .ok (.getfield 138, 3) := by decide +kernel
theorem dX5_pull_92 : decode cX5_pull 92 = .ok (.invokevirtual 182, 3) := by decide +kernel
theorem dX5_pull_95 : decode cX5_pull 95 = .ok (.aload_n 0, 1) := by decide +kernel
theorem dX5_pull_96 : decode cX5_pull 96 = .ok (.getfield 42, 3) := by decide +kernel
theorem dX5_pull_99 : decode cX5_pull 99 = .ok (.aload_n 0, 1) := by decide +kernel
theorem dX5_pull_100 : decode cX5_pull 100 = .ok (.getfield 49, 3) := by decide +kernel
theorem dX5_pull_103 : decode cX5_pull 103 = .ok (.invokestatic 186, 3) := by decide +kernel
theorem dX5_pull_106 : decode cX5_pull 106 = .ok (.aload_n 0, 1) := by decide +kernel
theorem dX5_pull_107 : decode cX5_pull 107 = .ok (.getfield 49, 3) := by decide +kernel
theorem dX5_pull_110 : decode cX5_pull 110 = .ok (.iconst 0, 1) := by decide +kernel
theorem dX5_pull_111 : decode cX5_pull 111 = .ok (.aload_n 0, 1) := by decide +kernel
theorem dX5_pull_112 : decode cX5_pull 112 = .ok (.getfield 42, 3) := by decide +kernel
theorem dX5_pull_115 : decode cX5_pull 115 = .ok (.iconst 0, 1) := by decide +kernel
theorem dX5_pull_116 : decode cX5_pull 116 = .ok (.iconst 3, 1) := by decide +kernel
theorem dX5_pull_117 : decode cX5_pull 117 = .ok (.invokestatic 190, 3) := by decide +kernel
theorem dX5_pull_120 : decode cX5_pull 120 = .ok (.aload_n 0, 1) := by decide +kernel
theorem dX5_pull_121 : decode cX5_pull 121 = .ok (.getfield 42, 3) := by decide +kernel
theorem dX5_pull_124 : decode cX5_pull 124 = .ok (.aload_n 2, 1) := by decide +kernel
theorem dX5_pull_125 : decode cX5_pull 125 = .ok (.getfield 138, 3) := by decide +kernel
theorem dX5_pull_128 : decode cX5_pull 128 = .ok (.iaload, 1) := by decide +kernel
theorem dX5_pull_129 : decode cX5_pull 129 = .ok (.ireturn, 1) := by decide +kernel
set_option maxRecDepth 20000 in
theorem ggX5_glue_X5_isThread : GoodIn wsX5_glue wsX5_isThread := goodIn_r _ [11, 12, 13, 14, 15, 16, 17, 18, 19, 20, 21, 22, 23, 24, 25, 26] (by decide +kernel) (by decide +kernel)
set_option maxRecDepth 20000 in
theorem gX5_glue_X5_isThread : GoodIn wsX5_glue (wsV RX5 159 RX5 yX5_isThread wsX5_isThread) := goodIn_app (goodIn_of _ (by decide +kernel)) ggX5_glue_X5_isThread
theorem dX5_glue_0 : decode cX5_glue 0 = .ok (.aload_n 0, 1) := by decide +kernel
theorem dX5_glue_1 : decode cX5_glue 1 = .ok (.iload_n 1, 1) := by decide +kernel
theorem dX5_glue_2 : decode cX5_glue 2 = .ok (.invokevirtual 159, 3) := by decide +kernel
theorem dX5_glue_5 : decode cX5_glue 5 = .ok (.ifCond .ne 13, 3) := by decide +kernel
theorem dX5_glue_8 : decode cX5_glue 8 = .ok (.new 116, 3) := by decide +kernel
theorem dX5_glue_11 : decode cX5_glue 11 = .ok (.dup, 1) := by decide +kernel
theorem dX5_glue_12 : decode cX5_glue 12 = .ok (.ldc 162, 2) := by decide +kernel
theorem dX5_glue_14 : decode cX5_glue 14 = .ok (.invokespecial 120, 3) := by decide +kernel
theorem dX5_glue_17 : decode cX5_glue 17 = .ok (.athrow, 1) := by decide +kernel
theorem dX5_glue_18 : decode cX5_glue 18 = .ok (.aload_n 0, 1) := by decide +kernel
theorem dX5_glue_19 : decode cX5_glue 19 = .ok (.getfield 31, 3) := by decide +kernel
theorem dX5_glue_22 : decode cX5_glue 22 = .ok (.iload_n 1, 1) := by decide +kernel
theorem dX5_glue_23 : decode cX5_glue 23 = .ok (.aaload, 1) := by decide +kernel
theorem dX5_glue_24 : decode cX5_glue 24 = .ok (.astore_n 2, 1) := by decide +kernel
theorem dX5_glue_25 : decode cX5_glue 25 = .ok (.aload_n 2, 1) := by decide +kernel
theorem dX5_glue_26 : decode cX5_glue 26 = .ok (.getfield 164, 3) := by decide +kernel
theorem dX5_glue_29 : decode cX5_glue 29 = .ok (.iconst 2, 1) := by decide +kernel
theorem dX5_glue_30 : decode cX5_glue 30 = .ok (.if_icmp .ne 13, 3) := by decide +kernel
theorem dX5_glue_33 : decode cX5_glue 33 = .ok (.new 69, 3) := by decide +kernel
theorem dX5_glue_36 : decode cX5_glue 36 = .ok (.dup, 1) := by decide +kernel
theorem dX5_glue_37 : decode cX5_glue 37 = .ok (.ldc 196, 2) := by decide +kernel
theorem dX5_glue_39 : decode cX5_glue 39 = .ok (.invokespecial 73, 3) := by decide +kernel
theorem dX5_glue_42 : decode cX5_glue 42 = .ok (.athrow, 1) := by decide +kernel
theorem dX5_glue_43 : decode cX5_glue 43 = .ok (.aload_n 2, 1) := by decide +kernel
theorem dX5_glue_44 : decode cX5_glue 44 = .ok (.aload_n 2, 1) := by decide +kernel
theorem dX5_glue_45 : decode cX5_glue 45 = .ok (.getfield 164, 3) := by decide +kernel
theorem dX5_glue_48 : decode cX5_glue 48 = .ok (.ifCond .ne 7, 3) := by decide +kernel
theorem dX5_glue_51 : decode cX5_glue 51 = .ok (.iconst 1, 1) := by decide +kernel
theorem dX5_glue_52 : decode cX5_glue 52 = .ok (.goto 4, 3) := by decide +kernel
theorem dX5_glue_55 : decode cX5_glue 55 = .ok (.iconst 0, 1) := by decide +kernel
theorem dX5_glue_56 : decode cX5_glue 56 = .ok (.putfield 164, 3) := by decide +kernel
theorem dX5_glue_59 : decode cX5_glue 59 = .ok (.aload_n 2, 1) := by decide +kernel
theorem dX5_glue_60 : decode cX5_glue 60 = .ok (.getfield 164, 3) := by decide +kernel
theorem dX5_glue_63 : decode cX5_glue 63 = .ok (.iconst 1, 1) := by decide +kernel
theorem dX5_glue_64 : decode cX5_glue 64 = .ok (.if_icmp .ne 7, 3) := by decide +kernel
theorem dX5_glue_67 : decode cX5_glue 67 = .ok (.iconst 1, 1) := by decide +kernel
theorem dX5_glue_68 : decode cX5_glue 68 = .ok (.goto 4, 3) := by decide +kernel
theorem dX5_glue_71 : decode cX5_glue 71 = .ok (.iconst 0, 1) := by decide +kernel
theorem dX5_glue_72 : decode cX5_glue 72 = .ok (.ireturn, 1) := by decide +kernel
set_option maxRecDepth 20000 in
theorem ggX5_cross_X5_isThread : GoodIn wsX5_cross wsX5_isThread := goodIn_r _ [8, 9, 25, 26, 27, 28, 29, 30, 31, 32, 33, 34, 35, 36, 37, 38] (by decide +kernel) (by decide +kernel)
set_option maxRecDepth 20000 in
theorem gX5_cross_X5_isThread : GoodIn wsX5_cross (wsV RX5 159 RX5 yX5_isThread wsX5_isThread) := goodIn_app (goodIn_of _ (by decide +kernel)) ggX5_cross_X5_isThread
set_option maxRecDepth 20000 in
theorem ggX5_cross_X1_crosses : GoodIn wsX5_cross wsX1_crosses := goodIn_r _ [14, 15, 16, 17, 18, 19, 20, 21, 22, 23, 24, 39, 40, 41, 42, 43, 44] (by decide +kernel) (by decide +kernel)
set_option maxRecDepth 20000 in
theorem gX5_cross_X1_crosses : GoodIn wsX5_cross (wsV RX5 198 RX1 yX1_crosses wsX1_crosses) := goodIn_app (goodIn_of _ (by decide +kernel)) ggX5_cross_X1_crosses
theorem dX5_cross_0 : decode cX5_cross 0 = .ok (.aload_n 0, 1) := by decide +kernel
theorem dX5_cross_1 : decode cX5_cross 1 = .ok (.iload_n 1, 1) := by decide +kernel
theorem dX5_cross_2 : decode cX5_cross 2 = .ok (.invokevirtual 159, 3) := by decide +kernel
theorem dX5_cross_5 : decode cX5_cross 5 = .ok (.ifCond .eq 11, 3) := by decide +kernel
theorem dX5_cross_8 : decode cX5_cross 8 = .ok (.aload_n 0, 1) := by decide +kernel
theorem dX5_cross_9 : decode cX5_cross 9 = .ok (.iload_n 2, 1) := by decide +kernel
theorem dX5_cross_10 : decode cX5_cross 10 = .ok (.invokevirtual 159, 3) := by decide +kernel
theorem dX5_cross_13 : decode cX5_cross 13 = .ok (.ifCond .ne 13, 3) := by decide +kernel
theorem dX5_cross_16 : decode cX5_cross 16 = .ok (.new 116, 3) := by decide +kernel
theorem dX5_cross_19 : decode cX5_cross 19 = .ok (.dup, 1) := by decide +kernel
theorem dX5_cross_20 : decode cX5_cross 20 = .ok (.ldc 162, 2) := by decide +kernel
theorem dX5_cross_22 : decode cX5_cross 22 = .ok (.invokespecial 120, 3) := by decide +kernel
theorem dX5_cross_25 : decode cX5_cross 25 = .ok (.athrow, 1) := by decide +kernel
theorem dX5_cross_26 : decode cX5_cross 26 = .ok (.aload_n 0, 1) := by decide +kernel
theorem dX5_cross_27 : decode cX5_cross 27 = .ok (.getfield 31, 3) := by decide +kernel
theorem dX5_cross_30 : decode cX5_cross 30 = .ok (.iload_n 1, 1) := by decide +kernel
theorem dX5_cross_31 : decode cX5_cross 31 = .ok (.aaload, 1) := by decide +kernel
theorem dX5_cross_32 : decode cX5_cross 32 = .ok (.aload_n 0, 1) := by decide +kernel
theorem dX5_cross_33 : decode cX5_cross 33 = .ok (.getfield 31, 3) := by decide +kernel
theorem dX5_cross_36 : decode cX5_cross 36 = .ok (.iload_n 2, 1) := by decide +kernel
theorem dX5_cross_37 : decode cX5_cross 37 = .ok (.aaload, 1) := by decide +kernel
theorem dX5_cross_38 : decode cX5_cross 38 = .ok (.invokevirtual 198, 3) := by decide +kernel
theorem dX5_cross_41 : decode cX5_cross 41 = .ok (.ireturn, 1) := by decide +kernel
set_option maxRecDepth 20000 in
theorem ggX5_mast_X5_isMast : GoodIn wsX5_mast wsX5_isMast := goodIn_r _ [12, 13, 40, 41, 42, 43, 44, 45, 46, 47, 48, 49, 50, 51, 52, 53] (by decide +kernel) (by decide +kernel)
set_option maxRecDepth 20000 in
theorem gX5_mast_X5_isMast : GoodIn wsX5_mast (wsV RX5 113 RX5 yX5_isMast wsX5_isMast) := goodIn_app (goodIn_of _ (by decide +kernel)) ggX5_mast_X5_isMast
set_option maxRecDepth 20000 in
theorem ggX5_mast_X3_standing : GoodIn wsX5_mast wsX3_standing := goodIn_r _ [18, 19, 54, 55, 56, 57] (by decide +kernel) (by decide +kernel)
set_option maxRecDepth 20000 in
theorem gX5_mast_X3_standing : GoodIn wsX5_mast (wsV RX5 202 RX3 yX3_standing wsX3_standing) := goodIn_app (goodIn_of _ (by decide +kernel)) ggX5_mast_X3_standing
set_option maxRecDepth 20000 in
theorem ggX5_mast_X3_reach : GoodIn wsX5_mast wsX3_reach := goodIn_r _ [23, 19, 54, 55, 56, 57] (by decide +kernel) (by decide +kernel)
set_option maxRecDepth 20000 in
theorem gX5_mast_X3_reach : GoodIn wsX5_mast (wsV RX5 205 RX3 yX3_reach wsX3_reach) := goodIn_app (goodIn_of _ (by decide +kernel)) ggX5_mast_X3_reach
set_option maxRecDepth 20000 in
theorem ggX5_mast_X5_isHeld : GoodIn wsX5_mast wsX5_isHeld := goodIn_r _ [27, 28, 29, 30, 11, 31, 32, 33, 34, 35, 40, 41, 42, 43, 44, 45, 46, 47, 48, 49, 50, 51, 52, 53, 58, 59, 60, 61, 62, 63] (by decide +kernel) (by decide +kernel)
set_option maxRecDepth 20000 in
theorem gX5_mast_X5_isHeld : GoodIn wsX5_mast (wsV RX5 208 RX5 yX5_isHeld wsX5_isHeld) := goodIn_app (goodIn_of _ (by decide +kernel)) ggX5_mast_X5_isHeld
set_option maxRecDepth 20000 in
theorem ggX5_mast_X5_looseThreadsFrom : GoodIn wsX5_mast wsX5_looseThreadsFrom := goodIn_r _ [39, 28, 29, 30, 11, 31, 32, 33, 34, 35, 40, 41, 42, 43, 44, 45, 46, 47, 48, 49, 50, 51, 52, 53, 58, 59, 60, 61, 62, 63] (by decide +kernel) (by decide +kernel)
set_option maxRecDepth 20000 in
theorem gX5_mast_X5_looseThreadsFrom : GoodIn wsX5_mast (wsV RX5 211 RX5 yX5_looseThreadsFrom wsX5_looseThreadsFrom) := goodIn_app (goodIn_of _ (by decide +kernel)) ggX5_mast_X5_looseThreadsFrom
theorem dX5_mast_0 : decode cX5_mast 0 = .ok (.aload_n 0, 1) := by decide +kernel
theorem dX5_mast_1 : decode cX5_mast 1 = .ok (.iload_n 1, 1) := by decide +kernel
theorem dX5_mast_2 : decode cX5_mast 2 = .ok (.invokevirtual 113, 3) := by decide +kernel
theorem dX5_mast_5 : decode cX5_mast 5 = .ok (.ifCond .ne 13, 3) := by decide +kernel
theorem dX5_mast_8 : decode cX5_mast 8 = .ok (.new 116, 3) := by decide +kernel
theorem dX5_mast_11 : decode cX5_mast 11 = .ok (.dup, 1) := by decide +kernel
theorem dX5_mast_12 : decode cX5_mast 12 = .ok (.ldc 118, 2) := by decide +kernel
theorem dX5_mast_14 : decode cX5_mast 14 = .ok (.invokespecial 120, 3) := by decide +kernel
theorem dX5_mast_17 : decode cX5_mast 17 = .ok (.athrow, 1) := by decide +kernel
theorem dX5_mast_18 : decode cX5_mast 18 = .ok (.iload_n 2, 1) := by decide +kernel
theorem dX5_mast_19 : decode cX5_mast 19 = .ok (.tableswitch 134 0 7 #[45, 55, 65, 72, 88, 104, 114, 128], 45) := by decide +kernel
theorem dX5_mast_64 : decode cX5_mast 64 = .ok (.aload_n 0, 1) := by decide +kernel
theorem dX5_mast_65 : decode cX5_mast 65 = .ok (.getfield 25, 3) := by decide +kernel
theorem dX5_mast_68 : decode cX5_mast 68 = .ok (.iload_n 1, 1) := by decide +kernel
theorem dX5_mast_69 : decode cX5_mast 69 = .ok (.aaload, 1) := by decide +kernel
theorem dX5_mast_70 : decode cX5_mast 70 = .ok (.getfield 109, 3) := by decide +kernel
theorem dX5_mast_73 : decode cX5_mast 73 = .ok (.ireturn, 1) := by decide +kernel
theorem dX5_mast_74 : decode cX5_mast 74 = .ok (.aload_n 0, 1) := by decide +kernel
theorem dX5_mast_75 : decode cX5_mast 75 = .ok (.getfield 25, 3) := by decide +kernel
theorem dX5_mast_78 : decode cX5_mast 78 = .ok (.iload_n 1, 1) := by decide +kernel
theorem dX5_mast_79 : decode cX5_mast 79 = .ok (.aaload, 1) := by decide +kernel
theorem dX5_mast_80 : decode cX5_mast 80 = .ok (.getfield 112, 3) := by decide +kernel
theorem dX5_mast_83 : decode cX5_mast 83 = .ok (.ireturn, 1) := by decide +kernel
theorem dX5_mast_84 : decode cX5_mast 84 = .ok (.aload_n 0, 1) := by decide +kernel
theorem dX5_mast_85 : decode cX5_mast 85 = .ok (.getfield 42, 3) := by decide +kernel
theorem dX5_mast_88 : decode cX5_mast 88 = .ok (.iload_n 1, 1) := by decide +kernel
theorem dX5_mast_89 : decode cX5_mast 89 = .ok (.iaload, 1) := by decide +kernel
theorem dX5_mast_90 : decode cX5_mast 90 = .ok (.ireturn, 1) := by decide +kernel
theorem dX5_mast_91 : decode cX5_mast 91 = .ok (.aload_n 0, 1) := by decide +kernel
theorem dX5_mast_92 : decode cX5_mast 92 = .ok (.getfield 25, 3) := by decide +kernel
theorem dX5_mast_95 : decode cX5_mast 95 = .ok (.iload_n 1, 1) := by decide +kernel
theorem dX5_mast_96 : decode cX5_mast 96 = .ok (.aaload, 1) := by decide +kernel
theorem dX5_mast_97 : decode cX5_mast 97 = .ok (.aload_n 0, 1) := by decide +kernel
theorem dX5_mast_98 : decode cX5_mast 98 = .ok (.getfield 42, 3) := by decide +kernel
theorem dX5_mast_101 : decode cX5_mast 101 = .ok (.iload_n 1, 1) := by decide +kernel
theorem dX5_mast_102 : decode cX5_mast 102 = .ok (.iaload, 1) := by decide +kernel
theorem dX5_mast_103 : decode cX5_mast 103 = .ok (.invokevirtual 202, 3) := by decide +kernel
theorem dX5_mast_106 : decode cX5_mast 106 = .ok (.ireturn, 1) := by decide +kernel
theorem dX5_mast_107 : decode cX5_mast 107 = .ok (.aload_n 0, 1) := by decide +kernel
theorem dX5_mast_108 : decode cX5_mast 108 = .ok (.getfield 25, 3) := by decide +kernel
theorem dX5_mast_111 : decode cX5_mast 111 = .ok (.iload_n 1, 1) := by decide +kernel
theorem dX5_mast_112 : decode cX5_mast 112 = .ok (.aaload, 1) := by decide +kernel
theorem dX5_mast_113 : decode cX5_mast 113 = .ok (.aload_n 0, 1) := by decide +kernel
theorem dX5_mast_114 : decode cX5_mast 114 = .ok (.getfield 42, 3) := by decide +kernel
theorem dX5_mast_117 : decode cX5_mast 117 = .ok (.iload_n 1, 1) := by decide +kernel
theorem dX5_mast_118 : decode cX5_mast 118 = .ok (.iaload, 1) := by decide +kernel
theorem dX5_mast_119 : decode cX5_mast 119 = .ok (.invokevirtual 205, 3) := by decide +kernel
theorem dX5_mast_122 : decode cX5_mast 122 = .ok (.ireturn, 1) := by decide +kernel
theorem dX5_mast_123 : decode cX5_mast 123 = .ok (.aload_n 0, 1) := by decide +kernel
theorem dX5_mast_124 : decode cX5_mast 124 = .ok (.getfield 25, 3) := by decide +kernel
theorem dX5_mast_127 : decode cX5_mast 127 = .ok (.iload_n 1, 1) := by decide +kernel
theorem dX5_mast_128 : decode cX5_mast 128 = .ok (.aaload, 1) := by decide +kernel
theorem dX5_mast_129 : decode cX5_mast 129 = .ok (.getfield 123, 3) := by decide +kernel
theorem dX5_mast_132 : decode cX5_mast 132 = .ok (.ireturn, 1) := by decide +kernel
theorem dX5_mast_133 : decode cX5_mast 133 = .ok (.aload_n 0, 1) := by decide +kernel
theorem dX5_mast_134 : decode cX5_mast 134 = .ok (.iload_n 1, 1) := by decide +kernel
theorem dX5_mast_135 : decode cX5_mast 135 = .ok (.invokevirtual 208, 3) := by decide +kernel
theorem dX5_mast_138 : decode cX5_mast 138 = .ok (.ifCond .eq 7, 3) := by decide +kernel
theorem dX5_mast_141 : decode cX5_mast 141 = .ok (.iconst 1, 1) := by decide +kernel
theorem dX5_mast_142 : decode cX5_mast 142 = .ok (.goto 4, 3) := by decide +kernel
theorem dX5_mast_145 : decode cX5_mast 145 = .ok (.iconst 0, 1) := by decide +kernel
theorem dX5_mast_146 : decode cX5_mast 146 = .ok (.ireturn, 1) := by decide +kernel
theorem dX5_mast_147 : decode cX5_mast 147 = .ok (.aload_n 0, 1) := by decide +kernel
theorem dX5_mast_148 : decode cX5_mast 148 = .ok (.iload_n 1, 1) := by decide +kernel
theorem dX5_mast_149 : decode cX5_mast 149 = .ok (.invokevirtual 211, 3) := by decide +kernel
theorem dX5_mast_152 : decode cX5_mast 152 = .ok (.ireturn, 1) := by decide +kernel
theorem dX5_mast_153 : decode cX5_mast 153 = .ok (.new 116, 3) := by decide +kernel
theorem dX5_mast_156 : decode cX5_mast 156 = .ok (.dup, 1) := by decide +kernel
theorem dX5_mast_157 : decode cX5_mast 157 = .ok (.ldc 214, 2) := by decide +kernel
theorem dX5_mast_159 : decode cX5_mast 159 = .ok (.invokespecial 120, 3) := by decide +kernel
theorem dX5_mast_162 : decode cX5_mast 162 = .ok (.athrow, 1) := by decide +kernel
set_option maxRecDepth 20000 in
theorem ggX5_thread_X5_isThread : GoodIn wsX5_thread wsX5_isThread := goodIn_r _ [12, 13, 33, 34, 35, 36, 37, 38, 39, 40, 41, 42, 43, 44, 45, 46] (by decide +kernel) (by decide +kernel)
set_option maxRecDepth 20000 in
theorem gX5_thread_X5_isThread : GoodIn wsX5_thread (wsV RX5 159 RX5 yX5_isThread wsX5_isThread) := goodIn_app (goodIn_of _ (by decide +kernel)) ggX5_thread_X5_isThread
set_option maxRecDepth 20000 in
theorem ggX5_thread_X5_crossingsOf : GoodIn wsX5_thread wsX5_crossingsOf := goodIn_r _ [17, 13, 3, 18, 19, 20, 21, 22, 23, 24, 25, 26, 27, 28, 29, 30, 31, 32, 33, 34, 35, 36, 37, 38, 39, 40, 41, 42, 43, 44, 45, 46, 47, 48, 49, 50, 51, 52] (by decide +kernel) (by decide +kernel)
set_option maxRecDepth 20000 in
theorem gX5_thread_X5_crossingsOf : GoodIn wsX5_thread (wsV RX5 216 RX5 yX5_crossingsOf wsX5_crossingsOf) := goodIn_app (goodIn_of _ (by decide +kernel)) ggX5_thread_X5_crossingsOf
theorem dX5_thread_0 : decode cX5_thread 0 = .ok (.aload_n 0, 1) := by decide +kernel
theorem dX5_thread_1 : decode cX5_thread 1 = .ok (.iload_n 1, 1) := by decide +kernel
theorem dX5_thread_2 : decode cX5_thread 2 = .ok (.invokevirtual 159, 3) := by decide +kernel
theorem dX5_thread_5 : decode cX5_thread 5 = .ok (.ifCond .ne 13, 3) := by decide +kernel
theorem dX5_thread_8 : decode cX5_thread 8 = .ok (.new 116, 3) := by decide +kernel
theorem dX5_thread_11 : decode cX5_thread 11 = .ok (.dup, 1) := by decide +kernel
theorem dX5_thread_12 : decode cX5_thread 12 = .ok (.ldc 162, 2) := by decide +kernel
theorem dX5_thread_14 : decode cX5_thread 14 = .ok (.invokespecial 120, 3) := by decide +kernel
theorem dX5_thread_17 : decode cX5_thread 17 = .ok (.athrow, 1) := by decide +kernel
theorem dX5_thread_18 : decode cX5_thread 18 = .ok (.aload_n 0, 1) := by decide +kernel
theorem dX5_thread_19 : decode cX5_thread 19 = .ok (.getfield 31, 3) := by decide +kernel
theorem dX5_thread_22 : decode cX5_thread 22 = .ok (.iload_n 1, 1) := by decide +kernel
theorem dX5_thread_23 : decode cX5_thread 23 = .ok (.aaload, 1) := by decide +kernel
theorem dX5_thread_24 : decode cX5_thread 24 = .ok (.astore_n 3, 1) := by decide +kernel
theorem dX5_thread_25 : decode cX5_thread 25 = .ok (.iload_n 2, 1) := by decide +kernel
theorem dX5_thread_26 : decode cX5_thread 26 = .ok (.tableswitch 60 0 4 #[34, 39, 44, 49, 54], 34) := by decide +kernel
theorem dX5_thread_60 : decode cX5_thread 60 = .ok (.aload_n 3, 1) := by decide +kernel
theorem dX5_thread_61 : decode cX5_thread 61 = .ok (.getfield 138, 3) := by decide +kernel
theorem dX5_thread_64 : decode cX5_thread 64 = .ok (.ireturn, 1) := by decide +kernel
theorem dX5_thread_65 : decode cX5_thread 65 = .ok (.aload_n 3, 1) := by decide +kernel
theorem dX5_thread_66 : decode cX5_thread 66 = .ok (.getfield 141, 3) := by decide +kernel
theorem dX5_thread_69 : decode cX5_thread 69 = .ok (.ireturn, 1) := by decide +kernel
theorem dX5_thread_70 : decode cX5_thread 70 = .ok (.aload_n 3, 1) := by decide +kernel
theorem dX5_thread_71 : decode cX5_thread 71 = .ok (.getfield 144, 3) := by decide +kernel
theorem dX5_thread_74 : decode cX5_thread 74 = .ok (.ireturn, 1) := by decide +kernel
theorem dX5_thread_75 : decode cX5_thread 75 = .ok (.aload_n 3, 1) := by decide +kernel
theorem dX5_thread_76 : decode cX5_thread 76 = .ok (.getfield 164, 3) := by decide +kernel
theorem dX5_thread_79 : decode cX5_thread 79 = .ok (.ireturn, 1) := by decide +kernel
theorem dX5_thread_80 : decode cX5_thread 80 = .ok (.aload_n 0, 1) := by decide +kernel
theorem dX5_thread_81 : decode cX5_thread 81 = .ok (.aload_n 3, 1) := by decide +kernel
theorem dX5_thread_82 : decode cX5_thread 82 = .ok (.invokevirtual 216, 3) := by decide +kernel
theorem dX5_thread_85 : decode cX5_thread 85 = .ok (.ireturn, 1) := by decide +kernel
theorem dX5_thread_86 : decode cX5_thread 86 = .ok (.new 116, 3) := by decide +kernel
theorem dX5_thread_89 : decode cX5_thread 89 = .ok (.dup, 1) := by decide +kernel
theorem dX5_thread_90 : decode cX5_thread 90 = .ok (.ldc 219, 2) := by decide +kernel
theorem dX5_thread_92 : decode cX5_thread 92 = .ok (.invokespecial 120, 3) := by decide +kernel
theorem dX5_thread_95 : decode cX5_thread 95 = .ok (.athrow, 1) := by decide +kernel
set_option maxRecDepth 20000 in
theorem ggX5_ship_X5_breadth : GoodIn wsX5_ship wsX5_breadth := goodIn_r _ [9, 10, 11, 12, 3, 13, 14, 15, 16, 17, 18, 19, 20, 21, 22, 23, 24, 25, 59, 60, 61, 62, 63, 64, 65, 66, 67, 68, 69, 70, 71, 72, 73, 74, 75, 76, 77, 78, 79] (by decide +kernel) (by decide +kernel)
set_option maxRecDepth 20000 in
theorem gX5_ship_X5_breadth : GoodIn wsX5_ship (wsV RX5 221 RX5 yX5_breadth wsX5_breadth) := goodIn_app (goodIn_of _ (by decide +kernel)) ggX5_ship_X5_breadth
set_option maxRecDepth 20000 in
theorem ggX5_ship_X5_topWith : GoodIn wsX5_ship wsX5_topWith := goodIn_r _ [29, 12, 13, 14, 15, 16, 17, 10, 30, 31, 32, 33, 21, 34, 35, 59, 60, 61, 62, 63, 64, 65, 66, 67, 68, 69, 70, 71, 72, 73, 74, 75, 76, 77, 78, 79] (by decide +kernel) (by decide +kernel)
set_option maxRecDepth 20000 in
theorem gX5_ship_X5_topWith : GoodIn wsX5_ship (wsV RX5 225 RX5 yX5_topWith wsX5_topWith) := goodIn_app (goodIn_of _ (by decide +kernel)) ggX5_ship_X5_topWith
set_option maxRecDepth 20000 in
theorem ggX5_ship_X5_endWith : GoodIn wsX5_ship wsX5_endWith := goodIn_r _ [39, 10, 40, 12, 13, 41, 14, 15, 16, 17, 42, 43, 44, 21, 45, 35, 59, 60, 61, 62, 63, 64, 65, 66, 67, 68, 69, 70, 71, 72, 73, 74, 75, 76, 77, 78, 79] (by decide +kernel) (by decide +kernel)
set_option maxRecDepth 20000 in
theorem gX5_ship_X5_endWith : GoodIn wsX5_ship (wsV RX5 229 RX5 yX5_endWith wsX5_endWith) := goodIn_app (goodIn_of _ (by decide +kernel)) ggX5_ship_X5_endWith
set_option maxRecDepth 20000 in
theorem ggX5_ship_X5_goesThroughNeck : GoodIn wsX5_ship wsX5_goesThroughNeck := goodIn_r _ [49, 50, 51, 3, 5, 6, 7, 8, 9, 10, 11, 12, 13, 14, 15, 16, 17, 18, 19, 20, 21, 22, 23, 24, 25, 26, 27, 28, 29, 30, 31, 32, 33, 34, 35, 59, 60, 61, 62, 63, 64, 65, 66, 67, 68, 69, 70, 71, 72, 80, 81, 82, 83, 73, 74, 75, 76, 77, 78, 79] (by decide +kernel) (by decide +kernel)
set_option maxRecDepth 20000 in
theorem gX5_ship_X5_goesThroughNeck : GoodIn wsX5_ship (wsV RX5 151 RX5 yX5_goesThroughNeck wsX5_goesThroughNeck) := goodIn_app (goodIn_of _ (by decide +kernel)) ggX5_ship_X5_goesThroughNeck
set_option maxRecDepth 20000 in
theorem ggX5_ship_X5_fitsWith : GoodIn wsX5_ship wsX5_fitsWith := goodIn_r _ [55, 50, 56, 57, 58, 36, 37, 38, 8, 39, 10, 40, 12, 13, 41, 14, 15, 16, 17, 42, 43, 44, 21, 45, 35, 26, 27, 28, 29, 30, 31, 32, 33, 34, 59, 60, 61, 62, 63, 64, 65, 66, 67, 68, 69, 70, 71, 72, 80, 81, 82, 83, 73, 74, 75, 76, 77, 78, 79] (by decide +kernel) (by decide +kernel)
set_option maxRecDepth 20000 in
theorem gX5_ship_X5_fitsWith : GoodIn wsX5_ship (wsV RX5 155 RX5 yX5_fitsWith wsX5_fitsWith) := goodIn_app (goodIn_of _ (by decide +kernel)) ggX5_ship_X5_fitsWith
theorem dX5_ship_0 : decode cX5_ship 0 = .ok (.iload_n 1, 1) := by decide +kernel
theorem dX5_ship_1 : decode cX5_ship 1 = .ok (.tableswitch 105 0 5 #[39, 44, 53, 62, 75, 92], 39) := by decide +kernel
theorem dX5_ship_40 : decode cX5_ship 40 = .ok (.aload_n 0, 1) := by decide +kernel
theorem dX5_ship_41 : decode cX5_ship 41 = .ok (.invokevirtual 221, 3) := by decide +kernel
theorem dX5_ship_44 : decode cX5_ship 44 = .ok (.ireturn, 1) := by decide +kernel
theorem dX5_ship_45 : decode cX5_ship 45 = .ok (.aload_n 0, 1) := by decide +kernel
theorem dX5_ship_46 : decode cX5_ship 46 = .ok (.aload_n 0, 1) := by decide +kernel
theorem dX5_ship_47 : decode cX5_ship 47 = .ok (.getfield 42, 3) := by decide +kernel
theorem dX5_ship_50 : decode cX5_ship 50 = .ok (.invokevirtual 225, 3) := by decide +kernel
theorem dX5_ship_53 : decode cX5_ship 53 = .ok (.ireturn, 1) := by decide +kernel
theorem dX5_ship_54 : decode cX5_ship 54 = .ok (.aload_n 0, 1) := by decide +kernel
theorem dX5_ship_55 : decode cX5_ship 55 = .ok (.aload_n 0, 1) := by decide +kernel
theorem dX5_ship_56 : decode cX5_ship 56 = .ok (.getfield 42, 3) := by decide +kernel
theorem dX5_ship_59 : decode cX5_ship 59 = .ok (.invokevirtual 229, 3) := by decide +kernel
theorem dX5_ship_62 : decode cX5_ship 62 = .ok (.ireturn, 1) := by decide +kernel
theorem dX5_ship_63 : decode cX5_ship 63 = .ok (.aload_n 0, 1) := by decide +kernel
theorem dX5_ship_64 : decode cX5_ship 64 = .ok (.invokevirtual 151, 3) := by decide +kernel
theorem dX5_ship_67 : decode cX5_ship 67 = .ok (.ifCond .eq 7, 3) := by decide +kernel
theorem dX5_ship_70 : decode cX5_ship 70 = .ok (.iconst 1, 1) := by decide +kernel
theorem dX5_ship_71 : decode cX5_ship 71 = .ok (.goto 4, 3) := by decide +kernel
theorem dX5_ship_74 : decode cX5_ship 74 = .ok (.iconst 0, 1) := by decide +kernel
theorem dX5_ship_75 : decode cX5_ship 75 = .ok (.ireturn, 1) := by decide +kernel
theorem dX5_ship_76 : decode cX5_ship 76 = .ok (.aload_n 0, 1) := by decide +kernel
theorem dX5_ship_77 : decode cX5_ship 77 = .ok (.aload_n 0, 1) := by decide +kernel
theorem dX5_ship_78 : decode cX5_ship 78 = .ok (.getfield 42, 3) := by decide +kernel
theorem dX5_ship_81 : decode cX5_ship 81 = .ok (.invokevirtual 155, 3) := by decide +kernel
theorem dX5_ship_84 : decode cX5_ship 84 = .ok (.ifCond .eq 7, 3) := by decide +kernel
theorem dX5_ship_87 : decode cX5_ship 87 = .ok (.iconst 1, 1) := by decide +kernel
theorem dX5_ship_88 : decode cX5_ship 88 = .ok (.goto 4, 3) := by decide +kernel
theorem dX5_ship_91 : decode cX5_ship 91 = .ok (.iconst 0, 1) := by decide +kernel
theorem dX5_ship_92 : decode cX5_ship 92 = .ok (.ireturn, 1) := by decide +kernel
theorem dX5_ship_93 : decode cX5_ship 93 = .ok (.aload_n 0, 1) := by decide +kernel
theorem dX5_ship_94 : decode cX5_ship 94 = .ok (.getfield 65, 3) := by decide +kernel
theorem dX5_ship_97 : decode cX5_ship 97 = .ok (.ifCond .eq 7, 3) := by decide +kernel
theorem dX5_ship_100 : decode cX5_ship 100 = .ok (.iconst 1, 1) := by decide +kernel
theorem dX5_ship_101 : decode cX5_ship 101 = .ok (.goto 4, 3) := by decide +kernel
theorem dX5_ship_104 : decode cX5_ship 104 = .ok (.iconst 0, 1) := by decide +kernel
theorem dX5_ship_105 : decode cX5_ship 105 = .ok (.ireturn, 1) := by decide +kernel
theorem dX5_ship_106 : decode cX5_ship 106 = .ok (.new 116, 3) := by decide +kernel
theorem dX5_ship_109 : decode cX5_ship 109 = .ok (.dup, 1) := by decide +kernel
theorem dX5_ship_110 : decode cX5_ship 110 = .ok (.ldc 232, 2) := by decide +kernel
theorem dX5_ship_112 : decode cX5_ship 112 = .ok (.invokespecial 120, 3) := by decide +kernel
theorem dX5_ship_115 : decode cX5_ship 115 = .ok (.athrow, 1) := by decide +kernel
set_option maxRecDepth 20000 in
theorem ggX5_count_X5_mastsLeaning : GoodIn wsX5_count wsX5_mastsLeaning := goodIn_r _ [12, 4, 13, 20, 21, 22, 23, 24, 25, 26, 27, 28, 29, 30, 31, 32, 33] (by decide +kernel) (by decide +kernel)
set_option maxRecDepth 20000 in
theorem gX5_count_X5_mastsLeaning : GoodIn wsX5_count (wsV RX5 237 RX5 yX5_mastsLeaning wsX5_mastsLeaning) := goodIn_app (goodIn_of _ (by decide +kernel)) ggX5_count_X5_mastsLeaning
set_option maxRecDepth 20000 in
theorem ggX5_count_X5_threadsThatAre : GoodIn wsX5_count wsX5_threadsThatAre := goodIn_r _ [17, 5, 18, 19, 20, 21, 22, 23, 24, 25, 26, 27, 28, 29, 30, 31, 32, 33, 34, 35, 36, 37, 38, 39] (by decide +kernel) (by decide +kernel)
set_option maxRecDepth 20000 in
theorem gX5_count_X5_threadsThatAre : GoodIn wsX5_count (wsV RX5 240 RX5 yX5_threadsThatAre wsX5_threadsThatAre) := goodIn_app (goodIn_of _ (by decide +kernel)) ggX5_count_X5_threadsThatAre
theorem dX5_count_0 : decode cX5_count 0 = .ok (.iload_n 1, 1) := by decide +kernel
theorem dX5_count_1 : decode cX5_count 1 = .ok (.tableswitch 90 0 7 #[47, 52, 57, 63, 68, 74, 80, 85], 47) := by decide +kernel
theorem dX5_count_48 : decode cX5_count 48 = .ok (.aload_n 0, 1) := by decide +kernel
theorem dX5_count_49 : decode cX5_count 49 = .ok (.getfield 234, 3) := by decide +kernel
theorem dX5_count_52 : decode cX5_count 52 = .ok (.ireturn, 1) := by decide +kernel
theorem dX5_count_53 : decode cX5_count 53 = .ok (.aload_n 0, 1) := by decide +kernel
theorem dX5_count_54 : decode cX5_count 54 = .ok (.getfield 89, 3) := by decide +kernel
theorem dX5_count_57 : decode cX5_count 57 = .ok (.ireturn, 1) := by decide +kernel
theorem dX5_count_58 : decode cX5_count 58 = .ok (.aload_n 0, 1) := by decide +kernel
theorem dX5_count_59 : decode cX5_count 59 = .ok (.iconst 0, 1) := by decide +kernel
theorem dX5_count_60 : decode cX5_count 60 = .ok (.invokevirtual 237, 3) := by decide +kernel
theorem dX5_count_63 : decode cX5_count 63 = .ok (.ireturn, 1) := by decide +kernel
theorem dX5_count_64 : decode cX5_count 64 = .ok (.aload_n 0, 1) := by decide +kernel
theorem dX5_count_65 : decode cX5_count 65 = .ok (.getfield 133, 3) := by decide +kernel
theorem dX5_count_68 : decode cX5_count 68 = .ok (.ireturn, 1) := by decide +kernel
theorem dX5_count_69 : decode cX5_count 69 = .ok (.aload_n 0, 1) := by decide +kernel
theorem dX5_count_70 : decode cX5_count 70 = .ok (.iconst 0, 1) := by decide +kernel
theorem dX5_count_71 : decode cX5_count 71 = .ok (.invokevirtual 240, 3) := by decide +kernel
theorem dX5_count_74 : decode cX5_count 74 = .ok (.ireturn, 1) := by decide +kernel
theorem dX5_count_75 : decode cX5_count 75 = .ok (.aload_n 0, 1) := by decide +kernel
theorem dX5_count_76 : decode cX5_count 76 = .ok (.iconst 2, 1) := by decide +kernel
theorem dX5_count_77 : decode cX5_count 77 = .ok (.invokevirtual 240, 3) := by decide +kernel
theorem dX5_count_80 : decode cX5_count 80 = .ok (.ireturn, 1) := by decide +kernel
theorem dX5_count_81 : decode cX5_count 81 = .ok (.aload_n 0, 1) := by decide +kernel
theorem dX5_count_82 : decode cX5_count 82 = .ok (.getfield 179, 3) := by decide +kernel
theorem dX5_count_85 : decode cX5_count 85 = .ok (.ireturn, 1) := by decide +kernel
theorem dX5_count_86 : decode cX5_count 86 = .ok (.aload_n 0, 1) := by decide +kernel
theorem dX5_count_87 : decode cX5_count 87 = .ok (.getfield 173, 3) := by decide +kernel
theorem dX5_count_90 : decode cX5_count 90 = .ok (.ireturn, 1) := by decide +kernel
theorem dX5_count_91 : decode cX5_count 91 = .ok (.new 116, 3) := by decide +kernel
theorem dX5_count_94 : decode cX5_count 94 = .ok (.dup, 1) := by decide +kernel
theorem dX5_count_95 : decode cX5_count 95 = .ok (.ldc 214, 2) := by decide +kernel
theorem dX5_count_97 : decode cX5_count 97 = .ok (.invokespecial 120, 3) := by decide +kernel
theorem dX5_count_100 : decode cX5_count 100 = .ok (.athrow, 1) := by decide +kernel
set_option maxRecDepth 20000 in
theorem ggX5_pass_X5_isWithin : GoodIn wsX5_pass wsX5_isWithin := goodIn_r _ [13] (by decide +kernel) (by decide +kernel)
set_option maxRecDepth 20000 in
theorem gX5_pass_X5_isWithin : GoodIn wsX5_pass (va_wsS RX5 54 yX5_isWithin wsX5_isWithin) := goodIn_app (goodIn_of _ (by decide +kernel)) ggX5_pass_X5_isWithin
set_option maxRecDepth 20000 in
theorem ggX5_pass_X5_mastsLeaning : GoodIn wsX5_pass wsX5_mastsLeaning := goodIn_r _ [17, 3, 4, 40, 41, 42, 43, 44, 45, 46, 47, 48, 49, 50, 51, 52, 53] (by decide +kernel) (by decide +kernel)
set_option maxRecDepth 20000 in
theorem gX5_pass_X5_mastsLeaning : GoodIn wsX5_pass (wsV RX5 237 RX5 yX5_mastsLeaning wsX5_mastsLeaning) := goodIn_app (goodIn_of _ (by decide +kernel)) ggX5_pass_X5_mastsLeaning
set_option maxRecDepth 20000 in
theorem ggX5_pass_X5_fallInAnHour : GoodIn wsX5_pass wsX5_fallInAnHour := goodIn_r _ [21, 22, 23, 24, 25, 26, 12, 27, 28, 29, 30, 31, 32, 33, 34, 35, 36, 37, 38, 39, 40, 41, 42, 43, 44, 45, 46, 47, 48, 49, 50, 51, 52, 53, 54, 55, 56, 57, 58, 59, 60, 61, 62, 63] (by decide +kernel) (by decide +kernel)
set_option maxRecDepth 20000 in
theorem gX5_pass_X5_fallInAnHour : GoodIn wsX5_pass (wsV RX5 245 RX5 yX5_fallInAnHour wsX5_fallInAnHour) := goodIn_app (goodIn_of _ (by decide +kernel)) ggX5_pass_X5_fallInAnHour
theorem dX5_pass_0 : decode cX5_pass 0 = .ok (.iload_n 1, 1) := by decide +kernel
theorem dX5_pass_1 : decode cX5_pass 1 = .ok (.iconst 1, 1) := by decide +kernel
theorem dX5_pass_2 : decode cX5_pass 2 = .ok (.bipush 50, 2) := by decide +kernel
theorem dX5_pass_4 : decode cX5_pass 4 = .ok (.invokestatic 54, 3) := by decide +kernel
theorem dX5_pass_7 : decode cX5_pass 7 = .ok (.ifCond .ne 13, 3) := by decide +kernel
theorem dX5_pass_10 : decode cX5_pass 10 = .ok (.new 58, 3) := by decide +kernel
theorem dX5_pass_13 : decode cX5_pass 13 = .ok (.dup, 1) := by decide +kernel
theorem dX5_pass_14 : decode cX5_pass 14 = .ok (.ldc 243, 2) := by decide +kernel
theorem dX5_pass_16 : decode cX5_pass 16 = .ok (.invokespecial 62, 3) := by decide +kernel
theorem dX5_pass_19 : decode cX5_pass 19 = .ok (.athrow, 1) := by decide +kernel
theorem dX5_pass_20 : decode cX5_pass 20 = .ok (.aload_n 0, 1) := by decide +kernel
theorem dX5_pass_21 : decode cX5_pass 21 = .ok (.bipush 9, 2) := by decide +kernel
theorem dX5_pass_23 : decode cX5_pass 23 = .ok (.invokevirtual 237, 3) := by decide +kernel
theorem dX5_pass_26 : decode cX5_pass 26 = .ok (.istore_n 2, 1) := by decide +kernel
theorem dX5_pass_27 : decode cX5_pass 27 = .ok (.iconst 0, 1) := by decide +kernel
theorem dX5_pass_28 : decode cX5_pass 28 = .ok (.istore_n 3, 1) := by decide +kernel
theorem dX5_pass_29 : decode cX5_pass 29 = .ok (.iload_n 3, 1) := by decide +kernel
theorem dX5_pass_30 : decode cX5_pass 30 = .ok (.aload_n 0, 1) := by decide +kernel
theorem dX5_pass_31 : decode cX5_pass 31 = .ok (.getfield 89, 3) := by decide +kernel
theorem dX5_pass_34 : decode cX5_pass 34 = .ok (.if_icmp .ge 51, 3) := by decide +kernel
theorem dX5_pass_37 : decode cX5_pass 37 = .ok (.aload_n 0, 1) := by decide +kernel
theorem dX5_pass_38 : decode cX5_pass 38 = .ok (.iload_n 3, 1) := by decide +kernel
theorem dX5_pass_39 : decode cX5_pass 39 = .ok (.invokevirtual 245, 3) := by decide +kernel
theorem dX5_pass_42 : decode cX5_pass 42 = .ok (.istore 4, 2) := by decide +kernel
theorem dX5_pass_44 : decode cX5_pass 44 = .ok (.iconst 0, 1) := by decide +kernel
theorem dX5_pass_45 : decode cX5_pass 45 = .ok (.istore 5, 2) := by decide +kernel
theorem dX5_pass_47 : decode cX5_pass 47 = .ok (.iload 5, 2) := by decide +kernel
theorem dX5_pass_49 : decode cX5_pass 49 = .ok (.iload_n 1, 1) := by decide +kernel
theorem dX5_pass_50 : decode cX5_pass 50 = .ok (.if_icmp .ge 29, 3) := by decide +kernel
theorem dX5_pass_53 : decode cX5_pass 53 = .ok (.aload_n 0, 1) := by decide +kernel
