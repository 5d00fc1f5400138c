theorem dX6_pass_0 : decode cX6_pass 0 = .ok (.aload_n 0, 1) := by decide +kernel
theorem dX6_pass_1 : decode cX6_pass 1 = .ok (.iconst 0, 1) := by decide +kernel
theorem dX6_pass_2 : decode cX6_pass 2 = .ok (.putfield 59, 3) := by decide +kernel
theorem dX6_pass_5 : decode cX6_pass 5 = .ok (.iload_n 1, 1) := by decide +kernel
theorem dX6_pass_6 : decode cX6_pass 6 = .ok (.iconst 1, 1) := by decide +kernel
theorem dX6_pass_7 : decode cX6_pass 7 = .ok (.bipush 50, 2) := by decide +kernel
theorem dX6_pass_9 : decode cX6_pass 9 = .ok (.invokestatic 65, 3) := by decide +kernel
theorem dX6_pass_12 : decode cX6_pass 12 = .ok (.ifCond .ne 9, 3) := by decide +kernel
theorem dX6_pass_15 : decode cX6_pass 15 = .ok (.aload_n 0, 1) := by decide +kernel
theorem dX6_pass_16 : decode cX6_pass 16 = .ok (.iconst 1, 1) := by decide +kernel
theorem dX6_pass_17 : decode cX6_pass 17 = .ok (.invokevirtual 130, 3) := by decide +kernel
theorem dX6_pass_20 : decode cX6_pass 20 = .ok (.ireturn, 1) := by decide +kernel
theorem dX6_pass_21 : decode cX6_pass 21 = .ok (.aload_n 0, 1) := by decide +kernel
theorem dX6_pass_22 : decode cX6_pass 22 = .ok (.aload_n 0, 1) := by decide +kernel
theorem dX6_pass_23 : decode cX6_pass 23 = .ok (.getfield 91, 3) := by decide +kernel
theorem dX6_pass_26 : decode cX6_pass 26 = .ok (.invokevirtual 170, 3) := by decide +kernel
theorem dX6_pass_29 : decode cX6_pass 29 = .ok (.istore_n 2, 1) := by decide +kernel
theorem dX6_pass_30 : decode cX6_pass 30 = .ok (.iconst 0, 1) := by decide +kernel
theorem dX6_pass_31 : decode cX6_pass 31 = .ok (.istore_n 3, 1) := by decide +kernel
theorem dX6_pass_32 : decode cX6_pass 32 = .ok (.iload_n 3, 1) := by decide +kernel
theorem dX6_pass_33 : decode cX6_pass 33 = .ok (.iload_n 1, 1) := by decide +kernel
theorem dX6_pass_34 : decode cX6_pass 34 = .ok (.if_icmp .ge 21, 3) := by decide +kernel
theorem dX6_pass_37 : decode cX6_pass 37 = .ok (.aload_n 0, 1) := by decide +kernel
theorem dX6_pass_38 : decode cX6_pass 38 = .ok (.aload_n 0, 1) := by decide +kernel
theorem dX6_pass_39 : decode cX6_pass 39 = .ok (.aload_n 0, 1) := by decide +kernel
theorem dX6_pass_40 : decode cX6_pass 40 = .ok (.getfield 91, 3) := by decide +kernel
theorem dX6_pass_43 : decode cX6_pass 43 = .ok (.invokevirtual 173, 3) := by decide +kernel
theorem dX6_pass_46 : decode cX6_pass 46 = .ok (.putfield 91, 3) := by decide +kernel
theorem dX6_pass_49 : decode cX6_pass 49 = .ok (.iinc 3 1, 3) := by decide +kernel
theorem dX6_pass_52 : decode cX6_pass 52 = .ok (.goto (-20), 3) := by decide +kernel
theorem dX6_pass_55 : decode cX6_pass 55 = .ok (.aload_n 0, 1) := by decide +kernel
theorem dX6_pass_56 : decode cX6_pass 56 = .ok (.dup, 1) := by decide +kernel
theorem dX6_pass_57 : decode cX6_pass 57 = .ok (.getfield 164, 3) := by decide +kernel
theorem dX6_pass_60 : decode cX6_pass 60 = .ok (.iload_n 1, 1) := by decide +kernel
theorem dX6_pass_61 : decode cX6_pass 61 = .ok (.iadd, 1) := by decide +kernel
theorem dX6_pass_62 : decode cX6_pass 62 = .ok (.putfield 164, 3) := by decide +kernel
theorem dX6_pass_65 : decode cX6_pass 65 = .ok (.aload_n 0, 1) := by decide +kernel
theorem dX6_pass_66 : decode cX6_pass 66 = .ok (.aload_n 0, 1) := by decide +kernel
theorem dX6_pass_67 : decode cX6_pass 67 = .ok (.getfield 91, 3) := by decide +kernel
theorem dX6_pass_70 : decode cX6_pass 70 = .ok (.invokevirtual 170, 3) := by decide +kernel
theorem dX6_pass_73 : decode cX6_pass 73 = .ok (.iload_n 2, 1) := by decide +kernel
theorem dX6_pass_74 : decode cX6_pass 74 = .ok (.isub, 1) := by decide +kernel
theorem dX6_pass_75 : decode cX6_pass 75 = .ok (.ireturn, 1) := by decide +kernel
set_option maxRecDepth 20000 in
theorem ggX6_search_X6_behind : GoodIn wsX6_search wsX6_behind := goodIn_r _ [9, 10, 3, 4, 11, 12, 13, 14, 15, 8, 16, 17, 18, 19, 20, 21, 22, 23, 24, 25, 26, 27, 28, 29, 30, 31, 32, 33, 34, 35, 36, 37, 38, 39, 40, 41, 42, 43, 44, 45, 46, 47, 48, 49, 50, 51, 52, 53, 54, 55, 56, 57, 58, 59, 60, 61, 62, 63, 64, 65, 66, 67, 68, 69, 70, 71, 72, 73, 74, 75, 76, 77, 78, 79, 80, 81, 82, 83, 84, 85, 86, 87, 88, 89, 90, 91, 92, 93, 94, 95] (by decide +kernel) (by decide +kernel)
set_option maxRecDepth 20000 in
theorem gX6_search_X6_behind : GoodIn wsX6_search (wsV RX6 143 RX6 yX6_behind wsX6_behind) := goodIn_app (goodIn_of _ (by decide +kernel)) ggX6_search_X6_behind
theorem dX6_search_0 : decode cX6_search 0 = .ok (.iconst 0, 1) := by decide +kernel
theorem dX6_search_1 : decode cX6_search 1 = .ok (.istore_n 2, 1) := by decide +kernel
theorem dX6_search_2 : decode cX6_search 2 = .ok (.iload_n 2, 1) := by decide +kernel
theorem dX6_search_3 : decode cX6_search 3 = .ok (.sipush 1000, 3) := by decide +kernel
theorem dX6_search_6 : decode cX6_search 6 = .ok (.if_icmp .ge 16, 3) := by decide +kernel
theorem dX6_search_9 : decode cX6_search 9 = .ok (.aload_n 0, 1) := by decide +kernel
theorem dX6_search_10 : decode cX6_search 10 = .ok (.getfield 53, 3) := by decide +kernel
theorem dX6_search_13 : decode cX6_search 13 = .ok (.iload_n 2, 1) := by decide +kernel
theorem dX6_search_14 : decode cX6_search 14 = .ok (.iconst (-1), 1) := by decide +kernel
theorem dX6_search_15 : decode cX6_search 15 = .ok (.iastore, 1) := by decide +kernel
theorem dX6_search_16 : decode cX6_search 16 = .ok (.iinc 2 1, 3) := by decide +kernel
theorem dX6_search_19 : decode cX6_search 19 = .ok (.goto (-17), 3) := by decide +kernel
theorem dX6_search_22 : decode cX6_search 22 = .ok (.aload_n 0, 1) := by decide +kernel
theorem dX6_search_23 : decode cX6_search 23 = .ok (.getfield 53, 3) := by decide +kernel
theorem dX6_search_26 : decode cX6_search 26 = .ok (.iload_n 1, 1) := by decide +kernel
theorem dX6_search_27 : decode cX6_search 27 = .ok (.iconst 0, 1) := by decide +kernel
theorem dX6_search_28 : decode cX6_search 28 = .ok (.iastore, 1) := by decide +kernel
theorem dX6_search_29 : decode cX6_search 29 = .ok (.aload_n 0, 1) := by decide +kernel
theorem dX6_search_30 : decode cX6_search 30 = .ok (.getfield 56, 3) := by decide +kernel
theorem dX6_search_33 : decode cX6_search 33 = .ok (.iconst 0, 1) := by decide +kernel
theorem dX6_search_34 : decode cX6_search 34 = .ok (.iload_n 1, 1) := by decide +kernel
theorem dX6_search_35 : decode cX6_search 35 = .ok (.iastore, 1) := by decide +kernel
theorem dX6_search_36 : decode cX6_search 36 = .ok (.iconst 1, 1) := by decide +kernel
theorem dX6_search_37 : decode cX6_search 37 = .ok (.istore_n 2, 1) := by decide +kernel
theorem dX6_search_38 : decode cX6_search 38 = .ok (.iconst 0, 1) := by decide +kernel
theorem dX6_search_39 : decode cX6_search 39 = .ok (.istore_n 3, 1) := by decide +kernel
theorem dX6_search_40 : decode cX6_search 40 = .ok (.iload_n 3, 1) := by decide +kernel
theorem dX6_search_41 : decode cX6_search 41 = .ok (.iload_n 2, 1) := by decide +kernel
theorem dX6_search_42 : decode cX6_search 42 = .ok (.if_icmp .ge 105, 3) := by decide +kernel
theorem dX6_search_45 : decode cX6_search 45 = .ok (.iconst 0, 1) := by decide +kernel
theorem dX6_search_46 : decode cX6_search 46 = .ok (.istore 4, 2) := by decide +kernel
theorem dX6_search_48 : decode cX6_search 48 = .ok (.iload 4, 2) := by decide +kernel
theorem dX6_search_50 : decode cX6_search 50 = .ok (.aload_n 0, 1) := by decide +kernel
theorem dX6_search_51 : decode cX6_search 51 = .ok (.getfield 69, 3) := by decide +kernel
theorem dX6_search_54 : decode cX6_search 54 = .ok (.if_icmp .ge 87, 3) := by decide +kernel
theorem dX6_search_57 : decode cX6_search 57 = .ok (.aload_n 0, 1) := by decide +kernel
theorem dX6_search_58 : decode cX6_search 58 = .ok (.getfield 50, 3) := by decide +kernel
theorem dX6_search_61 : decode cX6_search 61 = .ok (.iload 4, 2) := by decide +kernel
theorem dX6_search_63 : decode cX6_search 63 = .ok (.iaload, 1) := by decide +kernel
theorem dX6_search_64 : decode cX6_search 64 = .ok (.ifCond .ne 18, 3) := by decide +kernel
theorem dX6_search_67 : decode cX6_search 67 = .ok (.aload_n 0, 1) := by decide +kernel
theorem dX6_search_68 : decode cX6_search 68 = .ok (.aload_n 0, 1) := by decide +kernel
theorem dX6_search_69 : decode cX6_search 69 = .ok (.getfield 56, 3) := by decide +kernel
theorem dX6_search_72 : decode cX6_search 72 = .ok (.iload_n 3, 1) := by decide +kernel
theorem dX6_search_73 : decode cX6_search 73 = .ok (.iaload, 1) := by decide +kernel
theorem dX6_search_74 : decode cX6_search 74 = .ok (.iload 4, 2) := by decide +kernel
theorem dX6_search_76 : decode cX6_search 76 = .ok (.invokevirtual 143, 3) := by decide +kernel
theorem dX6_search_79 : decode cX6_search 79 = .ok (.goto 4, 3) := by decide +kernel
theorem dX6_search_82 : decode cX6_search 82 = .ok (.iconst (-1), 1) := by decide +kernel
theorem dX6_search_83 : decode cX6_search 83 = .ok (.istore 5, 2) := by decide +kernel
theorem dX6_search_85 : decode cX6_search 85 = .ok (.iload 5, 2) := by decide +kernel
theorem dX6_search_87 : decode cX6_search 87 = .ok (.ifCond .lt 48, 3) := by decide +kernel
theorem dX6_search_90 : decode cX6_search 90 = .ok (.aload_n 0, 1) := by decide +kernel
theorem dX6_search_91 : decode cX6_search 91 = .ok (.getfield 53, 3) := by decide +kernel
theorem dX6_search_94 : decode cX6_search 94 = .ok (.iload 5, 2) := by decide +kernel
theorem dX6_search_96 : decode cX6_search 96 = .ok (.iaload, 1) := by decide +kernel
theorem dX6_search_97 : decode cX6_search 97 = .ok (.iconst (-1), 1) := by decide +kernel
theorem dX6_search_98 : decode cX6_search 98 = .ok (.if_icmp .eq 6, 3) := by decide +kernel
theorem dX6_search_101 : decode cX6_search 101 = .ok (.goto 34, 3) := by decide +kernel
theorem dX6_search_104 : decode cX6_search 104 = .ok (.aload_n 0, 1) := by decide +kernel
theorem dX6_search_105 : decode cX6_search 105 = .ok (.getfield 53, 3) := by decide +kernel
theorem dX6_search_108 : decode cX6_search 108 = .ok (.iload 5, 2) := by decide +kernel
theorem dX6_search_110 : decode cX6_search 110 = .ok (.aload_n 0, 1) := by decide +kernel
theorem dX6_search_111 : decode cX6_search 111 = .ok (.getfield 53, 3) := by decide +kernel
theorem dX6_search_114 : decode cX6_search 114 = .ok (.aload_n 0, 1) := by decide +kernel
theorem dX6_search_115 : decode cX6_search 115 = .ok (.getfield 56, 3) := by decide +kernel
theorem dX6_search_118 : decode cX6_search 118 = .ok (.iload_n 3, 1) := by decide +kernel
theorem dX6_search_119 : decode cX6_search 119 = .ok (.iaload, 1) := by decide +kernel
theorem dX6_search_120 : decode cX6_search 120 = .ok (.iaload, 1) := by decide +kernel
theorem dX6_search_121 : decode cX6_search 121 = .ok (.iconst 1, 1) := by decide +kernel
theorem dX6_search_122 : decode cX6_search 122 = .ok (.iadd, 1) := by decide +kernel
theorem dX6_search_123 : decode cX6_search 123 = .ok (.iastore, 1) := by decide +kernel
theorem dX6_search_124 : decode cX6_search 124 = .ok (.aload_n 0, 1) := by decide +kernel
theorem dX6_search_125 : decode cX6_search 125 = .ok (.getfield 56, 3) := by decide +kernel
theorem dX6_search_128 : decode cX6_search 128 = .ok (.iload_n 2, 1) := by decide +kernel
theorem dX6_search_129 : decode cX6_search 129 = .ok (.iload 5, 2) := by decide +kernel
theorem dX6_search_131 : decode cX6_search 131 = .ok (.iastore, 1) := by decide +kernel
theorem dX6_search_132 : decode cX6_search 132 = .ok (.iinc 2 1, 3) := by decide +kernel
theorem dX6_search_135 : decode cX6_search 135 = .ok (.iinc 4 1, 3) := by decide +kernel
theorem dX6_search_138 : decode cX6_search 138 = .ok (.goto (-90), 3) := by decide +kernel
theorem dX6_search_141 : decode cX6_search 141 = .ok (.iinc 3 1, 3) := by decide +kernel
theorem dX6_search_144 : decode cX6_search 144 = .ok (.goto (-104), 3) := by decide +kernel
theorem dX6_search_147 : decode cX6_search 147 = .ok (.iload_n 2, 1) := by decide +kernel
theorem dX6_search_148 : decode cX6_search 148 = .ok (.ireturn, 1) := by decide +kernel
set_option maxRecDepth 20000 in
theorem ggX6_fewest_X6_search : GoodIn wsX6_fewest wsX6_search := goodIn_r _ [8, 3, 9, 10, 11, 12, 13, 14, 7, 15, 16, 17, 18, 19, 20, 21, 22, 23, 24, 25, 26, 27, 28, 29, 30, 31, 32, 33, 34, 35, 36, 37, 38, 39, 40, 41, 42, 43, 44, 45, 46, 47, 48, 49, 50, 51, 52, 53, 54, 55, 56, 57, 58, 59, 60, 61, 62, 63, 64, 65, 66, 67, 68, 69, 70, 71, 72, 73, 74, 75, 76, 77, 78, 79, 80, 81, 82, 83, 84, 85, 86, 87, 88, 89, 90, 91, 92, 93, 94, 95, 96, 97, 98, 99, 100, 101] (by decide +kernel) (by decide +kernel)
set_option maxRecDepth 20000 in
theorem gX6_fewest_X6_search : GoodIn wsX6_fewest (wsV RX6 176 RX6 yX6_search wsX6_search) := goodIn_app (goodIn_of _ (by decide +kernel)) ggX6_fewest_X6_search
theorem dX6_fewest_0 : decode cX6_fewest 0 = .ok (.aload_n 0, 1) := by decide +kernel
theorem dX6_fewest_1 : decode cX6_fewest 1 = .ok (.iconst 0, 1) := by decide +kernel
theorem dX6_fewest_2 : decode cX6_fewest 2 = .ok (.putfield 59, 3) := by decide +kernel
theorem dX6_fewest_5 : decode cX6_fewest 5 = .ok (.aload_n 0, 1) := by decide +kernel
theorem dX6_fewest_6 : decode cX6_fewest 6 = .ok (.aload_n 0, 1) := by decide +kernel
theorem dX6_fewest_7 : decode cX6_fewest 7 = .ok (.getfield 91, 3) := by decide +kernel
theorem dX6_fewest_10 : decode cX6_fewest 10 = .ok (.invokevirtual 176, 3) := by decide +kernel
theorem dX6_fewest_13 : decode cX6_fewest 13 = .ok (.pop, 1) := by decide +kernel
theorem dX6_fewest_14 : decode cX6_fewest 14 = .ok (.aload_n 0, 1) := by decide +kernel
theorem dX6_fewest_15 : decode cX6_fewest 15 = .ok (.getfield 53, 3) := by decide +kernel
theorem dX6_fewest_18 : decode cX6_fewest 18 = .ok (.iconst 0, 1) := by decide +kernel
theorem dX6_fewest_19 : decode cX6_fewest 19 = .ok (.iaload, 1) := by decide +kernel
theorem dX6_fewest_20 : decode cX6_fewest 20 = .ok (.ireturn, 1) := by decide +kernel
set_option maxRecDepth 20000 in
theorem ggX6_first_X6_search : GoodIn wsX6_first wsX6_search := goodIn_r _ [10, 3, 11, 4, 5, 12, 13, 14, 9, 15, 16, 17, 18, 19, 20, 21, 22, 23, 24, 25, 26, 27, 28, 29, 30, 31, 32, 33, 34, 35, 36, 37, 38, 39, 40, 41, 42, 43, 44, 45, 46, 47, 48, 49, 50, 51, 52, 53, 54, 55, 56, 57, 58, 59, 60, 61, 62, 63, 64, 65, 66, 67, 68, 69, 70, 71, 72, 73, 74, 75, 76, 77, 78, 79, 80, 81, 82, 83, 84, 85, 86, 87, 88, 89, 90, 91, 92, 93, 94, 95, 96, 97, 98, 99, 100, 101] (by decide +kernel) (by decide +kernel)
set_option maxRecDepth 20000 in
theorem gX6_first_X6_search : GoodIn wsX6_first (wsV RX6 176 RX6 yX6_search wsX6_search) := goodIn_app (goodIn_of _ (by decide +kernel)) ggX6_first_X6_search
set_option maxRecDepth 20000 in
theorem ggX6_first_X6_behind : GoodIn wsX6_first wsX6_behind := goodIn_r _ [15, 16, 4, 5, 17, 18, 19, 20, 21, 9, 22, 23, 24, 25, 26, 27, 28, 29, 30, 31, 32, 33, 34, 35, 36, 37, 38, 39, 40, 41, 42, 43, 44, 45, 46, 47, 48, 49, 50, 51, 52, 53, 54, 55, 56, 57, 58, 59, 60, 61, 62, 63, 64, 65, 66, 67, 68, 69, 70, 71, 72, 73, 74, 75, 76, 77, 78, 79, 80, 81, 82, 83, 84, 85, 86, 87, 88, 89, 90, 91, 92, 93, 94, 95, 96, 97, 98, 99, 100, 101] (by decide +kernel) (by decide +kernel)
set_option maxRecDepth 20000 in
theorem gX6_first_X6_behind : GoodIn wsX6_first (wsV RX6 143 RX6 yX6_behind wsX6_behind) := goodIn_app (goodIn_of _ (by decide +kernel)) ggX6_first_X6_behind
theorem dX6_first_0 : decode cX6_first 0 = .ok (.aload_n 0, 1) := by decide +kernel
theorem dX6_first_1 : decode cX6_first 1 = .ok (.iconst 0, 1) := by decide +kernel
theorem dX6_first_2 : decode cX6_first 2 = .ok (.putfield 59, 3) := by decide +kernel
theorem dX6_first_5 : decode cX6_first 5 = .ok (.aload_n 0, 1) := by decide +kernel
theorem dX6_first_6 : decode cX6_first 6 = .ok (.aload_n 0, 1) := by decide +kernel
theorem dX6_first_7 : decode cX6_first 7 = .ok (.getfield 91, 3) := by decide +kernel
theorem dX6_first_10 : decode cX6_first 10 = .ok (.invokevirtual 176, 3) := by decide +kernel
theorem dX6_first_13 : decode cX6_first 13 = .ok (.pop, 1) := by decide +kernel
theorem dX6_first_14 : decode cX6_first 14 = .ok (.aload_n 0, 1) := by decide +kernel
theorem dX6_first_15 : decode cX6_first 15 = .ok (.getfield 53, 3) := by decide +kernel
theorem dX6_first_18 : decode cX6_first 18 = .ok (.iconst 0, 1) := by decide +kernel
theorem dX6_first_19 : decode cX6_first 19 = .ok (.iaload, 1) := by decide +kernel
theorem dX6_first_20 : decode cX6_first 20 = .ok (.istore_n 1, 1) := by decide +kernel
theorem dX6_first_21 : decode cX6_first 21 = .ok (.iconst 0, 1) := by decide +kernel
theorem dX6_first_22 : decode cX6_first 22 = .ok (.istore_n 2, 1) := by decide +kernel
theorem dX6_first_23 : decode cX6_first 23 = .ok (.iload_n 2, 1) := by decide +kernel
theorem dX6_first_24 : decode cX6_first 24 = .ok (.aload_n 0, 1) := by decide +kernel
theorem dX6_first_25 : decode cX6_first 25 = .ok (.getfield 69, 3) := by decide +kernel
theorem dX6_first_28 : decode cX6_first 28 = .ok (.if_icmp .ge 63, 3) := by decide +kernel
theorem dX6_first_31 : decode cX6_first 31 = .ok (.iload_n 1, 1) := by decide +kernel
theorem dX6_first_32 : decode cX6_first 32 = .ok (.ifCond .le 59, 3) := by decide +kernel
theorem dX6_first_35 : decode cX6_first 35 = .ok (.aload_n 0, 1) := by decide +kernel
theorem dX6_first_36 : decode cX6_first 36 = .ok (.getfield 50, 3) := by decide +kernel
theorem dX6_first_39 : decode cX6_first 39 = .ok (.iload_n 2, 1) := by decide +kernel
theorem dX6_first_40 : decode cX6_first 40 = .ok (.iaload, 1) := by decide +kernel
theorem dX6_first_41 : decode cX6_first 41 = .ok (.ifCond .ne 15, 3) := by decide +kernel
theorem dX6_first_44 : decode cX6_first 44 = .ok (.aload_n 0, 1) := by decide +kernel
theorem dX6_first_45 : decode cX6_first 45 = .ok (.aload_n 0, 1) := by decide +kernel
theorem dX6_first_46 : decode cX6_first 46 = .ok (.getfield 91, 3) := by decide +kernel
theorem dX6_first_49 : decode cX6_first 49 = .ok (.iload_n 2, 1) := by decide +kernel
theorem dX6_first_50 : decode cX6_first 50 = .ok (.invokevirtual 143, 3) := by decide +kernel
theorem dX6_first_53 : decode cX6_first 53 = .ok (.goto 4, 3) := by decide +kernel
theorem dX6_first_56 : decode cX6_first 56 = .ok (.iconst (-1), 1) := by decide +kernel
theorem dX6_first_57 : decode cX6_first 57 = .ok (.istore_n 3, 1) := by decide +kernel
theorem dX6_first_58 : decode cX6_first 58 = .ok (.iload_n 3, 1) := by decide +kernel
theorem dX6_first_59 : decode cX6_first 59 = .ok (.ifCond .ge 6, 3) := by decide +kernel
theorem dX6_first_62 : decode cX6_first 62 = .ok (.goto 23, 3) := by decide +kernel
theorem dX6_first_65 : decode cX6_first 65 = .ok (.aload_n 0, 1) := by decide +kernel
theorem dX6_first_66 : decode cX6_first 66 = .ok (.iload_n 3, 1) := by decide +kernel
theorem dX6_first_67 : decode cX6_first 67 = .ok (.invokevirtual 176, 3) := by decide +kernel
theorem dX6_first_70 : decode cX6_first 70 = .ok (.pop, 1) := by decide +kernel
theorem dX6_first_71 : decode cX6_first 71 = .ok (.aload_n 0, 1) := by decide +kernel
theorem dX6_first_72 : decode cX6_first 72 = .ok (.getfield 53, 3) := by decide +kernel
theorem dX6_first_75 : decode cX6_first 75 = .ok (.iconst 0, 1) := by decide +kernel
theorem dX6_first_76 : decode cX6_first 76 = .ok (.iaload, 1) := by decide +kernel
theorem dX6_first_77 : decode cX6_first 77 = .ok (.iload_n 1, 1) := by decide +kernel
theorem dX6_first_78 : decode cX6_first 78 = .ok (.iconst 1, 1) := by decide +kernel
theorem dX6_first_79 : decode cX6_first 79 = .ok (.isub, 1) := by decide +kernel
theorem dX6_first_80 : decode cX6_first 80 = .ok (.if_icmp .ne 5, 3) := by decide +kernel
theorem dX6_first_83 : decode cX6_first 83 = .ok (.iload_n 2, 1) := by decide +kernel
theorem dX6_first_84 : decode cX6_first 84 = .ok (.ireturn, 1) := by decide +kernel
theorem dX6_first_85 : decode cX6_first 85 = .ok (.iinc 2 1, 3) := by decide +kernel
theorem dX6_first_88 : decode cX6_first 88 = .ok (.goto (-65), 3) := by decide +kernel
theorem dX6_first_91 : decode cX6_first 91 = .ok (.iconst (-1), 1) := by decide +kernel
theorem dX6_first_92 : decode cX6_first 92 = .ok (.ireturn, 1) := by decide +kernel
set_option maxRecDepth 20000 in
theorem ggX6_least_X6_isMast : GoodIn wsX6_least wsX6_isMast := goodIn_r _ [12, 13, 14, 15, 11, 16, 88, 89, 90, 91, 92, 93, 94, 95, 96, 97, 98, 99, 100, 101, 102, 103, 104, 105, 106, 107, 108, 109, 110, 111, 112] (by decide +kernel) (by decide +kernel)
set_option maxRecDepth 20000 in
theorem gX6_least_X6_isMast : GoodIn wsX6_least (wsV RX6 133 RX6 yX6_isMast wsX6_isMast) := goodIn_app (goodIn_of _ (by decide +kernel)) ggX6_least_X6_isMast
set_option maxRecDepth 20000 in
theorem ggX6_least_X6_no : GoodIn wsX6_least wsX6_no := goodIn_r _ [20, 1, 88, 89, 90, 91, 92, 93, 94, 95, 96, 97, 98, 99, 100, 101, 102, 103, 104, 105, 106, 107, 108, 109, 110, 111, 112] (by decide +kernel) (by decide +kernel)
set_option maxRecDepth 20000 in
theorem gX6_least_X6_no : GoodIn wsX6_least (wsV RX6 130 RX6 yX6_no wsX6_no) := goodIn_app (goodIn_of _ (by decide +kernel)) ggX6_least_X6_no
set_option maxRecDepth 20000 in
theorem ggX6_least_X6_search : GoodIn wsX6_least wsX6_search := goodIn_r _ [24, 25, 3, 26, 27, 28, 29, 30, 11, 31, 32, 33, 13, 34, 35, 36, 37, 38, 39, 40, 41, 42, 43, 44, 45, 46, 47, 48, 49, 4, 5, 6, 7, 50, 51, 52, 53, 54, 55, 56, 57, 58, 59, 60, 61, 62, 63, 64, 65, 66, 67, 68, 69, 70, 71, 72, 73, 74, 75, 76, 77, 78, 79, 80, 81, 82, 83, 84, 85, 86, 87, 88, 89, 90, 91, 92, 93, 94, 95, 96, 97, 98, 99, 100, 101, 102, 103, 104, 105, 106, 107, 108, 109, 110, 111, 112] (by decide +kernel) (by decide +kernel)
set_option maxRecDepth 20000 in
theorem gX6_least_X6_search : GoodIn wsX6_least (wsV RX6 176 RX6 yX6_search wsX6_search) := goodIn_app (goodIn_of _ (by decide +kernel)) ggX6_least_X6_search
set_option maxRecDepth 20000 in
theorem ggX6_least_X6_lean : GoodIn wsX6_least wsX6_lean := goodIn_r _ [37, 38, 39, 11, 40] (by decide +kernel) (by decide +kernel)
set_option maxRecDepth 20000 in
theorem gX6_least_X6_lean : GoodIn wsX6_least (va_wsS RX6 76 yX6_lean wsX6_lean) := goodIn_app (goodIn_of _ (by decide +kernel)) ggX6_least_X6_lean
theorem dX6_least_0 : decode cX6_least 0 = .ok (.aload_n 0, 1) := by decide +kernel
theorem dX6_least_1 : decode cX6_least 1 = .ok (.iconst 0, 1) := by decide +kernel
theorem dX6_least_2 : decode cX6_least 2 = .ok (.putfield 59, 3) := by decide +kernel
theorem dX6_least_5 : decode cX6_least 5 = .ok (.aload_n 0, 1) := by decide +kernel
theorem dX6_least_6 : decode cX6_least 6 = .ok (.iload_n 1, 1) := by decide +kernel
theorem dX6_least_7 : decode cX6_least 7 = .ok (.invokevirtual 133, 3) := by decide +kernel
theorem dX6_least_10 : decode cX6_least 10 = .ok (.ifCond .ne 9, 3) := by decide +kernel
theorem dX6_least_13 : decode cX6_least 13 = .ok (.aload_n 0, 1) := by decide +kernel
theorem dX6_least_14 : decode cX6_least 14 = .ok (.iconst 1, 1) := by decide +kernel
theorem dX6_least_15 : decode cX6_least 15 = .ok (.invokevirtual 130, 3) := by decide +kernel
theorem dX6_least_18 : decode cX6_least 18 = .ok (.ireturn, 1) := by decide +kernel
theorem dX6_least_19 : decode cX6_least 19 = .ok (.aload_n 0, 1) := by decide +kernel
theorem dX6_least_20 : decode cX6_least 20 = .ok (.aload_n 0, 1) := by decide +kernel
theorem dX6_least_21 : decode cX6_least 21 = .ok (.getfield 91, 3) := by decide +kernel
theorem dX6_least_24 : decode cX6_least 24 = .ok (.invokevirtual 176, 3) := by decide +kernel
theorem dX6_least_27 : decode cX6_least 27 = .ok (.istore_n 2, 1) := by decide +kernel
theorem dX6_least_28 : decode cX6_least 28 = .ok (.bipush 9, 2) := by decide +kernel
theorem dX6_least_30 : decode cX6_least 30 = .ok (.istore_n 3, 1) := by decide +kernel
theorem dX6_least_31 : decode cX6_least 31 = .ok (.iconst 0, 1) := by decide +kernel
theorem dX6_least_32 : decode cX6_least 32 = .ok (.istore 4, 2) := by decide +kernel
theorem dX6_least_34 : decode cX6_least 34 = .ok (.iload 4, 2) := by decide +kernel
theorem dX6_least_36 : decode cX6_least 36 = .ok (.iload_n 2, 1) := by decide +kernel
theorem dX6_least_37 : decode cX6_least 37 = .ok (.if_icmp .ge 25, 3) := by decide +kernel
theorem dX6_least_40 : decode cX6_least 40 = .ok (.iload_n 3, 1) := by decide +kernel
theorem dX6_least_41 : decode cX6_least 41 = .ok (.aload_n 0, 1) := by decide +kernel
theorem dX6_least_42 : decode cX6_least 42 = .ok (.getfield 56, 3) := by decide +kernel
theorem dX6_least_45 : decode cX6_least 45 = .ok (.iload 4, 2) := by decide +kernel
theorem dX6_least_47 : decode cX6_least 47 = .ok (.iaload, 1) := by decide +kernel
theorem dX6_least_48 : decode cX6_least 48 = .ok (.iload_n 1, 1) := by decide +kernel
theorem dX6_least_49 : decode cX6_least 49 = .ok (.invokestatic 76, 3) := by decide +kernel
theorem dX6_least_52 : decode cX6_least 52 = .ok (.invokestatic 109, 3) := by decide +kernel
theorem dX6_least_55 : decode cX6_least 55 = .ok (.istore_n 3, 1) := by decide +kernel
theorem dX6_least_56 : decode cX6_least 56 = .ok (.iinc 4 1, 3) := by decide +kernel
theorem dX6_least_59 : decode cX6_least 59 = .ok (.goto (-25), 3) := by decide +kernel
theorem dX6_least_62 : decode cX6_least 62 = .ok (.iload_n 3, 1) := by decide +kernel
theorem dX6_least_63 : decode cX6_least 63 = .ok (.ireturn, 1) := by decide +kernel
set_option maxRecDepth 20000 in
theorem ggX6_falls_X6_flat : GoodIn wsX6_falls wsX6_flat := goodIn_r _ [8, 3, 9, 10, 7, 11, 12, 13, 14, 35, 36, 37, 38, 39, 40, 41, 42, 43, 44, 45, 46, 47, 48, 49, 50, 51, 52, 53, 54, 55, 56, 57, 58, 59] (by decide +kernel) (by decide +kernel)
set_option maxRecDepth 20000 in
theorem gX6_falls_X6_flat : GoodIn wsX6_falls (wsV RX6 170 RX6 yX6_flat wsX6_flat) := goodIn_app (goodIn_of _ (by decide +kernel)) ggX6_falls_X6_flat
set_option maxRecDepth 20000 in
theorem ggX6_falls_X6_later : GoodIn wsX6_falls wsX6_later := goodIn_r _ [18, 3, 19, 20, 21, 22, 23, 24, 25, 26, 7, 27, 28, 29, 30, 31, 32, 33, 34, 12, 13, 14, 9, 10, 11, 35, 36, 37, 38, 39, 40, 41, 42, 43, 44, 45, 46, 47, 48, 49, 50, 51, 52, 53, 54, 55, 56, 57, 58, 59] (by decide +kernel) (by decide +kernel)
set_option maxRecDepth 20000 in
theorem gX6_falls_X6_later : GoodIn wsX6_falls (wsV RX6 173 RX6 yX6_later wsX6_later) := goodIn_app (goodIn_of _ (by decide +kernel)) ggX6_falls_X6_later
theorem dX6_falls_0 : decode cX6_falls 0 = .ok (.aload_n 0, 1) := by decide +kernel
theorem dX6_falls_1 : decode cX6_falls 1 = .ok (.iconst 0, 1) := by decide +kernel
theorem dX6_falls_2 : decode cX6_falls 2 = .ok (.putfield 59, 3) := by decide +kernel
theorem dX6_falls_5 : decode cX6_falls 5 = .ok (.aload_n 0, 1) := by decide +kernel
theorem dX6_falls_6 : decode cX6_falls 6 = .ok (.getfield 91, 3) := by decide +kernel
theorem dX6_falls_9 : decode cX6_falls 9 = .ok (.istore_n 1, 1) := by decide +kernel
theorem dX6_falls_10 : decode cX6_falls 10 = .ok (.iconst 0, 1) := by decide +kernel
theorem dX6_falls_11 : decode cX6_falls 11 = .ok (.istore_n 2, 1) := by decide +kernel
theorem dX6_falls_12 : decode cX6_falls 12 = .ok (.iload_n 2, 1) := by decide +kernel
theorem dX6_falls_13 : decode cX6_falls 13 = .ok (.bipush 50, 2) := by decide +kernel
theorem dX6_falls_15 : decode cX6_falls 15 = .ok (.if_icmp .gt 29, 3) := by decide +kernel
theorem dX6_falls_18 : decode cX6_falls 18 = .ok (.aload_n 0, 1) := by decide +kernel
theorem dX6_falls_19 : decode cX6_falls 19 = .ok (.iload_n 1, 1) := by decide +kernel
theorem dX6_falls_20 : decode cX6_falls 20 = .ok (.invokevirtual 170, 3) := by decide +kernel
theorem dX6_falls_23 : decode cX6_falls 23 = .ok (.aload_n 0, 1) := by decide +kernel
theorem dX6_falls_24 : decode cX6_falls 24 = .ok (.getfield 62, 3) := by decide +kernel
theorem dX6_falls_27 : decode cX6_falls 27 = .ok (.if_icmp .ne 5, 3) := by decide +kernel
theorem dX6_falls_30 : decode cX6_falls 30 = .ok (.iload_n 2, 1) := by decide +kernel
theorem dX6_falls_31 : decode cX6_falls 31 = .ok (.ireturn, 1) := by decide +kernel
theorem dX6_falls_32 : decode cX6_falls 32 = .ok (.aload_n 0, 1) := by decide +kernel
theorem dX6_falls_33 : decode cX6_falls 33 = .ok (.iload_n 1, 1) := by decide +kernel
theorem dX6_falls_34 : decode cX6_falls 34 = .ok (.invokevirtual 173, 3) := by decide +kernel
theorem dX6_falls_37 : decode cX6_falls 37 = .ok (.istore_n 1, 1) := by decide +kernel
theorem dX6_falls_38 : decode cX6_falls 38 = .ok (.iinc 2 1, 3) := by decide +kernel
theorem dX6_falls_41 : decode cX6_falls 41 = .ok (.goto (-29), 3) := by decide +kernel
theorem dX6_falls_44 : decode cX6_falls 44 = .ok (.iconst (-1), 1) := by decide +kernel
theorem dX6_falls_45 : decode cX6_falls 45 = .ok (.ireturn, 1) := by decide +kernel
set_option maxRecDepth 20000 in
theorem ggX6_mean_X6_lean : GoodIn wsX6_mean wsX6_lean := goodIn_r _ [7, 8, 9, 6, 10] (by decide +kernel) (by decide +kernel)
set_option maxRecDepth 20000 in
theorem gX6_mean_X6_lean : GoodIn wsX6_mean (va_wsS RX6 76 yX6_lean wsX6_lean) := goodIn_app (goodIn_of _ (by decide +kernel)) ggX6_mean_X6_lean
theorem dX6_mean_0 : decode cX6_mean 0 = .ok (.aload_n 0, 1) := by decide +kernel
theorem dX6_mean_1 : decode cX6_mean 1 = .ok (.iconst 0, 1) := by decide +kernel
theorem dX6_mean_2 : decode cX6_mean 2 = .ok (.putfield 59, 3) := by decide +kernel
theorem dX6_mean_5 : decode cX6_mean 5 = .ok (.iconst 0, 1) := by decide +kernel
theorem dX6_mean_6 : decode cX6_mean 6 = .ok (.istore_n 1, 1) := by decide +kernel
theorem dX6_mean_7 : decode cX6_mean 7 = .ok (.iconst 0, 1) := by decide +kernel
theorem dX6_mean_8 : decode cX6_mean 8 = .ok (.istore_n 2, 1) := by decide +kernel
theorem dX6_mean_9 : decode cX6_mean 9 = .ok (.iload_n 2, 1) := by decide +kernel
theorem dX6_mean_10 : decode cX6_mean 10 = .ok (.aload_n 0, 1) := by decide +kernel
theorem dX6_mean_11 : decode cX6_mean 11 = .ok (.getfield 62, 3) := by decide +kernel
theorem dX6_mean_14 : decode cX6_mean 14 = .ok (.if_icmp .ge 20, 3) := by decide +kernel
theorem dX6_mean_17 : decode cX6_mean 17 = .ok (.iload_n 1, 1) := by decide +kernel
theorem dX6_mean_18 : decode cX6_mean 18 = .ok (.aload_n 0, 1) := by decide +kernel
theorem dX6_mean_19 : decode cX6_mean 19 = .ok (.getfield 91, 3) := by decide +kernel
theorem dX6_mean_22 : decode cX6_mean 22 = .ok (.iload_n 2, 1) := by decide +kernel
theorem dX6_mean_23 : decode cX6_mean 23 = .ok (.invokestatic 76, 3) := by decide +kernel
theorem dX6_mean_26 : decode cX6_mean 26 = .ok (.iadd, 1) := by decide +kernel
theorem dX6_mean_27 : decode cX6_mean 27 = .ok (.istore_n 1, 1) := by decide +kernel
theorem dX6_mean_28 : decode cX6_mean 28 = .ok (.iinc 2 1, 3) := by decide +kernel
theorem dX6_mean_31 : decode cX6_mean 31 = .ok (.goto (-22), 3) := by decide +kernel
theorem dX6_mean_34 : decode cX6_mean 34 = .ok (.aload_n 0, 1) := by decide +kernel
theorem dX6_mean_35 : decode cX6_mean 35 = .ok (.getfield 62, 3) := by decide +kernel
theorem dX6_mean_38 : decode cX6_mean 38 = .ok (.ifCond .ne 7, 3) := by decide +kernel
theorem dX6_mean_41 : decode cX6_mean 41 = .ok (.dconst 0, 1) := by decide +kernel
theorem dX6_mean_42 : decode cX6_mean 42 = .ok (.goto 11, 3) := by decide +kernel
theorem dX6_mean_45 : decode cX6_mean 45 = .ok (.iload_n 1, 1) := by decide +kernel
theorem dX6_mean_46 : decode cX6_mean 46 = .ok (.i2d, 1) := by decide +kernel
theorem dX6_mean_47 : decode cX6_mean 47 = .ok (.aload_n 0, 1) := by decide +kernel
theorem dX6_mean_48 : decode cX6_mean 48 = .ok (.getfield 62, 3) := by decide +kernel
theorem dX6_mean_51 : decode cX6_mean 51 = .ok (.i2d, 1) := by decide +kernel
theorem dX6_mean_52 : decode cX6_mean 52 = .ok (.ddiv, 1) := by decide +kernel
theorem dX6_mean_53 : decode cX6_mean 53 = .ok (.dreturn, 1) := by decide +kernel
set_option maxRecDepth 20000 in
theorem ggX6_digest_X6_counted : GoodIn wsX6_digest wsX6_counted := goodIn_r _ [20, 12, 21, 15, 22, 4, 23, 24, 25, 26, 27, 19, 28, 29, 30, 31, 101, 102, 103, 104, 105, 106, 107, 108, 109, 110, 111, 112, 113, 114, 115, 116, 117, 118, 119, 120, 121, 122, 123, 124, 125] (by decide +kernel) (by decide +kernel)
set_option maxRecDepth 20000 in
theorem gX6_digest_X6_counted : GoodIn wsX6_digest (wsV RX6 167 RX6 yX6_counted wsX6_counted) := goodIn_app (goodIn_of _ (by decide +kernel)) ggX6_digest_X6_counted
set_option maxRecDepth 20000 in
theorem ggX6_digest_X6_shipTold : GoodIn wsX6_digest wsX6_shipTold := goodIn_r _ [35, 4, 21, 36, 37, 38, 39, 19, 40, 11, 12, 13, 14, 41, 42, 43, 44, 26, 27, 28, 29, 30, 31, 45, 46, 47, 48, 10, 49, 50, 51, 52, 53, 54, 55, 56, 57, 9, 58, 59, 60, 61, 62, 63, 64, 65, 66, 5, 67, 68, 69, 70, 7, 8, 6, 101, 102, 103, 104, 105, 106, 107, 108, 109, 110, 111, 112, 113, 114, 115, 116, 117, 118, 119, 120, 121, 122, 123, 124, 125] (by decide +kernel) (by decide +kernel)
set_option maxRecDepth 20000 in
theorem gX6_digest_X6_shipTold : GoodIn wsX6_digest (wsV RX6 161 RX6 yX6_shipTold wsX6_shipTold) := goodIn_app (goodIn_of _ (by decide +kernel)) ggX6_digest_X6_shipTold
set_option maxRecDepth 20000 in
theorem ggX6_digest_X6_mastTold : GoodIn wsX6_digest wsX6_mastTold := goodIn_r _ [74, 4, 58, 53, 21, 13, 26, 27, 19, 28, 29, 30, 31, 49, 50, 51, 52, 59, 60, 61, 62, 75, 76, 77, 78, 15, 79, 22, 80, 81, 82, 83, 101, 102, 103, 104, 105, 106, 107, 108, 109, 110, 111, 112, 113, 114, 115, 116, 117, 118, 119, 120, 121, 122, 123, 124, 125] (by decide +kernel) (by decide +kernel)
set_option maxRecDepth 20000 in
theorem gX6_digest_X6_mastTold : GoodIn wsX6_digest (wsV RX6 155 RX6 yX6_mastTold wsX6_mastTold) := goodIn_app (goodIn_of _ (by decide +kernel)) ggX6_digest_X6_mastTold
set_option maxRecDepth 20000 in
theorem ggX6_digest_X6_threadTold : GoodIn wsX6_digest wsX6_threadTold := goodIn_r _ [87, 15, 4, 79, 88, 89, 22, 90, 91, 92, 19, 93, 94, 95, 43, 96, 41, 42, 44, 97, 98, 99, 100, 58, 101, 102, 103, 104, 105, 106, 107, 108, 109, 110, 111, 112, 113, 114, 115, 116, 117, 118, 119, 120, 121, 122, 123, 124, 125] (by decide +kernel) (by decide +kernel)
set_option maxRecDepth 20000 in
theorem gX6_digest_X6_threadTold : GoodIn wsX6_digest (wsV RX6 158 RX6 yX6_threadTold wsX6_threadTold) := goodIn_app (goodIn_of _ (by decide +kernel)) ggX6_digest_X6_threadTold
theorem dX6_digest_0 : decode cX6_digest 0 = .ok (.aload_n 0, 1) := by decide +kernel
theorem dX6_digest_1 : decode cX6_digest 1 = .ok (.iconst 0, 1) := by decide +kernel
theorem dX6_digest_2 : decode cX6_digest 2 = .ok (.putfield 59, 3) := by decide +kernel
theorem dX6_digest_5 : decode cX6_digest 5 = .ok (.ldc2_w 179, 3) := by decide +kernel
theorem dX6_digest_8 : decode cX6_digest 8 = .ok (.lstore_n 1, 1) := by decide +kernel
theorem dX6_digest_9 : decode cX6_digest 9 = .ok (.iconst 0, 1) := by decide +kernel
theorem dX6_digest_10 : decode cX6_digest 10 = .ok (.istore_n 3, 1) := by decide +kernel
theorem dX6_digest_11 : decode cX6_digest 11 = .ok (.iload_n 3, 1) := by decide +kernel
theorem dX6_digest_12 : decode cX6_digest 12 = .ok (.bipush 8, 2) := by decide +kernel
theorem dX6_digest_14 : decode cX6_digest 14 = .ok (.if_icmp .ge 22, 3) := by decide +kernel
theorem dX6_digest_17 : decode cX6_digest 17 = .ok (.lload_n 1, 1) := by decide +kernel
theorem dX6_digest_18 : decode cX6_digest 18 = .ok (.ldc2_w 181, 3) := by decide +kernel
theorem dX6_digest_21 : decode cX6_digest 21 = .ok (.lmul, 1) := by decide +kernel
theorem dX6_digest_22 : decode cX6_digest 22 = .ok (.aload_n 0, 1) := by decide +kernel
theorem dX6_digest_23 : decode cX6_digest 23 = .ok (.iload_n 3, 1) := by decide +kernel
theorem dX6_digest_24 : decode cX6_digest 24 = .ok (.invokevirtual 167, 3) := by decide +kernel
theorem dX6_digest_27 : decode cX6_digest 27 = .ok (.i2l, 1) := by decide +kernel
theorem dX6_digest_28 : decode cX6_digest 28 = .ok (.ladd, 1) := by decide +kernel
theorem dX6_digest_29 : decode cX6_digest 29 = .ok (.lstore_n 1, 1) := by decide +kernel
theorem dX6_digest_30 : decode cX6_digest 30 = .ok (.iinc 3 1, 3) := by decide +kernel
theorem dX6_digest_33 : decode cX6_digest 33 = .ok (.goto (-22), 3) := by decide +kernel
theorem dX6_digest_36 : decode cX6_digest 36 = .ok (.iconst 0, 1) := by decide +kernel
theorem dX6_digest_37 : decode cX6_digest 37 = .ok (.istore_n 3, 1) := by decide +kernel
theorem dX6_digest_38 : decode cX6_digest 38 = .ok (.iload_n 3, 1) := by decide +kernel
theorem dX6_digest_39 : decode cX6_digest 39 = .ok (.bipush 6, 2) := by decide +kernel
theorem dX6_digest_41 : decode cX6_digest 41 = .ok (.if_icmp .ge 22, 3) := by decide +kernel
theorem dX6_digest_44 : decode cX6_digest 44 = .ok (.lload_n 1, 1) := by decide +kernel
theorem dX6_digest_45 : decode cX6_digest 45 = .ok (.ldc2_w 181, 3) := by decide +kernel
theorem dX6_digest_48 : decode cX6_digest 48 = .ok (.lmul, 1) := by decide +kernel
theorem dX6_digest_49 : decode cX6_digest 49 = .ok (.aload_n 0, 1) := by decide +kernel
theorem dX6_digest_50 : decode cX6_digest 50 = .ok (.iload_n 3, 1) := by decide +kernel
theorem dX6_digest_51 : decode cX6_digest 51 = .ok (.invokevirtual 161, 3) := by decide +kernel
theorem dX6_digest_54 : decode cX6_digest 54 = .ok (.i2l, 1) := by decide +kernel
theorem dX6_digest_55 : decode cX6_digest 55 = .ok (.ladd, 1) := by decide +kernel
theorem dX6_digest_56 : decode cX6_digest 56 = .ok (.lstore_n 1, 1) := by decide +kernel
theorem dX6_digest_57 : decode cX6_digest 57 = .ok (.iinc 3 1, 3) := by decide +kernel
theorem dX6_digest_60 : decode cX6_digest 60 = .ok (.goto (-22), 3) := by decide +kernel
theorem dX6_digest_63 : decode cX6_digest 63 = .ok (.bipush 7, 2) := by decide +kernel
theorem dX6_digest_65 : decode cX6_digest 65 = .ok (.newarray .int, 2) := by decide +kernel
theorem dX6_digest_67 : decode cX6_digest 67 = .ok (.dup, 1) := by decide +kernel
theorem dX6_digest_68 : decode cX6_digest 68 = .ok (.iconst 0, 1) := by decide +kernel
theorem dX6_digest_69 : decode cX6_digest 69 = .ok (.aload_n 0, 1) := by decide +kernel
theorem dX6_digest_70 : decode cX6_digest 70 = .ok (.getfield 7, 3) := by decide +kernel
theorem dX6_digest_73 : decode cX6_digest 73 = .ok (.iastore, 1) := by decide +kernel
theorem dX6_digest_74 : decode cX6_digest 74 = .ok (.dup, 1) := by decide +kernel
theorem dX6_digest_75 : decode cX6_digest 75 = .ok (.iconst 1, 1) := by decide +kernel
theorem dX6_digest_76 : decode cX6_digest 76 = .ok (.aload_n 0, 1) := by decide +kernel
theorem dX6_digest_77 : decode cX6_digest 77 = .ok (.getfield 13, 3) := by decide +kernel
theorem dX6_digest_80 : decode cX6_digest 80 = .ok (.iastore, 1) := by decide +kernel
theorem dX6_digest_81 : decode cX6_digest 81 = .ok (.dup, 1) := by decide +kernel
theorem dX6_digest_82 : decode cX6_digest 82 = .ok (.iconst 2, 1) := by decide +kernel
theorem dX6_digest_83 : decode cX6_digest 83 = .ok (.aload_n 0, 1) := by decide +kernel
theorem dX6_digest_84 : decode cX6_digest 84 = .ok (.getfield 16, 3) := by decide +kernel
theorem dX6_digest_87 : decode cX6_digest 87 = .ok (.iastore, 1) := by decide +kernel
theorem dX6_digest_88 : decode cX6_digest 88 = .ok (.dup, 1) := by decide +kernel
theorem dX6_digest_89 : decode cX6_digest 89 = .ok (.iconst 3, 1) := by decide +kernel
theorem dX6_digest_90 : decode cX6_digest 90 = .ok (.aload_n 0, 1) := by decide +kernel
theorem dX6_digest_91 : decode cX6_digest 91 = .ok (.getfield 103, 3) := by decide +kernel
theorem dX6_digest_94 : decode cX6_digest 94 = .ok (.iastore, 1) := by decide +kernel
theorem dX6_digest_95 : decode cX6_digest 95 = .ok (.dup, 1) := by decide +kernel
theorem dX6_digest_96 : decode cX6_digest 96 = .ok (.iconst 4, 1) := by decide +kernel
theorem dX6_digest_97 : decode cX6_digest 97 = .ok (.aload_n 0, 1) := by decide +kernel
theorem dX6_digest_98 : decode cX6_digest 98 = .ok (.getfield 19, 3) := by decide +kernel
theorem dX6_digest_101 : decode cX6_digest 101 = .ok (.iastore, 1) := by decide +kernel
theorem dX6_digest_102 : decode cX6_digest 102 = .ok (.dup, 1) := by decide +kernel
theorem dX6_digest_103 : decode cX6_digest 103 = .ok (.iconst 5, 1) := by decide +kernel
theorem dX6_digest_104 : decode cX6_digest 104 = .ok (.aload_n 0, 1) := by decide +kernel
theorem dX6_digest_105 : decode cX6_digest 105 = .ok (.getfield 22, 3) := by decide +kernel
theorem dX6_digest_108 : decode cX6_digest 108 = .ok (.iastore, 1) := by decide +kernel
theorem dX6_digest_109 : decode cX6_digest 109 = .ok (.dup, 1) := by decide +kernel
theorem dX6_digest_110 : decode cX6_digest 110 = .ok (.bipush 6, 2) := by decide +kernel
theorem dX6_digest_112 : decode cX6_digest 112 = .ok (.aload_n 0, 1) := by decide +kernel
theorem dX6_digest_113 : decode cX6_digest 113 = .ok (.getfield 25, 3) := by decide +kernel
theorem dX6_digest_116 : decode cX6_digest 116 = .ok (.iastore, 1) := by decide +kernel
theorem dX6_digest_117 : decode cX6_digest 117 = .ok (.astore_n 3, 1) := by decide +kernel
theorem dX6_digest_118 : decode cX6_digest 118 = .ok (.iconst 0, 1) := by decide +kernel
theorem dX6_digest_119 : decode cX6_digest 119 = .ok (.istore 4, 2) := by decide +kernel
theorem dX6_digest_121 : decode cX6_digest 121 = .ok (.iload 4, 2) := by decide +kernel
theorem dX6_digest_123 : decode cX6_digest 123 = .ok (.bipush 7, 2) := by decide +kernel
theorem dX6_digest_125 : decode cX6_digest 125 = .ok (.if_icmp .ge 21, 3) := by decide +kernel
theorem dX6_digest_128 : decode cX6_digest 128 = .ok (.lload_n 1, 1) := by decide +kernel
theorem dX6_digest_129 : decode cX6_digest 129 = .ok (.ldc2_w 181, 3) := by decide +kernel
theorem dX6_digest_132 : decode cX6_digest 132 = .ok (.lmul, 1) := by decide +kernel
theorem dX6_digest_133 : decode cX6_digest 133 = .ok (.aload_n 3, 1) := by decide +kernel
theorem dX6_digest_134 : decode cX6_digest 134 = .ok (.iload 4, 2) := by decide +kernel
theorem dX6_digest_136 : decode cX6_digest 136 = .ok (.iaload, 1) := by decide +kernel
theorem dX6_digest_137 : decode cX6_digest 137 = .ok (.i2l, 1) := by decide +kernel
theorem dX6_digest_138 : decode cX6_digest 138 = .ok (.ladd, 1) := by decide +kernel
theorem dX6_digest_139 : decode cX6_digest 139 = .ok (.lstore_n 1, 1) := by decide +kernel
theorem dX6_digest_140 : decode cX6_digest 140 = .ok (.iinc 4 1, 3) := by decide +kernel
theorem dX6_digest_143 : decode cX6_digest 143 = .ok (.goto (-22), 3) := by decide +kernel
theorem dX6_digest_146 : decode cX6_digest 146 = .ok (.iconst 0, 1) := by decide +kernel
theorem dX6_digest_147 : decode cX6_digest 147 = .ok (.istore 4, 2) := by decide +kernel
theorem dX6_digest_149 : decode cX6_digest 149 = .ok (.iload 4, 2) := by decide +kernel
theorem dX6_digest_151 : decode cX6_digest 151 = .ok (.aload_n 0, 1) := by decide +kernel
theorem dX6_digest_152 : decode cX6_digest 152 = .ok (.getfield 62, 3) := by decide +kernel
theorem dX6_digest_155 : decode cX6_digest 155 = .ok (.if_icmp .ge 82, 3) := by decide +kernel
theorem dX6_digest_158 : decode cX6_digest 158 = .ok (.iconst 0, 1) := by decide +kernel
theorem dX6_digest_159 : decode cX6_digest 159 = .ok (.istore 5, 2) := by decide +kernel
theorem dX6_digest_161 : decode cX6_digest 161 = .ok (.iload 5, 2) := by decide +kernel
theorem dX6_digest_163 : decode cX6_digest 163 = .ok (.bipush 8, 2) := by decide +kernel
theorem dX6_digest_165 : decode cX6_digest 165 = .ok (.if_icmp .ge 25, 3) := by decide +kernel
theorem dX6_digest_168 : decode cX6_digest 168 = .ok (.lload_n 1, 1) := by decide +kernel
theorem dX6_digest_169 : decode cX6_digest 169 = .ok (.ldc2_w 181, 3) := by decide +kernel
theorem dX6_digest_172 : decode cX6_digest 172 = .ok (.lmul, 1) := by decide +kernel
theorem dX6_digest_173 : decode cX6_digest 173 = .ok (.aload_n 0, 1) := by decide +kernel
theorem dX6_digest_174 : decode cX6_digest 174 = .ok (.iload 4, 2) := by decide +kernel
theorem dX6_digest_176 : decode cX6_digest 176 = .ok (.iload 5, 2) := by decide +kernel
theorem dX6_digest_178 : decode cX6_digest 178 = .ok (.invokevirtual 155, 3) := by decide +kernel
theorem dX6_digest_181 : decode cX6_digest 181 = .ok (.i2l, 1) := by decide +kernel
theorem dX6_digest_182 : decode cX6_digest 182 = .ok (.ladd, 1) := by decide +kernel
theorem dX6_digest_183 : decode cX6_digest 183 = .ok (.lstore_n 1, 1) := by decide +kernel
theorem dX6_digest_184 : decode cX6_digest 184 = .ok (.iinc 5 1, 3) := by decide +kernel
theorem dX6_digest_187 : decode cX6_digest 187 = .ok (.goto (-26), 3) := by decide +kernel
theorem dX6_digest_190 : decode cX6_digest 190 = .ok (.iconst 0, 1) := by decide +kernel
theorem dX6_digest_191 : decode cX6_digest 191 = .ok (.istore 5, 2) := by decide +kernel
theorem dX6_digest_193 : decode cX6_digest 193 = .ok (.iload 5, 2) := by decide +kernel
theorem dX6_digest_195 : decode cX6_digest 195 = .ok (.aload_n 0, 1) := by decide +kernel
theorem dX6_digest_196 : decode cX6_digest 196 = .ok (.getfield 35, 3) := by decide +kernel
theorem dX6_digest_199 : decode cX6_digest 199 = .ok (.iload 4, 2) := by decide +kernel
theorem dX6_digest_201 : decode cX6_digest 201 = .ok (.iaload, 1) := by decide +kernel
theorem dX6_digest_202 : decode cX6_digest 202 = .ok (.if_icmp .ge 29, 3) := by decide +kernel
theorem dX6_digest_205 : decode cX6_digest 205 = .ok (.lload_n 1, 1) := by decide +kernel
theorem dX6_digest_206 : decode cX6_digest 206 = .ok (.ldc2_w 181, 3) := by decide +kernel
theorem dX6_digest_209 : decode cX6_digest 209 = .ok (.lmul, 1) := by decide +kernel
theorem dX6_digest_210 : decode cX6_digest 210 = .ok (.aload_n 0, 1) := by decide +kernel
theorem dX6_digest_211 : decode cX6_digest 211 = .ok (.getfield 38, 3) := by decide +kernel
theorem dX6_digest_214 : decode cX6_digest 214 = .ok (.iconst 3, 1) := by decide +kernel
theorem dX6_digest_215 : decode cX6_digest 215 = .ok (.iload 4, 2) := by decide +kernel
theorem dX6_digest_217 : decode cX6_digest 217 = .ok (.imul, 1) := by decide +kernel
theorem dX6_digest_218 : decode cX6_digest 218 = .ok (.iload 5, 2) := by decide +kernel
theorem dX6_digest_220 : decode cX6_digest 220 = .ok (.iadd, 1) := by decide +kernel
theorem dX6_digest_221 : decode cX6_digest 221 = .ok (.iaload, 1) := by decide +kernel
theorem dX6_digest_222 : decode cX6_digest 222 = .ok (.i2l, 1) := by decide +kernel
theorem dX6_digest_223 : decode cX6_digest 223 = .ok (.ladd, 1) := by decide +kernel
theorem dX6_digest_224 : decode cX6_digest 224 = .ok (.lstore_n 1, 1) := by decide +kernel
theorem dX6_digest_225 : decode cX6_digest 225 = .ok (.iinc 5 1, 3) := by decide +kernel
theorem dX6_digest_228 : decode cX6_digest 228 = .ok (.goto (-35), 3) := by decide +kernel
theorem dX6_digest_231 : decode cX6_digest 231 = .ok (.iinc 4 1, 3) := by decide +kernel
theorem dX6_digest_234 : decode cX6_digest 234 = .ok (.goto (-85), 3) := by decide +kernel
theorem dX6_digest_237 : decode cX6_digest 237 = .ok (.iconst 0, 1) := by decide +kernel
theorem dX6_digest_238 : decode cX6_digest 238 = .ok (.istore 4, 2) := by decide +kernel
theorem dX6_digest_240 : decode cX6_digest 240 = .ok (.iload 4, 2) := by decide +kernel
theorem dX6_digest_242 : decode cX6_digest 242 = .ok (.aload_n 0, 1) := by decide +kernel
theorem dX6_digest_243 : decode cX6_digest 243 = .ok (.getfield 69, 3) := by decide +kernel
theorem dX6_digest_246 : decode cX6_digest 246 = .ok (.if_icmp .ge 40, 3) := by decide +kernel
theorem dX6_digest_249 : decode cX6_digest 249 = .ok (.iconst 0, 1) := by decide +kernel
theorem dX6_digest_250 : decode cX6_digest 250 = .ok (.istore 5, 2) := by decide +kernel
theorem dX6_digest_252 : decode cX6_digest 252 = .ok (.iload 5, 2) := by decide +kernel
theorem dX6_digest_254 : decode cX6_digest 254 = .ok (.iconst 5, 1) := by decide +kernel
theorem dX6_digest_255 : decode cX6_digest 255 = .ok (.if_icmp .ge 25, 3) := by decide +kernel
theorem dX6_digest_258 : decode cX6_digest 258 = .ok (.lload_n 1, 1) := by decide +kernel
theorem dX6_digest_259 : decode cX6_digest 259 = .ok (.ldc2_w 181, 3) := by decide +kernel
theorem dX6_digest_262 : decode cX6_digest 262 = .ok (.lmul, 1) := by decide +kernel
theorem dX6_digest_263 : decode cX6_digest 263 = .ok (.aload_n 0, 1) := by decide +kernel
theorem dX6_digest_264 : decode cX6_digest 264 = .ok (.iload 4, 2) := by decide +kernel
theorem dX6_digest_266 : decode cX6_digest 266 = .ok (.iload 5, 2) := by decide +kernel
theorem dX6_digest_268 : decode cX6_digest 268 = .ok (.invokevirtual 158, 3) := by decide +kernel
theorem dX6_digest_271 : decode cX6_digest 271 = .ok (.i2l, 1) := by decide +kernel
theorem dX6_digest_272 : decode cX6_digest 272 = .ok (.ladd, 1) := by decide +kernel
theorem dX6_digest_273 : decode cX6_digest 273 = .ok (.lstore_n 1, 1) := by decide +kernel
theorem dX6_digest_274 : decode cX6_digest 274 = .ok (.iinc 5 1, 3) := by decide +kernel
theorem dX6_digest_277 : decode cX6_digest 277 = .ok (.goto (-25), 3) := by decide +kernel
theorem dX6_digest_280 : decode cX6_digest 280 = .ok (.iinc 4 1, 3) := by decide +kernel
theorem dX6_digest_283 : decode cX6_digest 283 = .ok (.goto (-43), 3) := by decide +kernel
theorem dX6_digest_286 : decode cX6_digest 286 = .ok (.lload_n 1, 1) := by decide +kernel
theorem dX6_digest_287 : decode cX6_digest 287 = .ok (.lreturn, 1) := by decide +kernel
theorem dJ9_max_7cf53_0 : decode cJ9_max_7cf53 0 = .ok (.iload_n 0, 1) := by decide +kernel
theorem dJ9_max_7cf53_1 : decode cJ9_max_7cf53 1 = .ok (.iload_n 1, 1) := by decide +kernel
theorem dJ9_max_7cf53_2 : decode cJ9_max_7cf53 2 = .ok (.if_icmp .lt 7, 3) := by decide +kernel
theorem dJ9_max_7cf53_5 : decode cJ9_max_7cf53 5 = .ok (.iload_n 0, 1) := by decide +kernel
theorem dJ9_max_7cf53_6 : decode cJ9_max_7cf53 6 = .ok (.goto 4, 3) := by decide +kernel
theorem dJ9_max_7cf53_9 : decode cJ9_max_7cf53 9 = .ok (.iload_n 1, 1) := by decide +kernel
theorem dJ9_max_7cf53_10 : decode cJ9_max_7cf53 10 = .ok (.ireturn, 1) := by decide +kernel
theorem dJ9_min_7cf53_0 : decode cJ9_min_7cf53 0 = .ok (.iload_n 0, 1) := by decide +kernel
theorem dJ9_min_7cf53_1 : decode cJ9_min_7cf53 1 = .ok (.iload_n 1, 1) := by decide +kernel
theorem dJ9_min_7cf53_2 : decode cJ9_min_7cf53 2 = .ok (.if_icmp .gt 7, 3) := by decide +kernel
theorem dJ9_min_7cf53_5 : decode cJ9_min_7cf53 5 = .ok (.iload_n 0, 1) := by decide +kernel
theorem dJ9_min_7cf53_6 : decode cJ9_min_7cf53 6 = .ok (.goto 4, 3) := by decide +kernel
theorem dJ9_min_7cf53_9 : decode cJ9_min_7cf53 9 = .ok (.iload_n 1, 1) := by decide +kernel
theorem dJ9_min_7cf53_10 : decode cJ9_min_7cf53 10 = .ok (.ireturn, 1) := by decide +kernel
theorem dJ7_fill_53178_0 : decode cJ7_fill_53178 0 = .ok (.iconst 0, 1) := by decide +kernel
theorem dJ7_fill_53178_1 : decode cJ7_fill_53178 1 = .ok (.istore_n 2, 1) := by decide +kernel
theorem dJ7_fill_53178_2 : decode cJ7_fill_53178 2 = .ok (.aload_n 0, 1) := by decide +kernel
theorem dJ7_fill_53178_3 : decode cJ7_fill_53178 3 = .ok (.arraylength, 1) := by decide +kernel
theorem dJ7_fill_53178_4 : decode cJ7_fill_53178 4 = .ok (.istore_n 3, 1) := by decide +kernel
theorem dJ7_fill_53178_5 : decode cJ7_fill_53178 5 = .ok (.iload_n 2, 1) := by decide +kernel
theorem dJ7_fill_53178_6 : decode cJ7_fill_53178 6 = .ok (.iload_n 3, 1) := by decide +kernel
theorem dJ7_fill_53178_7 : decode cJ7_fill_53178 7 = .ok (.if_icmp .ge 13, 3) := by decide +kernel
theorem dJ7_fill_53178_10 : decode cJ7_fill_53178 10 = .ok (.aload_n 0, 1) := by decide +kernel
theorem dJ7_fill_53178_11 : decode cJ7_fill_53178 11 = .ok (.iload_n 2, 1) := by decide +kernel
theorem dJ7_fill_53178_12 : decode cJ7_fill_53178 12 = .ok (.iload_n 1, 1) := by decide +kernel
theorem dJ7_fill_53178_13 : decode cJ7_fill_53178 13 = .ok (.iastore, 1) := by decide +kernel
theorem dJ7_fill_53178_14 : decode cJ7_fill_53178 14 = .ok (.iinc 2 1, 3) := by decide +kernel
theorem dJ7_fill_53178_17 : decode cJ7_fill_53178 17 = .ok (.goto (-12), 3) := by decide +kernel
theorem dJ7_fill_53178_20 : decode cJ7_fill_53178 20 = .ok (.return_, 1) := by decide +kernel
set_option maxRecDepth 20000 in
theorem ggL_setBottle_X5_setBottle : GoodIn wsL_setBottle wsX5_setBottle := goodIn_ca (goodIn_ca (goodIn_r _ [7, 8, 9, 10, 11, 12, 13, 14, 15, 16, 17, 18, 19, 6, 20, 21, 22, 23, 24, 25, 26, 27, 28, 29, 30, 31, 32, 33, 34, 35, 36, 37, 38] (by decide +kernel) (by decide +kernel)) (goodIn_sub (fun _ h => List.mem_cons_of_mem _ (List.mem_append_left _ (List.mem_append_right _ h))) (by decide +kernel))) (goodIn_sub (fun _ h => List.mem_cons_of_mem _ (List.mem_append_right _ h)) (by decide +kernel))
set_option maxRecDepth 20000 in
theorem gL_setBottle_X5_setBottle : GoodIn wsL_setBottle (wsV RL 7 RX5 yX5_setBottle wsX5_setBottle) := goodIn_app (goodIn_of _ (by decide +kernel)) ggL_setBottle_X5_setBottle
theorem dL_setBottle_0 : decode cL_setBottle 0 = .ok (.aload 5, 2) := by decide +kernel
theorem dL_setBottle_2 : decode cL_setBottle 2 = .ok (.iconst 0, 1) := by decide +kernel
theorem dL_setBottle_3 : decode cL_setBottle 3 = .ok (.aload_n 0, 1) := by decide +kernel
theorem dL_setBottle_4 : decode cL_setBottle 4 = .ok (.iload_n 1, 1) := by decide +kernel
theorem dL_setBottle_5 : decode cL_setBottle 5 = .ok (.iload_n 2, 1) := by decide +kernel
theorem dL_setBottle_6 : decode cL_setBottle 6 = .ok (.iload_n 3, 1) := by decide +kernel
theorem dL_setBottle_7 : decode cL_setBottle 7 = .ok (.iload 4, 2) := by decide +kernel
theorem dL_setBottle_9 : decode cL_setBottle 9 = .ok (.invokevirtual 7, 3) := by decide +kernel
theorem dL_setBottle_12 : decode cL_setBottle 12 = .ok (.i2l, 1) := by decide +kernel
theorem dL_setBottle_13 : decode cL_setBottle 13 = .ok (.lastore, 1) := by decide +kernel
theorem dL_setBottle_14 : decode cL_setBottle 14 = .ok (.goto 11, 3) := by decide +kernel
theorem dL_setBottle_17 : decode cL_setBottle 17 = .ok (.astore 6, 2) := by decide +kernel
theorem dL_setBottle_19 : decode cL_setBottle 19 = .ok (.iconst 1, 1) := by decide +kernel
theorem dL_setBottle_20 : decode cL_setBottle 20 = .ok (.ireturn, 1) := by decide +kernel
theorem dL_setBottle_21 : decode cL_setBottle 21 = .ok (.astore 6, 2) := by decide +kernel
theorem dL_setBottle_23 : decode cL_setBottle 23 = .ok (.iconst 2, 1) := by decide +kernel
theorem dL_setBottle_24 : decode cL_setBottle 24 = .ok (.ireturn, 1) := by decide +kernel
theorem dL_setBottle_25 : decode cL_setBottle 25 = .ok (.iconst 0, 1) := by decide +kernel
theorem dL_setBottle_26 : decode cL_setBottle 26 = .ok (.ireturn, 1) := by decide +kernel
set_option maxRecDepth 20000 in
theorem ggL_setHull_X5_setHull : GoodIn wsL_setHull wsX5_setHull := goodIn_ca (goodIn_ca (goodIn_r _ [7, 8, 9, 10, 11, 12, 13, 14, 15, 16, 17, 18, 19, 6, 20, 21, 22, 23, 24, 25, 26, 27, 28, 29, 30, 31, 32, 33, 34, 35, 36, 37] (by decide +kernel) (by decide +kernel)) (goodIn_sub (fun _ h => List.mem_cons_of_mem _ (List.mem_append_left _ (List.mem_append_right _ h))) (by decide +kernel))) (goodIn_sub (fun _ h => List.mem_cons_of_mem _ (List.mem_append_right _ h)) (by decide +kernel))
set_option maxRecDepth 20000 in
theorem gL_setHull_X5_setHull : GoodIn wsL_setHull (wsV RL 17 RX5 yX5_setHull wsX5_setHull) := goodIn_app (goodIn_of _ (by decide +kernel)) ggL_setHull_X5_setHull
theorem dL_setHull_0 : decode cL_setHull 0 = .ok (.aload 4, 2) := by decide +kernel
theorem dL_setHull_2 : decode cL_setHull 2 = .ok (.iconst 0, 1) := by decide +kernel
theorem dL_setHull_3 : decode cL_setHull 3 = .ok (.aload_n 0, 1) := by decide +kernel
theorem dL_setHull_4 : decode cL_setHull 4 = .ok (.iload_n 1, 1) := by decide +kernel
theorem dL_setHull_5 : decode cL_setHull 5 = .ok (.iload_n 2, 1) := by decide +kernel
theorem dL_setHull_6 : decode cL_setHull 6 = .ok (.iload_n 3, 1) := by decide +kernel
theorem dL_setHull_7 : decode cL_setHull 7 = .ok (.invokevirtual 17, 3) := by decide +kernel
theorem dL_setHull_10 : decode cL_setHull 10 = .ok (.i2l, 1) := by decide +kernel
theorem dL_setHull_11 : decode cL_setHull 11 = .ok (.lastore, 1) := by decide +kernel
theorem dL_setHull_12 : decode cL_setHull 12 = .ok (.goto 11, 3) := by decide +kernel
theorem dL_setHull_15 : decode cL_setHull 15 = .ok (.astore 5, 2) := by decide +kernel
theorem dL_setHull_17 : decode cL_setHull 17 = .ok (.iconst 1, 1) := by decide +kernel
theorem dL_setHull_18 : decode cL_setHull 18 = .ok (.ireturn, 1) := by decide +kernel
theorem dL_setHull_19 : decode cL_setHull 19 = .ok (.astore 5, 2) := by decide +kernel
theorem dL_setHull_21 : decode cL_setHull 21 = .ok (.iconst 2, 1) := by decide +kernel
theorem dL_setHull_22 : decode cL_setHull 22 = .ok (.ireturn, 1) := by decide +kernel
theorem dL_setHull_23 : decode cL_setHull 23 = .ok (.iconst 0, 1) := by decide +kernel
theorem dL_setHull_24 : decode cL_setHull 24 = .ok (.ireturn, 1) := by decide +kernel
set_option maxRecDepth 20000 in
theorem ggL_step_X5_step : GoodIn wsL_step wsX5_step := goodIn_ca (goodIn_ca (goodIn_r _ [7, 8, 9, 10, 11, 12, 13, 14, 15, 16, 17, 18, 19, 20, 21, 6, 22, 23, 24, 25, 26, 27, 28, 29, 30, 31, 32, 33, 34, 35, 36, 37, 38, 39, 40, 41, 42, 43, 44, 45, 46, 47] (by decide +kernel) (by decide +kernel)) (goodIn_sub (fun _ h => List.mem_cons_of_mem _ (List.mem_append_left _ (List.mem_append_right _ h))) (by decide +kernel))) (goodIn_sub (fun _ h => List.mem_cons_of_mem _ (List.mem_append_right _ h)) (by decide +kernel))
set_option maxRecDepth 20000 in
theorem gL_step_X5_step : GoodIn wsL_step (wsV RL 21 RX5 yX5_step wsX5_step) := goodIn_app (goodIn_of _ (by decide +kernel)) ggL_step_X5_step
theorem dL_step_0 : decode cL_step 0 = .ok (.aload_n 3, 1) := by decide +kernel
theorem dL_step_1 : decode cL_step 1 = .ok (.iconst 0, 1) := by decide +kernel
theorem dL_step_2 : decode cL_step 2 = .ok (.aload_n 0, 1) := by decide +kernel
theorem dL_step_3 : decode cL_step 3 = .ok (.iload_n 1, 1) := by decide +kernel
theorem dL_step_4 : decode cL_step 4 = .ok (.iload_n 2, 1) := by decide +kernel
theorem dL_step_5 : decode cL_step 5 = .ok (.invokevirtual 21, 3) := by decide +kernel
theorem dL_step_8 : decode cL_step 8 = .ok (.i2l, 1) := by decide +kernel
theorem dL_step_9 : decode cL_step 9 = .ok (.lastore, 1) := by decide +kernel
theorem dL_step_10 : decode cL_step 10 = .ok (.goto 11, 3) := by decide +kernel
theorem dL_step_13 : decode cL_step 13 = .ok (.astore 4, 2) := by decide +kernel
theorem dL_step_15 : decode cL_step 15 = .ok (.iconst 1, 1) := by decide +kernel
theorem dL_step_16 : decode cL_step 16 = .ok (.ireturn, 1) := by decide +kernel
theorem dL_step_17 : decode cL_step 17 = .ok (.astore 4, 2) := by decide +kernel
theorem dL_step_19 : decode cL_step 19 = .ok (.iconst 2, 1) := by decide +kernel
theorem dL_step_20 : decode cL_step 20 = .ok (.ireturn, 1) := by decide +kernel
theorem dL_step_21 : decode cL_step 21 = .ok (.iconst 0, 1) := by decide +kernel
theorem dL_step_22 : decode cL_step 22 = .ok (.ireturn, 1) := by decide +kernel
set_option maxRecDepth 20000 in
theorem ggL_yard_X5_yard : GoodIn wsL_yard wsX5_yard := goodIn_ca (goodIn_ca (goodIn_ca (goodIn_r _ [8, 9, 10, 11, 12, 13, 14, 15, 16, 17, 18, 19, 20, 21, 7, 22, 23, 24, 25, 26, 27, 28, 29, 30, 31, 32, 33, 34, 35, 36, 37, 38, 39, 40, 41, 42, 43, 44] (by decide +kernel) (by decide +kernel)) (goodIn_sub (fun _ h => List.mem_cons_of_mem _ (List.mem_append_left _ (List.mem_append_left _ (List.mem_append_right _ h)))) (by decide +kernel))) (goodIn_sub (fun _ h => List.mem_cons_of_mem _ (List.mem_append_left _ (List.mem_append_right _ h))) (by decide +kernel))) (goodIn_sub (fun _ h => List.mem_cons_of_mem _ (List.mem_append_right _ h)) (by decide +kernel))
set_option maxRecDepth 20000 in
theorem gL_yard_X5_yard : GoodIn wsL_yard (wsV RL 25 RX5 yX5_yard wsX5_yard) := goodIn_app (goodIn_of _ (by decide +kernel)) ggL_yard_X5_yard
theorem dL_yard_0 : decode cL_yard 0 = .ok (.aload_n 3, 1) := by decide +kernel
theorem dL_yard_1 : decode cL_yard 1 = .ok (.iconst 0, 1) := by decide +kernel
theorem dL_yard_2 : decode cL_yard 2 = .ok (.aload_n 0, 1) := by decide +kernel
theorem dL_yard_3 : decode cL_yard 3 = .ok (.iload_n 1, 1) := by decide +kernel
theorem dL_yard_4 : decode cL_yard 4 = .ok (.iload_n 2, 1) := by decide +kernel
theorem dL_yard_5 : decode cL_yard 5 = .ok (.invokevirtual 25, 3) := by decide +kernel
theorem dL_yard_8 : decode cL_yard 8 = .ok (.i2l, 1) := by decide +kernel
theorem dL_yard_9 : decode cL_yard 9 = .ok (.lastore, 1) := by decide +kernel
theorem dL_yard_10 : decode cL_yard 10 = .ok (.goto 15, 3) := by decide +kernel
theorem dL_yard_13 : decode cL_yard 13 = .ok (.astore 4, 2) := by decide +kernel
theorem dL_yard_15 : decode cL_yard 15 = .ok (.iconst 1, 1) := by decide +kernel
theorem dL_yard_16 : decode cL_yard 16 = .ok (.ireturn, 1) := by decide +kernel
theorem dL_yard_17 : decode cL_yard 17 = .ok (.astore 4, 2) := by decide +kernel
theorem dL_yard_19 : decode cL_yard 19 = .ok (.iconst 2, 1) := by decide +kernel
theorem dL_yard_20 : decode cL_yard 20 = .ok (.ireturn, 1) := by decide +kernel
theorem dL_yard_21 : decode cL_yard 21 = .ok (.astore 4, 2) := by decide +kernel
theorem dL_yard_23 : decode cL_yard 23 = .ok (.iconst 3, 1) := by decide +kernel
theorem dL_yard_24 : decode cL_yard 24 = .ok (.ireturn, 1) := by decide +kernel
theorem dL_yard_25 : decode cL_yard 25 = .ok (.iconst 0, 1) := by decide +kernel
theorem dL_yard_26 : decode cL_yard 26 = .ok (.ireturn, 1) := by decide +kernel
set_option maxRecDepth 20000 in
theorem ggL_lead_X5_lead : GoodIn wsL_lead wsX5_lead := goodIn_ca (goodIn_ca (goodIn_ca (goodIn_r _ [8, 9, 10, 11, 12, 13, 14, 15, 16, 17, 18, 19, 20, 21, 22, 23, 24, 7, 25, 26, 27, 28, 29, 30, 31, 32, 33, 34, 35, 36, 37, 38, 39, 40, 41, 42, 43, 44, 45, 46, 47, 48, 49, 50, 51, 52, 53, 54, 55, 56, 57, 58, 59, 60, 61, 62, 63, 64, 65, 66, 67] (by decide +kernel) (by decide +kernel)) (goodIn_sub (fun _ h => List.mem_cons_of_mem _ (List.mem_append_left _ (List.mem_append_left _ (List.mem_append_right _ h)))) (by decide +kernel))) (goodIn_sub (fun _ h => List.mem_cons_of_mem _ (List.mem_append_left _ (List.mem_append_right _ h))) (by decide +kernel))) (goodIn_sub (fun _ h => List.mem_cons_of_mem _ (List.mem_append_right _ h)) (by decide +kernel))
set_option maxRecDepth 20000 in
theorem gL_lead_X5_lead : GoodIn wsL_lead (wsV RL 30 RX5 yX5_lead wsX5_lead) := goodIn_app (goodIn_of _ (by decide +kernel)) ggL_lead_X5_lead
theorem dL_lead_0 : decode cL_lead 0 = .ok (.aload 4, 2) := by decide +kernel
theorem dL_lead_2 : decode cL_lead 2 = .ok (.iconst 0, 1) := by decide +kernel
theorem dL_lead_3 : decode cL_lead 3 = .ok (.aload_n 0, 1) := by decide +kernel
theorem dL_lead_4 : decode cL_lead 4 = .ok (.iload_n 1, 1) := by decide +kernel
theorem dL_lead_5 : decode cL_lead 5 = .ok (.iload_n 2, 1) := by decide +kernel
theorem dL_lead_6 : decode cL_lead 6 = .ok (.iload_n 3, 1) := by decide +kernel
theorem dL_lead_7 : decode cL_lead 7 = .ok (.invokevirtual 30, 3) := by decide +kernel
theorem dL_lead_10 : decode cL_lead 10 = .ok (.i2l, 1) := by decide +kernel
theorem dL_lead_11 : decode cL_lead 11 = .ok (.lastore, 1) := by decide +kernel
theorem dL_lead_12 : decode cL_lead 12 = .ok (.goto 15, 3) := by decide +kernel
theorem dL_lead_15 : decode cL_lead 15 = .ok (.astore 5, 2) := by decide +kernel
theorem dL_lead_17 : decode cL_lead 17 = .ok (.iconst 1, 1) := by decide +kernel
theorem dL_lead_18 : decode cL_lead 18 = .ok (.ireturn, 1) := by decide +kernel
theorem dL_lead_19 : decode cL_lead 19 = .ok (.astore 5, 2) := by decide +kernel
theorem dL_lead_21 : decode cL_lead 21 = .ok (.iconst 2, 1) := by decide +kernel
theorem dL_lead_22 : decode cL_lead 22 = .ok (.ireturn, 1) := by decide +kernel
theorem dL_lead_23 : decode cL_lead 23 = .ok (.astore 5, 2) := by decide +kernel
theorem dL_lead_25 : decode cL_lead 25 = .ok (.iconst 3, 1) := by decide +kernel
theorem dL_lead_26 : decode cL_lead 26 = .ok (.ireturn, 1) := by decide +kernel
theorem dL_lead_27 : decode cL_lead 27 = .ok (.iconst 0, 1) := by decide +kernel
theorem dL_lead_28 : decode cL_lead 28 = .ok (.ireturn, 1) := by decide +kernel
set_option maxRecDepth 20000 in
theorem ggL_pull_X5_pull : GoodIn wsL_pull wsX5_pull := goodIn_ca (goodIn_ca (goodIn_r _ [7, 8, 9, 10, 11, 12, 13, 14, 15, 16, 17, 18, 19, 20, 21, 22, 23, 24, 25, 6, 26, 27, 28, 29, 30, 31, 32, 33, 34, 35, 36, 37, 38, 39, 40, 41, 42, 43, 44, 45, 46, 47, 48, 49, 50, 51, 52, 53, 54, 55, 56, 57, 58, 59, 60, 61, 62, 63, 64, 65, 66, 67, 68, 69, 70, 71, 72, 73, 74, 75, 76, 77, 78, 79, 80, 81, 82, 83, 84, 85, 86, 87, 88, 89, 90, 91, 92, 93, 94, 95, 96, 97, 98, 99, 100, 101, 102, 103, 104, 105, 106, 107, 108, 109, 110, 111, 112, 113, 114, 115, 116, 117, 118, 119, 120, 121, 122, 123, 124, 125, 126, 127, 128, 129, 130, 131, 132, 133, 134, 135, 136, 137] (by decide +kernel) (by decide +kernel)) (goodIn_sub (fun _ h => List.mem_cons_of_mem _ (List.mem_append_left _ (List.mem_append_right _ h))) (by decide +kernel))) (goodIn_sub (fun _ h => List.mem_cons_of_mem _ (List.mem_append_right _ h)) (by decide +kernel))
set_option maxRecDepth 20000 in
theorem gL_pull_X5_pull : GoodIn wsL_pull (wsV RL 33 RX5 yX5_pull wsX5_pull) := goodIn_app (goodIn_of _ (by decide +kernel)) ggL_pull_X5_pull
theorem dL_pull_0 : decode cL_pull 0 = .ok (.aload_n 2, 1) := by decide +kernel
theorem dL_pull_1 : decode cL_pull 1 = .ok (.iconst 0, 1) := by decide +kernel
theorem dL_pull_2 : decode cL_pull 2 = .ok (.aload_n 0, 1) := by decide +kernel
theorem dL_pull_3 : decode cL_pull 3 = .ok (.iload_n 1, 1) := by decide +kernel
theorem dL_pull_4 : decode cL_pull 4 = .ok (.invokevirtual 33, 3) := by decide +kernel
theorem dL_pull_7 : decode cL_pull 7 = .ok (.i2l, 1) := by decide +kernel
theorem dL_pull_8 : decode cL_pull 8 = .ok (.lastore, 1) := by decide +kernel
theorem dL_pull_9 : decode cL_pull 9 = .ok (.goto 9, 3) := by decide +kernel
theorem dL_pull_12 : decode cL_pull 12 = .ok (.astore_n 3, 1) := by decide +kernel
theorem dL_pull_13 : decode cL_pull 13 = .ok (.iconst 1, 1) := by decide +kernel
theorem dL_pull_14 : decode cL_pull 14 = .ok (.ireturn, 1) := by decide +kernel
theorem dL_pull_15 : decode cL_pull 15 = .ok (.astore_n 3, 1) := by decide +kernel
theorem dL_pull_16 : decode cL_pull 16 = .ok (.iconst 2, 1) := by decide +kernel
theorem dL_pull_17 : decode cL_pull 17 = .ok (.ireturn, 1) := by decide +kernel
theorem dL_pull_18 : decode cL_pull 18 = .ok (.iconst 0, 1) := by decide +kernel
theorem dL_pull_19 : decode cL_pull 19 = .ok (.ireturn, 1) := by decide +kernel
set_option maxRecDepth 20000 in
theorem ggL_glue_X5_glue : GoodIn wsL_glue wsX5_glue := goodIn_ca (goodIn_ca (goodIn_r _ [7, 8, 9, 10, 11, 12, 13, 14, 15, 16, 6, 17, 18, 19, 20, 21, 22, 23, 24, 25, 26, 27, 28, 29, 30, 31, 32, 33, 34, 35, 36, 37, 38] (by decide +kernel) (by decide +kernel)) (goodIn_sub (fun _ h => List.mem_cons_of_mem _ (List.mem_append_left _ (List.mem_append_right _ h))) (by decide +kernel))) (goodIn_sub (fun _ h => List.mem_cons_of_mem _ (List.mem_append_right _ h)) (by decide +kernel))
set_option maxRecDepth 20000 in
theorem gL_glue_X5_glue : GoodIn wsL_glue (wsV RL 37 RX5 yX5_glue wsX5_glue) := goodIn_app (goodIn_of _ (by decide +kernel)) ggL_glue_X5_glue
theorem dL_glue_0 : decode cL_glue 0 = .ok (.aload_n 2, 1) := by decide +kernel
theorem dL_glue_1 : decode cL_glue 1 = .ok (.iconst 0, 1) := by decide +kernel
theorem dL_glue_2 : decode cL_glue 2 = .ok (.aload_n 0, 1) := by decide +kernel
theorem dL_glue_3 : decode cL_glue 3 = .ok (.iload_n 1, 1) := by decide +kernel
theorem dL_glue_4 : decode cL_glue 4 = .ok (.invokevirtual 37, 3) := by decide +kernel
theorem dL_glue_7 : decode cL_glue 7 = .ok (.i2l, 1) := by decide +kernel
theorem dL_glue_8 : decode cL_glue 8 = .ok (.lastore, 1) := by decide +kernel
theorem dL_glue_9 : decode cL_glue 9 = .ok (.goto 9, 3) := by decide +kernel
theorem dL_glue_12 : decode cL_glue 12 = .ok (.astore_n 3, 1) := by decide +kernel
theorem dL_glue_13 : decode cL_glue 13 = .ok (.iconst 1, 1) := by decide +kernel
theorem dL_glue_14 : decode cL_glue 14 = .ok (.ireturn, 1) := by decide +kernel
theorem dL_glue_15 : decode cL_glue 15 = .ok (.astore_n 3, 1) := by decide +kernel
theorem dL_glue_16 : decode cL_glue 16 = .ok (.iconst 2, 1) := by decide +kernel
theorem dL_glue_17 : decode cL_glue 17 = .ok (.ireturn, 1) := by decide +kernel
theorem dL_glue_18 : decode cL_glue 18 = .ok (.iconst 0, 1) := by decide +kernel
