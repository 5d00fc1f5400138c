theorem dX6_pull_25 : decode cX6_pull 25 = .ok (.ifCond .eq 9, 3) := by decide +kernel
theorem dX6_pull_28 : decode cX6_pull 28 = .ok (.aload_n 0, 1) := by decide +kernel
theorem dX6_pull_29 : decode cX6_pull 29 = .ok (.iconst 2, 1) := by decide +kernel
theorem dX6_pull_30 : decode cX6_pull 30 = .ok (.invokevirtual 130, 3) := by decide +kernel
theorem dX6_pull_33 : decode cX6_pull 33 = .ok (.ireturn, 1) := by decide +kernel
theorem dX6_pull_34 : decode cX6_pull 34 = .ok (.aload_n 0, 1) := by decide +kernel
theorem dX6_pull_35 : decode cX6_pull 35 = .ok (.aload_n 0, 1) := by decide +kernel
theorem dX6_pull_36 : decode cX6_pull 36 = .ok (.getfield 91, 3) := by decide +kernel
theorem dX6_pull_39 : decode cX6_pull 39 = .ok (.iload_n 1, 1) := by decide +kernel
theorem dX6_pull_40 : decode cX6_pull 40 = .ok (.invokevirtual 143, 3) := by decide +kernel
theorem dX6_pull_43 : decode cX6_pull 43 = .ok (.istore_n 2, 1) := by decide +kernel
theorem dX6_pull_44 : decode cX6_pull 44 = .ok (.iload_n 2, 1) := by decide +kernel
theorem dX6_pull_45 : decode cX6_pull 45 = .ok (.ifCond .lt 32, 3) := by decide +kernel
theorem dX6_pull_48 : decode cX6_pull 48 = .ok (.aload_n 0, 1) := by decide +kernel
theorem dX6_pull_49 : decode cX6_pull 49 = .ok (.iload_n 2, 1) := by decide +kernel
theorem dX6_pull_50 : decode cX6_pull 50 = .ok (.putfield 91, 3) := by decide +kernel
theorem dX6_pull_53 : decode cX6_pull 53 = .ok (.aload_n 0, 1) := by decide +kernel
theorem dX6_pull_54 : decode cX6_pull 54 = .ok (.dup, 1) := by decide +kernel
theorem dX6_pull_55 : decode cX6_pull 55 = .ok (.getfield 146, 3) := by decide +kernel
theorem dX6_pull_58 : decode cX6_pull 58 = .ok (.iconst 1, 1) := by decide +kernel
theorem dX6_pull_59 : decode cX6_pull 59 = .ok (.iadd, 1) := by decide +kernel
theorem dX6_pull_60 : decode cX6_pull 60 = .ok (.putfield 146, 3) := by decide +kernel
theorem dX6_pull_63 : decode cX6_pull 63 = .ok (.aload_n 0, 1) := by decide +kernel
theorem dX6_pull_64 : decode cX6_pull 64 = .ok (.getfield 91, 3) := by decide +kernel
theorem dX6_pull_67 : decode cX6_pull 67 = .ok (.aload_n 0, 1) := by decide +kernel
theorem dX6_pull_68 : decode cX6_pull 68 = .ok (.getfield 41, 3) := by decide +kernel
theorem dX6_pull_71 : decode cX6_pull 71 = .ok (.iload_n 1, 1) := by decide +kernel
theorem dX6_pull_72 : decode cX6_pull 72 = .ok (.iaload, 1) := by decide +kernel
theorem dX6_pull_73 : decode cX6_pull 73 = .ok (.invokestatic 76, 3) := by decide +kernel
theorem dX6_pull_76 : decode cX6_pull 76 = .ok (.ireturn, 1) := by decide +kernel
theorem dX6_pull_77 : decode cX6_pull 77 = .ok (.aload_n 0, 1) := by decide +kernel
theorem dX6_pull_78 : decode cX6_pull 78 = .ok (.dup, 1) := by decide +kernel
theorem dX6_pull_79 : decode cX6_pull 79 = .ok (.getfield 149, 3) := by decide +kernel
theorem dX6_pull_82 : decode cX6_pull 82 = .ok (.iconst 1, 1) := by decide +kernel
theorem dX6_pull_83 : decode cX6_pull 83 = .ok (.iadd, 1) := by decide +kernel
theorem dX6_pull_84 : decode cX6_pull 84 = .ok (.putfield 149, 3) := by decide +kernel
theorem dX6_pull_87 : decode cX6_pull 87 = .ok (.iload_n 2, 1) := by decide +kernel
theorem dX6_pull_88 : decode cX6_pull 88 = .ok (.iconst (-1), 1) := by decide +kernel
theorem dX6_pull_89 : decode cX6_pull 89 = .ok (.if_icmp .eq 29, 3) := by decide +kernel
theorem dX6_pull_92 : decode cX6_pull 92 = .ok (.aload_n 0, 1) := by decide +kernel
theorem dX6_pull_93 : decode cX6_pull 93 = .ok (.getfield 47, 3) := by decide +kernel
theorem dX6_pull_96 : decode cX6_pull 96 = .ok (.iload_n 1, 1) := by decide +kernel
theorem dX6_pull_97 : decode cX6_pull 97 = .ok (.dup2, 1) := by decide +kernel
theorem dX6_pull_98 : decode cX6_pull 98 = .ok (.iaload, 1) := by decide +kernel
theorem dX6_pull_99 : decode cX6_pull 99 = .ok (.iconst 1, 1) := by decide +kernel
theorem dX6_pull_100 : decode cX6_pull 100 = .ok (.isub, 1) := by decide +kernel
theorem dX6_pull_101 : decode cX6_pull 101 = .ok (.iastore, 1) := by decide +kernel
theorem dX6_pull_102 : decode cX6_pull 102 = .ok (.aload_n 0, 1) := by decide +kernel
theorem dX6_pull_103 : decode cX6_pull 103 = .ok (.getfield 47, 3) := by decide +kernel
theorem dX6_pull_106 : decode cX6_pull 106 = .ok (.iload_n 1, 1) := by decide +kernel
theorem dX6_pull_107 : decode cX6_pull 107 = .ok (.iaload, 1) := by decide +kernel
theorem dX6_pull_108 : decode cX6_pull 108 = .ok (.ifCond .ne 10, 3) := by decide +kernel
theorem dX6_pull_111 : decode cX6_pull 111 = .ok (.aload_n 0, 1) := by decide +kernel
theorem dX6_pull_112 : decode cX6_pull 112 = .ok (.getfield 50, 3) := by decide +kernel
theorem dX6_pull_115 : decode cX6_pull 115 = .ok (.iload_n 1, 1) := by decide +kernel
theorem dX6_pull_116 : decode cX6_pull 116 = .ok (.iconst 2, 1) := by decide +kernel
theorem dX6_pull_117 : decode cX6_pull 117 = .ok (.iastore, 1) := by decide +kernel
theorem dX6_pull_118 : decode cX6_pull 118 = .ok (.iload_n 2, 1) := by decide +kernel
theorem dX6_pull_119 : decode cX6_pull 119 = .ok (.ireturn, 1) := by decide +kernel
set_option maxRecDepth 20000 in
theorem ggX6_glue_X6_isThread : GoodIn wsX6_glue wsX6_isThread := goodIn_r _ [7, 8, 9, 10, 6, 11, 16, 17, 18, 19, 20, 21, 22, 23, 24, 25, 26, 27, 28, 29, 30, 31, 32, 33, 34, 35, 36, 37, 38, 39, 40] (by decide +kernel) (by decide +kernel)
set_option maxRecDepth 20000 in
theorem gX6_glue_X6_isThread : GoodIn wsX6_glue (wsV RX6 140 RX6 yX6_isThread wsX6_isThread) := goodIn_app (goodIn_of _ (by decide +kernel)) ggX6_glue_X6_isThread
set_option maxRecDepth 20000 in
theorem ggX6_glue_X6_no : GoodIn wsX6_glue wsX6_no := goodIn_r _ [15, 1, 16, 17, 18, 19, 20, 21, 22, 23, 24, 25, 26, 27, 28, 29, 30, 31, 32, 33, 34, 35, 36, 37, 38, 39, 40] (by decide +kernel) (by decide +kernel)
set_option maxRecDepth 20000 in
theorem gX6_glue_X6_no : GoodIn wsX6_glue (wsV RX6 130 RX6 yX6_no wsX6_no) := goodIn_app (goodIn_of _ (by decide +kernel)) ggX6_glue_X6_no
theorem dX6_glue_0 : decode cX6_glue 0 = .ok (.aload_n 0, 1) := by decide +kernel
theorem dX6_glue_1 : decode cX6_glue 1 = .ok (.iconst 0, 1) := by decide +kernel
theorem dX6_glue_2 : decode cX6_glue 2 = .ok (.putfield 59, 3) := by decide +kernel
theorem dX6_glue_5 : decode cX6_glue 5 = .ok (.aload_n 0, 1) := by decide +kernel
theorem dX6_glue_6 : decode cX6_glue 6 = .ok (.iload_n 1, 1) := by decide +kernel
theorem dX6_glue_7 : decode cX6_glue 7 = .ok (.invokevirtual 140, 3) := by decide +kernel
theorem dX6_glue_10 : decode cX6_glue 10 = .ok (.ifCond .ne 9, 3) := by decide +kernel
theorem dX6_glue_13 : decode cX6_glue 13 = .ok (.aload_n 0, 1) := by decide +kernel
theorem dX6_glue_14 : decode cX6_glue 14 = .ok (.iconst 1, 1) := by decide +kernel
theorem dX6_glue_15 : decode cX6_glue 15 = .ok (.invokevirtual 130, 3) := by decide +kernel
theorem dX6_glue_18 : decode cX6_glue 18 = .ok (.ireturn, 1) := by decide +kernel
theorem dX6_glue_19 : decode cX6_glue 19 = .ok (.aload_n 0, 1) := by decide +kernel
theorem dX6_glue_20 : decode cX6_glue 20 = .ok (.getfield 50, 3) := by decide +kernel
theorem dX6_glue_23 : decode cX6_glue 23 = .ok (.iload_n 1, 1) := by decide +kernel
theorem dX6_glue_24 : decode cX6_glue 24 = .ok (.iaload, 1) := by decide +kernel
theorem dX6_glue_25 : decode cX6_glue 25 = .ok (.iconst 2, 1) := by decide +kernel
theorem dX6_glue_26 : decode cX6_glue 26 = .ok (.if_icmp .ne 9, 3) := by decide +kernel
theorem dX6_glue_29 : decode cX6_glue 29 = .ok (.aload_n 0, 1) := by decide +kernel
theorem dX6_glue_30 : decode cX6_glue 30 = .ok (.iconst 2, 1) := by decide +kernel
theorem dX6_glue_31 : decode cX6_glue 31 = .ok (.invokevirtual 130, 3) := by decide +kernel
theorem dX6_glue_34 : decode cX6_glue 34 = .ok (.ireturn, 1) := by decide +kernel
theorem dX6_glue_35 : decode cX6_glue 35 = .ok (.aload_n 0, 1) := by decide +kernel
theorem dX6_glue_36 : decode cX6_glue 36 = .ok (.getfield 50, 3) := by decide +kernel
theorem dX6_glue_39 : decode cX6_glue 39 = .ok (.iload_n 1, 1) := by decide +kernel
theorem dX6_glue_40 : decode cX6_glue 40 = .ok (.iconst 1, 1) := by decide +kernel
theorem dX6_glue_41 : decode cX6_glue 41 = .ok (.aload_n 0, 1) := by decide +kernel
theorem dX6_glue_42 : decode cX6_glue 42 = .ok (.getfield 50, 3) := by decide +kernel
theorem dX6_glue_45 : decode cX6_glue 45 = .ok (.iload_n 1, 1) := by decide +kernel
theorem dX6_glue_46 : decode cX6_glue 46 = .ok (.iaload, 1) := by decide +kernel
theorem dX6_glue_47 : decode cX6_glue 47 = .ok (.isub, 1) := by decide +kernel
theorem dX6_glue_48 : decode cX6_glue 48 = .ok (.iastore, 1) := by decide +kernel
theorem dX6_glue_49 : decode cX6_glue 49 = .ok (.aload_n 0, 1) := by decide +kernel
theorem dX6_glue_50 : decode cX6_glue 50 = .ok (.getfield 50, 3) := by decide +kernel
theorem dX6_glue_53 : decode cX6_glue 53 = .ok (.iload_n 1, 1) := by decide +kernel
theorem dX6_glue_54 : decode cX6_glue 54 = .ok (.iaload, 1) := by decide +kernel
theorem dX6_glue_55 : decode cX6_glue 55 = .ok (.ireturn, 1) := by decide +kernel
set_option maxRecDepth 20000 in
theorem ggX6_cross_X6_isThread : GoodIn wsX6_cross wsX6_isThread := goodIn_r _ [6, 7, 8, 9, 5, 10, 34, 35, 36, 37, 38, 39, 40, 41, 42, 43, 44, 45, 46, 47, 48, 49, 50, 51, 52, 53, 54, 55, 56, 57, 58] (by decide +kernel) (by decide +kernel)
set_option maxRecDepth 20000 in
theorem gX6_cross_X6_isThread : GoodIn wsX6_cross (wsV RX6 140 RX6 yX6_isThread wsX6_isThread) := goodIn_app (goodIn_of _ (by decide +kernel)) ggX6_cross_X6_isThread
set_option maxRecDepth 20000 in
theorem ggX6_cross_X6_no : GoodIn wsX6_cross wsX6_no := goodIn_r _ [14, 1, 34, 35, 36, 37, 38, 39, 40, 41, 42, 43, 44, 45, 46, 47, 48, 49, 50, 51, 52, 53, 54, 55, 56, 57, 58] (by decide +kernel) (by decide +kernel)
set_option maxRecDepth 20000 in
theorem gX6_cross_X6_no : GoodIn wsX6_cross (wsV RX6 130 RX6 yX6_no wsX6_no) := goodIn_app (goodIn_of _ (by decide +kernel)) ggX6_cross_X6_no
set_option maxRecDepth 20000 in
theorem ggX6_cross_X6_crosses : GoodIn wsX6_cross wsX6_crosses := goodIn_r _ [18, 19, 20, 21, 22, 23, 24, 25, 26, 27, 28, 29, 30, 31, 5, 32, 33, 34, 35, 36, 37, 38, 39, 40, 41, 42, 43, 44, 45, 46, 47, 48, 49, 50, 51, 52, 53, 54, 55, 56, 57, 58] (by decide +kernel) (by decide +kernel)
set_option maxRecDepth 20000 in
theorem gX6_cross_X6_crosses : GoodIn wsX6_cross (wsV RX6 116 RX6 yX6_crosses wsX6_crosses) := goodIn_app (goodIn_of _ (by decide +kernel)) ggX6_cross_X6_crosses
theorem dX6_cross_0 : decode cX6_cross 0 = .ok (.aload_n 0, 1) := by decide +kernel
theorem dX6_cross_1 : decode cX6_cross 1 = .ok (.iconst 0, 1) := by decide +kernel
theorem dX6_cross_2 : decode cX6_cross 2 = .ok (.putfield 59, 3) := by decide +kernel
theorem dX6_cross_5 : decode cX6_cross 5 = .ok (.aload_n 0, 1) := by decide +kernel
theorem dX6_cross_6 : decode cX6_cross 6 = .ok (.iload_n 1, 1) := by decide +kernel
theorem dX6_cross_7 : decode cX6_cross 7 = .ok (.invokevirtual 140, 3) := by decide +kernel
theorem dX6_cross_10 : decode cX6_cross 10 = .ok (.ifCond .eq 11, 3) := by decide +kernel
theorem dX6_cross_13 : decode cX6_cross 13 = .ok (.aload_n 0, 1) := by decide +kernel
theorem dX6_cross_14 : decode cX6_cross 14 = .ok (.iload_n 2, 1) := by decide +kernel
theorem dX6_cross_15 : decode cX6_cross 15 = .ok (.invokevirtual 140, 3) := by decide +kernel
theorem dX6_cross_18 : decode cX6_cross 18 = .ok (.ifCond .ne 17, 3) := by decide +kernel
theorem dX6_cross_21 : decode cX6_cross 21 = .ok (.aload_n 0, 1) := by decide +kernel
theorem dX6_cross_22 : decode cX6_cross 22 = .ok (.iconst 1, 1) := by decide +kernel
theorem dX6_cross_23 : decode cX6_cross 23 = .ok (.invokevirtual 130, 3) := by decide +kernel
theorem dX6_cross_26 : decode cX6_cross 26 = .ok (.ifCond .eq 7, 3) := by decide +kernel
theorem dX6_cross_29 : decode cX6_cross 29 = .ok (.iconst 1, 1) := by decide +kernel
theorem dX6_cross_30 : decode cX6_cross 30 = .ok (.goto 4, 3) := by decide +kernel
theorem dX6_cross_33 : decode cX6_cross 33 = .ok (.iconst 0, 1) := by decide +kernel
theorem dX6_cross_34 : decode cX6_cross 34 = .ok (.ireturn, 1) := by decide +kernel
theorem dX6_cross_35 : decode cX6_cross 35 = .ok (.aload_n 0, 1) := by decide +kernel
theorem dX6_cross_36 : decode cX6_cross 36 = .ok (.iload_n 1, 1) := by decide +kernel
theorem dX6_cross_37 : decode cX6_cross 37 = .ok (.iload_n 2, 1) := by decide +kernel
theorem dX6_cross_38 : decode cX6_cross 38 = .ok (.invokevirtual 116, 3) := by decide +kernel
theorem dX6_cross_41 : decode cX6_cross 41 = .ok (.ireturn, 1) := by decide +kernel
set_option maxRecDepth 20000 in
theorem ggX6_mastTold_X6_lean : GoodIn wsX6_mastTold wsX6_lean := goodIn_r _ [9, 10, 11, 8, 12] (by decide +kernel) (by decide +kernel)
set_option maxRecDepth 20000 in
theorem gX6_mastTold_X6_lean : GoodIn wsX6_mastTold (va_wsS RX6 76 yX6_lean wsX6_lean) := goodIn_app (goodIn_of _ (by decide +kernel)) ggX6_mastTold_X6_lean
set_option maxRecDepth 20000 in
theorem ggX6_mastTold_X6_stands : GoodIn wsX6_mastTold wsX6_stands := goodIn_r _ [16, 3, 6, 7, 8, 9, 10, 11, 12, 32, 33, 34, 35, 36, 37, 38, 39, 40, 41, 42, 43, 44, 45, 46, 47, 48, 49, 50, 51, 52, 53, 54, 55, 56] (by decide +kernel) (by decide +kernel)
set_option maxRecDepth 20000 in
theorem gX6_mastTold_X6_stands : GoodIn wsX6_mastTold (wsV RX6 80 RX6 yX6_stands wsX6_stands) := goodIn_app (goodIn_of _ (by decide +kernel)) ggX6_mastTold_X6_stands
set_option maxRecDepth 20000 in
theorem ggX6_mastTold_X6_reach : GoodIn wsX6_mastTold wsX6_reach := goodIn_r _ [20, 3, 6, 7, 8, 9, 10, 11, 12, 32, 33, 34, 35, 36, 37, 38, 39, 40, 41, 42, 43, 44, 45, 46, 47, 48, 49, 50, 51, 52, 53, 54, 55, 56] (by decide +kernel) (by decide +kernel)
set_option maxRecDepth 20000 in
theorem gX6_mastTold_X6_reach : GoodIn wsX6_mastTold (wsV RX6 88 RX6 yX6_reach wsX6_reach) := goodIn_app (goodIn_of _ (by decide +kernel)) ggX6_mastTold_X6_reach
set_option maxRecDepth 20000 in
theorem ggX6_mastTold_X6_isHeld : GoodIn wsX6_mastTold wsX6_isHeld := goodIn_r _ [24, 25, 26, 27, 32, 33, 34, 35, 36, 37, 38, 39, 40, 41, 42, 43, 44, 45, 46, 47, 48, 49, 50, 51, 52, 53, 54, 55, 56] (by decide +kernel) (by decide +kernel)
set_option maxRecDepth 20000 in
theorem gX6_mastTold_X6_isHeld : GoodIn wsX6_mastTold (wsV RX6 112 RX6 yX6_isHeld wsX6_isHeld) := goodIn_app (goodIn_of _ (by decide +kernel)) ggX6_mastTold_X6_isHeld
set_option maxRecDepth 20000 in
theorem ggX6_mastTold_X6_loose : GoodIn wsX6_mastTold wsX6_loose := goodIn_r _ [31, 25, 26, 27, 32, 33, 34, 35, 36, 37, 38, 39, 40, 41, 42, 43, 44, 45, 46, 47, 48, 49, 50, 51, 52, 53, 54, 55, 56] (by decide +kernel) (by decide +kernel)
set_option maxRecDepth 20000 in
theorem gX6_mastTold_X6_loose : GoodIn wsX6_mastTold (wsV RX6 152 RX6 yX6_loose wsX6_loose) := goodIn_app (goodIn_of _ (by decide +kernel)) ggX6_mastTold_X6_loose
theorem dX6_mastTold_0 : decode cX6_mastTold 0 = .ok (.bipush 8, 2) := by decide +kernel
theorem dX6_mastTold_2 : decode cX6_mastTold 2 = .ok (.newarray .int, 2) := by decide +kernel
theorem dX6_mastTold_4 : decode cX6_mastTold 4 = .ok (.dup, 1) := by decide +kernel
theorem dX6_mastTold_5 : decode cX6_mastTold 5 = .ok (.iconst 0, 1) := by decide +kernel
theorem dX6_mastTold_6 : decode cX6_mastTold 6 = .ok (.aload_n 0, 1) := by decide +kernel
theorem dX6_mastTold_7 : decode cX6_mastTold 7 = .ok (.getfield 28, 3) := by decide +kernel
theorem dX6_mastTold_10 : decode cX6_mastTold 10 = .ok (.iload_n 1, 1) := by decide +kernel
theorem dX6_mastTold_11 : decode cX6_mastTold 11 = .ok (.iaload, 1) := by decide +kernel
theorem dX6_mastTold_12 : decode cX6_mastTold 12 = .ok (.iastore, 1) := by decide +kernel
theorem dX6_mastTold_13 : decode cX6_mastTold 13 = .ok (.dup, 1) := by decide +kernel
theorem dX6_mastTold_14 : decode cX6_mastTold 14 = .ok (.iconst 1, 1) := by decide +kernel
theorem dX6_mastTold_15 : decode cX6_mastTold 15 = .ok (.aload_n 0, 1) := by decide +kernel
theorem dX6_mastTold_16 : decode cX6_mastTold 16 = .ok (.getfield 32, 3) := by decide +kernel
theorem dX6_mastTold_19 : decode cX6_mastTold 19 = .ok (.iload_n 1, 1) := by decide +kernel
theorem dX6_mastTold_20 : decode cX6_mastTold 20 = .ok (.iaload, 1) := by decide +kernel
theorem dX6_mastTold_21 : decode cX6_mastTold 21 = .ok (.iastore, 1) := by decide +kernel
theorem dX6_mastTold_22 : decode cX6_mastTold 22 = .ok (.dup, 1) := by decide +kernel
theorem dX6_mastTold_23 : decode cX6_mastTold 23 = .ok (.iconst 2, 1) := by decide +kernel
theorem dX6_mastTold_24 : decode cX6_mastTold 24 = .ok (.aload_n 0, 1) := by decide +kernel
theorem dX6_mastTold_25 : decode cX6_mastTold 25 = .ok (.getfield 91, 3) := by decide +kernel
theorem dX6_mastTold_28 : decode cX6_mastTold 28 = .ok (.iload_n 1, 1) := by decide +kernel
theorem dX6_mastTold_29 : decode cX6_mastTold 29 = .ok (.invokestatic 76, 3) := by decide +kernel
theorem dX6_mastTold_32 : decode cX6_mastTold 32 = .ok (.iastore, 1) := by decide +kernel
theorem dX6_mastTold_33 : decode cX6_mastTold 33 = .ok (.dup, 1) := by decide +kernel
theorem dX6_mastTold_34 : decode cX6_mastTold 34 = .ok (.iconst 3, 1) := by decide +kernel
theorem dX6_mastTold_35 : decode cX6_mastTold 35 = .ok (.aload_n 0, 1) := by decide +kernel
theorem dX6_mastTold_36 : decode cX6_mastTold 36 = .ok (.aload_n 0, 1) := by decide +kernel
theorem dX6_mastTold_37 : decode cX6_mastTold 37 = .ok (.getfield 91, 3) := by decide +kernel
theorem dX6_mastTold_40 : decode cX6_mastTold 40 = .ok (.iload_n 1, 1) := by decide +kernel
theorem dX6_mastTold_41 : decode cX6_mastTold 41 = .ok (.invokevirtual 80, 3) := by decide +kernel
theorem dX6_mastTold_44 : decode cX6_mastTold 44 = .ok (.iastore, 1) := by decide +kernel
theorem dX6_mastTold_45 : decode cX6_mastTold 45 = .ok (.dup, 1) := by decide +kernel
theorem dX6_mastTold_46 : decode cX6_mastTold 46 = .ok (.iconst 4, 1) := by decide +kernel
theorem dX6_mastTold_47 : decode cX6_mastTold 47 = .ok (.aload_n 0, 1) := by decide +kernel
theorem dX6_mastTold_48 : decode cX6_mastTold 48 = .ok (.aload_n 0, 1) := by decide +kernel
theorem dX6_mastTold_49 : decode cX6_mastTold 49 = .ok (.getfield 91, 3) := by decide +kernel
theorem dX6_mastTold_52 : decode cX6_mastTold 52 = .ok (.iload_n 1, 1) := by decide +kernel
theorem dX6_mastTold_53 : decode cX6_mastTold 53 = .ok (.invokevirtual 88, 3) := by decide +kernel
theorem dX6_mastTold_56 : decode cX6_mastTold 56 = .ok (.iastore, 1) := by decide +kernel
theorem dX6_mastTold_57 : decode cX6_mastTold 57 = .ok (.dup, 1) := by decide +kernel
theorem dX6_mastTold_58 : decode cX6_mastTold 58 = .ok (.iconst 5, 1) := by decide +kernel
theorem dX6_mastTold_59 : decode cX6_mastTold 59 = .ok (.aload_n 0, 1) := by decide +kernel
theorem dX6_mastTold_60 : decode cX6_mastTold 60 = .ok (.getfield 35, 3) := by decide +kernel
theorem dX6_mastTold_63 : decode cX6_mastTold 63 = .ok (.iload_n 1, 1) := by decide +kernel
theorem dX6_mastTold_64 : decode cX6_mastTold 64 = .ok (.iaload, 1) := by decide +kernel
theorem dX6_mastTold_65 : decode cX6_mastTold 65 = .ok (.iastore, 1) := by decide +kernel
theorem dX6_mastTold_66 : decode cX6_mastTold 66 = .ok (.dup, 1) := by decide +kernel
theorem dX6_mastTold_67 : decode cX6_mastTold 67 = .ok (.bipush 6, 2) := by decide +kernel
theorem dX6_mastTold_69 : decode cX6_mastTold 69 = .ok (.aload_n 0, 1) := by decide +kernel
theorem dX6_mastTold_70 : decode cX6_mastTold 70 = .ok (.iload_n 1, 1) := by decide +kernel
theorem dX6_mastTold_71 : decode cX6_mastTold 71 = .ok (.invokevirtual 112, 3) := by decide +kernel
theorem dX6_mastTold_74 : decode cX6_mastTold 74 = .ok (.ifCond .eq 7, 3) := by decide +kernel
theorem dX6_mastTold_77 : decode cX6_mastTold 77 = .ok (.iconst 1, 1) := by decide +kernel
theorem dX6_mastTold_78 : decode cX6_mastTold 78 = .ok (.goto 4, 3) := by decide +kernel
theorem dX6_mastTold_81 : decode cX6_mastTold 81 = .ok (.iconst 0, 1) := by decide +kernel
theorem dX6_mastTold_82 : decode cX6_mastTold 82 = .ok (.iastore, 1) := by decide +kernel
theorem dX6_mastTold_83 : decode cX6_mastTold 83 = .ok (.dup, 1) := by decide +kernel
theorem dX6_mastTold_84 : decode cX6_mastTold 84 = .ok (.bipush 7, 2) := by decide +kernel
theorem dX6_mastTold_86 : decode cX6_mastTold 86 = .ok (.aload_n 0, 1) := by decide +kernel
theorem dX6_mastTold_87 : decode cX6_mastTold 87 = .ok (.iload_n 1, 1) := by decide +kernel
theorem dX6_mastTold_88 : decode cX6_mastTold 88 = .ok (.invokevirtual 152, 3) := by decide +kernel
theorem dX6_mastTold_91 : decode cX6_mastTold 91 = .ok (.iastore, 1) := by decide +kernel
theorem dX6_mastTold_92 : decode cX6_mastTold 92 = .ok (.astore_n 3, 1) := by decide +kernel
theorem dX6_mastTold_93 : decode cX6_mastTold 93 = .ok (.aload_n 3, 1) := by decide +kernel
theorem dX6_mastTold_94 : decode cX6_mastTold 94 = .ok (.iload_n 2, 1) := by decide +kernel
theorem dX6_mastTold_95 : decode cX6_mastTold 95 = .ok (.iaload, 1) := by decide +kernel
theorem dX6_mastTold_96 : decode cX6_mastTold 96 = .ok (.ireturn, 1) := by decide +kernel
set_option maxRecDepth 20000 in
theorem ggX6_mast_X6_isMast : GoodIn wsX6_mast wsX6_isMast := goodIn_r _ [6, 7, 8, 9, 5, 10, 49, 50, 51, 52, 53, 54, 55, 56, 57, 58, 59, 60, 61, 62, 63, 64, 65, 66, 67, 68, 69, 70, 71, 72, 73] (by decide +kernel) (by decide +kernel)
set_option maxRecDepth 20000 in
theorem gX6_mast_X6_isMast : GoodIn wsX6_mast (wsV RX6 133 RX6 yX6_isMast wsX6_isMast) := goodIn_app (goodIn_of _ (by decide +kernel)) ggX6_mast_X6_isMast
set_option maxRecDepth 20000 in
theorem ggX6_mast_X6_isBetween : GoodIn wsX6_mast wsX6_isBetween := goodIn_r _ [10] (by decide +kernel) (by decide +kernel)
set_option maxRecDepth 20000 in
theorem gX6_mast_X6_isBetween : GoodIn wsX6_mast (va_wsS RX6 65 yX6_isBetween wsX6_isBetween) := goodIn_app (goodIn_of _ (by decide +kernel)) ggX6_mast_X6_isBetween
set_option maxRecDepth 20000 in
theorem ggX6_mast_X6_mastTold : GoodIn wsX6_mast wsX6_mastTold := goodIn_r _ [14, 15, 16, 17, 18, 19, 20, 21, 5, 22, 23, 24, 25, 26, 27, 28, 29, 30, 31, 32, 33, 34, 35, 36, 37, 38, 39, 40, 41, 42, 43, 44, 49, 50, 51, 52, 53, 54, 55, 56, 57, 58, 59, 60, 61, 62, 63, 64, 65, 66, 67, 68, 69, 70, 71, 72, 73] (by decide +kernel) (by decide +kernel)
set_option maxRecDepth 20000 in
theorem gX6_mast_X6_mastTold : GoodIn wsX6_mast (wsV RX6 155 RX6 yX6_mastTold wsX6_mastTold) := goodIn_app (goodIn_of _ (by decide +kernel)) ggX6_mast_X6_mastTold
set_option maxRecDepth 20000 in
theorem ggX6_mast_X6_no : GoodIn wsX6_mast wsX6_no := goodIn_r _ [48, 1, 49, 50, 51, 52, 53, 54, 55, 56, 57, 58, 59, 60, 61, 62, 63, 64, 65, 66, 67, 68, 69, 70, 71, 72, 73] (by decide +kernel) (by decide +kernel)
set_option maxRecDepth 20000 in
theorem gX6_mast_X6_no : GoodIn wsX6_mast (wsV RX6 130 RX6 yX6_no wsX6_no) := goodIn_app (goodIn_of _ (by decide +kernel)) ggX6_mast_X6_no
theorem dX6_mast_0 : decode cX6_mast 0 = .ok (.aload_n 0, 1) := by decide +kernel
theorem dX6_mast_1 : decode cX6_mast 1 = .ok (.iconst 0, 1) := by decide +kernel
theorem dX6_mast_2 : decode cX6_mast 2 = .ok (.putfield 59, 3) := by decide +kernel
theorem dX6_mast_5 : decode cX6_mast 5 = .ok (.aload_n 0, 1) := by decide +kernel
theorem dX6_mast_6 : decode cX6_mast 6 = .ok (.iload_n 1, 1) := by decide +kernel
theorem dX6_mast_7 : decode cX6_mast 7 = .ok (.invokevirtual 133, 3) := by decide +kernel
theorem dX6_mast_10 : decode cX6_mast 10 = .ok (.ifCond .eq 22, 3) := by decide +kernel
theorem dX6_mast_13 : decode cX6_mast 13 = .ok (.iload_n 2, 1) := by decide +kernel
theorem dX6_mast_14 : decode cX6_mast 14 = .ok (.iconst 0, 1) := by decide +kernel
theorem dX6_mast_15 : decode cX6_mast 15 = .ok (.bipush 7, 2) := by decide +kernel
theorem dX6_mast_17 : decode cX6_mast 17 = .ok (.invokestatic 65, 3) := by decide +kernel
theorem dX6_mast_20 : decode cX6_mast 20 = .ok (.ifCond .eq 12, 3) := by decide +kernel
theorem dX6_mast_23 : decode cX6_mast 23 = .ok (.aload_n 0, 1) := by decide +kernel
theorem dX6_mast_24 : decode cX6_mast 24 = .ok (.iload_n 1, 1) := by decide +kernel
theorem dX6_mast_25 : decode cX6_mast 25 = .ok (.iload_n 2, 1) := by decide +kernel
theorem dX6_mast_26 : decode cX6_mast 26 = .ok (.invokevirtual 155, 3) := by decide +kernel
theorem dX6_mast_29 : decode cX6_mast 29 = .ok (.goto 8, 3) := by decide +kernel
theorem dX6_mast_32 : decode cX6_mast 32 = .ok (.aload_n 0, 1) := by decide +kernel
theorem dX6_mast_33 : decode cX6_mast 33 = .ok (.iconst 1, 1) := by decide +kernel
theorem dX6_mast_34 : decode cX6_mast 34 = .ok (.invokevirtual 130, 3) := by decide +kernel
theorem dX6_mast_37 : decode cX6_mast 37 = .ok (.ireturn, 1) := by decide +kernel
set_option maxRecDepth 20000 in
theorem ggX6_threadTold_X6_crosses : GoodIn wsX6_threadTold wsX6_crosses := goodIn_r _ [11, 6, 3, 4, 12, 13, 14, 15, 16, 17, 18, 19, 20, 21, 10, 22, 23, 24, 25, 26, 27, 28, 29, 30, 31, 32, 33, 34, 35, 36, 37, 38, 39, 40, 41, 42, 43, 44, 45, 46, 47, 48] (by decide +kernel) (by decide +kernel)
set_option maxRecDepth 20000 in
theorem gX6_threadTold_X6_crosses : GoodIn wsX6_threadTold (wsV RX6 116 RX6 yX6_crosses wsX6_crosses) := goodIn_app (goodIn_of _ (by decide +kernel)) ggX6_threadTold_X6_crosses
theorem dX6_threadTold_0 : decode cX6_threadTold 0 = .ok (.iconst 0, 1) := by decide +kernel
theorem dX6_threadTold_1 : decode cX6_threadTold 1 = .ok (.istore_n 3, 1) := by decide +kernel
theorem dX6_threadTold_2 : decode cX6_threadTold 2 = .ok (.iconst 0, 1) := by decide +kernel
theorem dX6_threadTold_3 : decode cX6_threadTold 3 = .ok (.istore 4, 2) := by decide +kernel
theorem dX6_threadTold_5 : decode cX6_threadTold 5 = .ok (.iload 4, 2) := by decide +kernel
theorem dX6_threadTold_7 : decode cX6_threadTold 7 = .ok (.aload_n 0, 1) := by decide +kernel
theorem dX6_threadTold_8 : decode cX6_threadTold 8 = .ok (.getfield 69, 3) := by decide +kernel
theorem dX6_threadTold_11 : decode cX6_threadTold 11 = .ok (.if_icmp .ge 27, 3) := by decide +kernel
theorem dX6_threadTold_14 : decode cX6_threadTold 14 = .ok (.iload_n 3, 1) := by decide +kernel
theorem dX6_threadTold_15 : decode cX6_threadTold 15 = .ok (.aload_n 0, 1) := by decide +kernel
theorem dX6_threadTold_16 : decode cX6_threadTold 16 = .ok (.iload_n 1, 1) := by decide +kernel
theorem dX6_threadTold_17 : decode cX6_threadTold 17 = .ok (.iload 4, 2) := by decide +kernel
theorem dX6_threadTold_19 : decode cX6_threadTold 19 = .ok (.invokevirtual 116, 3) := by decide +kernel
theorem dX6_threadTold_22 : decode cX6_threadTold 22 = .ok (.ifCond .eq 7, 3) := by decide +kernel
theorem dX6_threadTold_25 : decode cX6_threadTold 25 = .ok (.iconst 1, 1) := by decide +kernel
theorem dX6_threadTold_26 : decode cX6_threadTold 26 = .ok (.goto 4, 3) := by decide +kernel
theorem dX6_threadTold_29 : decode cX6_threadTold 29 = .ok (.iconst 0, 1) := by decide +kernel
theorem dX6_threadTold_30 : decode cX6_threadTold 30 = .ok (.iadd, 1) := by decide +kernel
theorem dX6_threadTold_31 : decode cX6_threadTold 31 = .ok (.istore_n 3, 1) := by decide +kernel
theorem dX6_threadTold_32 : decode cX6_threadTold 32 = .ok (.iinc 4 1, 3) := by decide +kernel
theorem dX6_threadTold_35 : decode cX6_threadTold 35 = .ok (.goto (-30), 3) := by decide +kernel
theorem dX6_threadTold_38 : decode cX6_threadTold 38 = .ok (.iconst 5, 1) := by decide +kernel
theorem dX6_threadTold_39 : decode cX6_threadTold 39 = .ok (.newarray .int, 2) := by decide +kernel
theorem dX6_threadTold_41 : decode cX6_threadTold 41 = .ok (.dup, 1) := by decide +kernel
theorem dX6_threadTold_42 : decode cX6_threadTold 42 = .ok (.iconst 0, 1) := by decide +kernel
theorem dX6_threadTold_43 : decode cX6_threadTold 43 = .ok (.aload_n 0, 1) := by decide +kernel
theorem dX6_threadTold_44 : decode cX6_threadTold 44 = .ok (.getfield 41, 3) := by decide +kernel
theorem dX6_threadTold_47 : decode cX6_threadTold 47 = .ok (.iload_n 1, 1) := by decide +kernel
theorem dX6_threadTold_48 : decode cX6_threadTold 48 = .ok (.iaload, 1) := by decide +kernel
theorem dX6_threadTold_49 : decode cX6_threadTold 49 = .ok (.iastore, 1) := by decide +kernel
theorem dX6_threadTold_50 : decode cX6_threadTold 50 = .ok (.dup, 1) := by decide +kernel
theorem dX6_threadTold_51 : decode cX6_threadTold 51 = .ok (.iconst 1, 1) := by decide +kernel
theorem dX6_threadTold_52 : decode cX6_threadTold 52 = .ok (.aload_n 0, 1) := by decide +kernel
theorem dX6_threadTold_53 : decode cX6_threadTold 53 = .ok (.getfield 44, 3) := by decide +kernel
theorem dX6_threadTold_56 : decode cX6_threadTold 56 = .ok (.iload_n 1, 1) := by decide +kernel
theorem dX6_threadTold_57 : decode cX6_threadTold 57 = .ok (.iaload, 1) := by decide +kernel
theorem dX6_threadTold_58 : decode cX6_threadTold 58 = .ok (.iastore, 1) := by decide +kernel
theorem dX6_threadTold_59 : decode cX6_threadTold 59 = .ok (.dup, 1) := by decide +kernel
theorem dX6_threadTold_60 : decode cX6_threadTold 60 = .ok (.iconst 2, 1) := by decide +kernel
theorem dX6_threadTold_61 : decode cX6_threadTold 61 = .ok (.aload_n 0, 1) := by decide +kernel
theorem dX6_threadTold_62 : decode cX6_threadTold 62 = .ok (.getfield 47, 3) := by decide +kernel
theorem dX6_threadTold_65 : decode cX6_threadTold 65 = .ok (.iload_n 1, 1) := by decide +kernel
theorem dX6_threadTold_66 : decode cX6_threadTold 66 = .ok (.iaload, 1) := by decide +kernel
theorem dX6_threadTold_67 : decode cX6_threadTold 67 = .ok (.iastore, 1) := by decide +kernel
theorem dX6_threadTold_68 : decode cX6_threadTold 68 = .ok (.dup, 1) := by decide +kernel
theorem dX6_threadTold_69 : decode cX6_threadTold 69 = .ok (.iconst 3, 1) := by decide +kernel
theorem dX6_threadTold_70 : decode cX6_threadTold 70 = .ok (.aload_n 0, 1) := by decide +kernel
theorem dX6_threadTold_71 : decode cX6_threadTold 71 = .ok (.getfield 50, 3) := by decide +kernel
theorem dX6_threadTold_74 : decode cX6_threadTold 74 = .ok (.iload_n 1, 1) := by decide +kernel
theorem dX6_threadTold_75 : decode cX6_threadTold 75 = .ok (.iaload, 1) := by decide +kernel
theorem dX6_threadTold_76 : decode cX6_threadTold 76 = .ok (.iastore, 1) := by decide +kernel
theorem dX6_threadTold_77 : decode cX6_threadTold 77 = .ok (.dup, 1) := by decide +kernel
theorem dX6_threadTold_78 : decode cX6_threadTold 78 = .ok (.iconst 4, 1) := by decide +kernel
theorem dX6_threadTold_79 : decode cX6_threadTold 79 = .ok (.iload_n 3, 1) := by decide +kernel
theorem dX6_threadTold_80 : decode cX6_threadTold 80 = .ok (.iastore, 1) := by decide +kernel
theorem dX6_threadTold_81 : decode cX6_threadTold 81 = .ok (.astore 4, 2) := by decide +kernel
theorem dX6_threadTold_83 : decode cX6_threadTold 83 = .ok (.aload 4, 2) := by decide +kernel
theorem dX6_threadTold_85 : decode cX6_threadTold 85 = .ok (.iload_n 2, 1) := by decide +kernel
theorem dX6_threadTold_86 : decode cX6_threadTold 86 = .ok (.iaload, 1) := by decide +kernel
theorem dX6_threadTold_87 : decode cX6_threadTold 87 = .ok (.ireturn, 1) := by decide +kernel
set_option maxRecDepth 20000 in
theorem ggX6_thread_X6_isThread : GoodIn wsX6_thread wsX6_isThread := goodIn_r _ [6, 7, 8, 9, 5, 10, 40, 41, 42, 43, 44, 45, 46, 47, 48, 49, 50, 51, 52, 53, 54, 55, 56, 57, 58, 59, 60, 61, 62, 63, 64] (by decide +kernel) (by decide +kernel)
set_option maxRecDepth 20000 in
theorem gX6_thread_X6_isThread : GoodIn wsX6_thread (wsV RX6 140 RX6 yX6_isThread wsX6_isThread) := goodIn_app (goodIn_of _ (by decide +kernel)) ggX6_thread_X6_isThread
set_option maxRecDepth 20000 in
theorem ggX6_thread_X6_isBetween : GoodIn wsX6_thread wsX6_isBetween := goodIn_r _ [10] (by decide +kernel) (by decide +kernel)
set_option maxRecDepth 20000 in
theorem gX6_thread_X6_isBetween : GoodIn wsX6_thread (va_wsS RX6 65 yX6_isBetween wsX6_isBetween) := goodIn_app (goodIn_of _ (by decide +kernel)) ggX6_thread_X6_isBetween
set_option maxRecDepth 20000 in
theorem ggX6_thread_X6_threadTold : GoodIn wsX6_thread wsX6_threadTold := goodIn_r _ [14, 7, 15, 16, 17, 18, 19, 20, 21, 22, 5, 23, 24, 25, 26, 27, 28, 29, 30, 31, 32, 33, 34, 35, 40, 41, 42, 43, 44, 45, 46, 47, 48, 49, 50, 51, 52, 53, 54, 55, 56, 57, 58, 59, 60, 61, 62, 63, 64] (by decide +kernel) (by decide +kernel)
set_option maxRecDepth 20000 in
theorem gX6_thread_X6_threadTold : GoodIn wsX6_thread (wsV RX6 158 RX6 yX6_threadTold wsX6_threadTold) := goodIn_app (goodIn_of _ (by decide +kernel)) ggX6_thread_X6_threadTold
set_option maxRecDepth 20000 in
theorem ggX6_thread_X6_no : GoodIn wsX6_thread wsX6_no := goodIn_r _ [39, 1, 40, 41, 42, 43, 44, 45, 46, 47, 48, 49, 50, 51, 52, 53, 54, 55, 56, 57, 58, 59, 60, 61, 62, 63, 64] (by decide +kernel) (by decide +kernel)
set_option maxRecDepth 20000 in
theorem gX6_thread_X6_no : GoodIn wsX6_thread (wsV RX6 130 RX6 yX6_no wsX6_no) := goodIn_app (goodIn_of _ (by decide +kernel)) ggX6_thread_X6_no
theorem dX6_thread_0 : decode cX6_thread 0 = .ok (.aload_n 0, 1) := by decide +kernel
theorem dX6_thread_1 : decode cX6_thread 1 = .ok (.iconst 0, 1) := by decide +kernel
theorem dX6_thread_2 : decode cX6_thread 2 = .ok (.putfield 59, 3) := by decide +kernel
theorem dX6_thread_5 : decode cX6_thread 5 = .ok (.aload_n 0, 1) := by decide +kernel
theorem dX6_thread_6 : decode cX6_thread 6 = .ok (.iload_n 1, 1) := by decide +kernel
theorem dX6_thread_7 : decode cX6_thread 7 = .ok (.invokevirtual 140, 3) := by decide +kernel
theorem dX6_thread_10 : decode cX6_thread 10 = .ok (.ifCond .eq 21, 3) := by decide +kernel
theorem dX6_thread_13 : decode cX6_thread 13 = .ok (.iload_n 2, 1) := by decide +kernel
theorem dX6_thread_14 : decode cX6_thread 14 = .ok (.iconst 0, 1) := by decide +kernel
theorem dX6_thread_15 : decode cX6_thread 15 = .ok (.iconst 4, 1) := by decide +kernel
theorem dX6_thread_16 : decode cX6_thread 16 = .ok (.invokestatic 65, 3) := by decide +kernel
theorem dX6_thread_19 : decode cX6_thread 19 = .ok (.ifCond .eq 12, 3) := by decide +kernel
theorem dX6_thread_22 : decode cX6_thread 22 = .ok (.aload_n 0, 1) := by decide +kernel
theorem dX6_thread_23 : decode cX6_thread 23 = .ok (.iload_n 1, 1) := by decide +kernel
theorem dX6_thread_24 : decode cX6_thread 24 = .ok (.iload_n 2, 1) := by decide +kernel
theorem dX6_thread_25 : decode cX6_thread 25 = .ok (.invokevirtual 158, 3) := by decide +kernel
theorem dX6_thread_28 : decode cX6_thread 28 = .ok (.goto 8, 3) := by decide +kernel
theorem dX6_thread_31 : decode cX6_thread 31 = .ok (.aload_n 0, 1) := by decide +kernel
theorem dX6_thread_32 : decode cX6_thread 32 = .ok (.iconst 1, 1) := by decide +kernel
theorem dX6_thread_33 : decode cX6_thread 33 = .ok (.invokevirtual 130, 3) := by decide +kernel
theorem dX6_thread_36 : decode cX6_thread 36 = .ok (.ireturn, 1) := by decide +kernel
set_option maxRecDepth 20000 in
theorem ggX6_shipTold_X6_breadth : GoodIn wsX6_shipTold wsX6_breadth := goodIn_r _ [8, 9, 10, 11, 12, 13, 14, 15, 16, 17, 18, 7, 19, 20, 21, 22, 55, 56, 57, 58, 59, 60, 61, 62, 63, 64, 65, 66, 67, 68, 69, 70, 71, 72, 73, 74, 75, 76, 77, 78, 79] (by decide +kernel) (by decide +kernel)
set_option maxRecDepth 20000 in
theorem gX6_shipTold_X6_breadth : GoodIn wsX6_shipTold (wsV RX6 94 RX6 yX6_breadth wsX6_breadth) := goodIn_app (goodIn_of _ (by decide +kernel)) ggX6_shipTold_X6_breadth
set_option maxRecDepth 20000 in
theorem ggX6_shipTold_X6_top : GoodIn wsX6_shipTold wsX6_top := goodIn_r _ [26, 10, 13, 14, 15, 16, 27, 28, 29, 30, 7, 31, 32, 17, 18, 19, 20, 21, 22, 55, 56, 57, 58, 59, 60, 61, 62, 63, 64, 65, 66, 67, 68, 69, 70, 71, 72, 73, 74, 75, 76, 77, 78, 79] (by decide +kernel) (by decide +kernel)
set_option maxRecDepth 20000 in
theorem gX6_shipTold_X6_top : GoodIn wsX6_shipTold (wsV RX6 97 RX6 yX6_top wsX6_top) := goodIn_app (goodIn_of _ (by decide +kernel)) ggX6_shipTold_X6_top
set_option maxRecDepth 20000 in
theorem ggX6_shipTold_X6_end : GoodIn wsX6_shipTold wsX6_end := goodIn_r _ [36, 37, 10, 38, 13, 14, 15, 16, 39, 40, 41, 7, 42, 32, 17, 18, 19, 20, 21, 22, 55, 56, 57, 58, 59, 60, 61, 62, 63, 64, 65, 66, 67, 68, 69, 70, 71, 72, 73, 74, 75, 76, 77, 78, 79] (by decide +kernel) (by decide +kernel)
set_option maxRecDepth 20000 in
theorem gX6_shipTold_X6_end : GoodIn wsX6_shipTold (wsV RX6 100 RX6 yX6_end wsX6_end) := goodIn_app (goodIn_of _ (by decide +kernel)) ggX6_shipTold_X6_end
set_option maxRecDepth 20000 in
theorem ggX6_shipTold_X6_goesThrough : GoodIn wsX6_shipTold wsX6_goesThrough := goodIn_r _ [46, 2, 47, 4, 5, 6, 7, 8, 9, 10, 11, 12, 13, 14, 15, 16, 17, 18, 19, 20, 21, 22, 23, 24, 25, 26, 27, 28, 29, 30, 31, 32, 55, 56, 57, 58, 59, 60, 61, 62, 63, 64, 65, 66, 67, 68, 69, 70, 71, 72, 73, 74, 75, 76, 77, 78, 79] (by decide +kernel) (by decide +kernel)
set_option maxRecDepth 20000 in
theorem gX6_shipTold_X6_goesThrough : GoodIn wsX6_shipTold (wsV RX6 136 RX6 yX6_goesThrough wsX6_goesThrough) := goodIn_app (goodIn_of _ (by decide +kernel)) ggX6_shipTold_X6_goesThrough
set_option maxRecDepth 20000 in
theorem ggX6_shipTold_X6_fits : GoodIn wsX6_shipTold wsX6_fits := goodIn_r _ [51, 52, 53, 54, 33, 34, 35, 7, 36, 37, 10, 38, 13, 14, 15, 16, 39, 40, 41, 42, 32, 17, 18, 19, 20, 21, 22, 23, 24, 25, 26, 27, 28, 29, 30, 31, 55, 56, 57, 58, 59, 60, 61, 62, 63, 64, 65, 66, 67, 68, 69, 70, 71, 72, 73, 74, 75, 76, 77, 78, 79] (by decide +kernel) (by decide +kernel)
set_option maxRecDepth 20000 in
theorem gX6_shipTold_X6_fits : GoodIn wsX6_shipTold (wsV RX6 127 RX6 yX6_fits wsX6_fits) := goodIn_app (goodIn_of _ (by decide +kernel)) ggX6_shipTold_X6_fits
theorem dX6_shipTold_0 : decode cX6_shipTold 0 = .ok (.bipush 6, 2) := by decide +kernel
theorem dX6_shipTold_2 : decode cX6_shipTold 2 = .ok (.newarray .int, 2) := by decide +kernel
theorem dX6_shipTold_4 : decode cX6_shipTold 4 = .ok (.dup, 1) := by decide +kernel
theorem dX6_shipTold_5 : decode cX6_shipTold 5 = .ok (.iconst 0, 1) := by decide +kernel
theorem dX6_shipTold_6 : decode cX6_shipTold 6 = .ok (.aload_n 0, 1) := by decide +kernel
theorem dX6_shipTold_7 : decode cX6_shipTold 7 = .ok (.aload_n 0, 1) := by decide +kernel
theorem dX6_shipTold_8 : decode cX6_shipTold 8 = .ok (.getfield 91, 3) := by decide +kernel
theorem dX6_shipTold_11 : decode cX6_shipTold 11 = .ok (.invokevirtual 94, 3) := by decide +kernel
theorem dX6_shipTold_14 : decode cX6_shipTold 14 = .ok (.iastore, 1) := by decide +kernel
theorem dX6_shipTold_15 : decode cX6_shipTold 15 = .ok (.dup, 1) := by decide +kernel
theorem dX6_shipTold_16 : decode cX6_shipTold 16 = .ok (.iconst 1, 1) := by decide +kernel
theorem dX6_shipTold_17 : decode cX6_shipTold 17 = .ok (.aload_n 0, 1) := by decide +kernel
theorem dX6_shipTold_18 : decode cX6_shipTold 18 = .ok (.aload_n 0, 1) := by decide +kernel
theorem dX6_shipTold_19 : decode cX6_shipTold 19 = .ok (.getfield 91, 3) := by decide +kernel
theorem dX6_shipTold_22 : decode cX6_shipTold 22 = .ok (.invokevirtual 97, 3) := by decide +kernel
theorem dX6_shipTold_25 : decode cX6_shipTold 25 = .ok (.iastore, 1) := by decide +kernel
theorem dX6_shipTold_26 : decode cX6_shipTold 26 = .ok (.dup, 1) := by decide +kernel
theorem dX6_shipTold_27 : decode cX6_shipTold 27 = .ok (.iconst 2, 1) := by decide +kernel
theorem dX6_shipTold_28 : decode cX6_shipTold 28 = .ok (.aload_n 0, 1) := by decide +kernel
theorem dX6_shipTold_29 : decode cX6_shipTold 29 = .ok (.aload_n 0, 1) := by decide +kernel
theorem dX6_shipTold_30 : decode cX6_shipTold 30 = .ok (.getfield 91, 3) := by decide +kernel
theorem dX6_shipTold_33 : decode cX6_shipTold 33 = .ok (.invokevirtual 100, 3) := by decide +kernel
theorem dX6_shipTold_36 : decode cX6_shipTold 36 = .ok (.iastore, 1) := by decide +kernel
theorem dX6_shipTold_37 : decode cX6_shipTold 37 = .ok (.dup, 1) := by decide +kernel
theorem dX6_shipTold_38 : decode cX6_shipTold 38 = .ok (.iconst 3, 1) := by decide +kernel
theorem dX6_shipTold_39 : decode cX6_shipTold 39 = .ok (.aload_n 0, 1) := by decide +kernel
theorem dX6_shipTold_40 : decode cX6_shipTold 40 = .ok (.invokevirtual 136, 3) := by decide +kernel
theorem dX6_shipTold_43 : decode cX6_shipTold 43 = .ok (.ifCond .eq 7, 3) := by decide +kernel
theorem dX6_shipTold_46 : decode cX6_shipTold 46 = .ok (.iconst 1, 1) := by decide +kernel
theorem dX6_shipTold_47 : decode cX6_shipTold 47 = .ok (.goto 4, 3) := by decide +kernel
theorem dX6_shipTold_50 : decode cX6_shipTold 50 = .ok (.iconst 0, 1) := by decide +kernel
theorem dX6_shipTold_51 : decode cX6_shipTold 51 = .ok (.iastore, 1) := by decide +kernel
theorem dX6_shipTold_52 : decode cX6_shipTold 52 = .ok (.dup, 1) := by decide +kernel
theorem dX6_shipTold_53 : decode cX6_shipTold 53 = .ok (.iconst 4, 1) := by decide +kernel
theorem dX6_shipTold_54 : decode cX6_shipTold 54 = .ok (.aload_n 0, 1) := by decide +kernel
theorem dX6_shipTold_55 : decode cX6_shipTold 55 = .ok (.aload_n 0, 1) := by decide +kernel
theorem dX6_shipTold_56 : decode cX6_shipTold 56 = .ok (.getfield 91, 3) := by decide +kernel
theorem dX6_shipTold_59 : decode cX6_shipTold 59 = .ok (.invokevirtual 127, 3) := by decide +kernel
theorem dX6_shipTold_62 : decode cX6_shipTold 62 = .ok (.ifCond .eq 7, 3) := by decide +kernel
theorem dX6_shipTold_65 : decode cX6_shipTold 65 = .ok (.iconst 1, 1) := by decide +kernel
theorem dX6_shipTold_66 : decode cX6_shipTold 66 = .ok (.goto 4, 3) := by decide +kernel
theorem dX6_shipTold_69 : decode cX6_shipTold 69 = .ok (.iconst 0, 1) := by decide +kernel
theorem dX6_shipTold_70 : decode cX6_shipTold 70 = .ok (.iastore, 1) := by decide +kernel
theorem dX6_shipTold_71 : decode cX6_shipTold 71 = .ok (.dup, 1) := by decide +kernel
theorem dX6_shipTold_72 : decode cX6_shipTold 72 = .ok (.iconst 5, 1) := by decide +kernel
theorem dX6_shipTold_73 : decode cX6_shipTold 73 = .ok (.aload_n 0, 1) := by decide +kernel
theorem dX6_shipTold_74 : decode cX6_shipTold 74 = .ok (.getfield 123, 3) := by decide +kernel
theorem dX6_shipTold_77 : decode cX6_shipTold 77 = .ok (.ifCond .eq 7, 3) := by decide +kernel
theorem dX6_shipTold_80 : decode cX6_shipTold 80 = .ok (.iconst 1, 1) := by decide +kernel
theorem dX6_shipTold_81 : decode cX6_shipTold 81 = .ok (.goto 4, 3) := by decide +kernel
theorem dX6_shipTold_84 : decode cX6_shipTold 84 = .ok (.iconst 0, 1) := by decide +kernel
theorem dX6_shipTold_85 : decode cX6_shipTold 85 = .ok (.iastore, 1) := by decide +kernel
theorem dX6_shipTold_86 : decode cX6_shipTold 86 = .ok (.astore_n 2, 1) := by decide +kernel
theorem dX6_shipTold_87 : decode cX6_shipTold 87 = .ok (.aload_n 2, 1) := by decide +kernel
theorem dX6_shipTold_88 : decode cX6_shipTold 88 = .ok (.iload_n 1, 1) := by decide +kernel
theorem dX6_shipTold_89 : decode cX6_shipTold 89 = .ok (.iaload, 1) := by decide +kernel
theorem dX6_shipTold_90 : decode cX6_shipTold 90 = .ok (.ireturn, 1) := by decide +kernel
set_option maxRecDepth 20000 in
theorem ggX6_ship_X6_isBetween : GoodIn wsX6_ship wsX6_isBetween := goodIn_r _ [5] (by decide +kernel) (by decide +kernel)
set_option maxRecDepth 20000 in
theorem gX6_ship_X6_isBetween : GoodIn wsX6_ship (va_wsS RX6 65 yX6_isBetween wsX6_isBetween) := goodIn_app (goodIn_of _ (by decide +kernel)) ggX6_ship_X6_isBetween
set_option maxRecDepth 20000 in
theorem ggX6_ship_X6_shipTold : GoodIn wsX6_ship wsX6_shipTold := goodIn_r _ [9, 10, 11, 12, 13, 14, 15, 4, 16, 17, 18, 19, 20, 21, 22, 23, 24, 25, 26, 27, 28, 29, 30, 31, 32, 33, 34, 35, 36, 37, 38, 39, 40, 41, 42, 43, 44, 45, 46, 47, 48, 49, 50, 51, 52, 53, 54, 55, 56, 57, 58, 59, 60, 61, 62, 67, 68, 69, 70, 71, 72, 73, 74, 75, 76, 77, 78, 79, 80, 81, 82, 83, 84, 85, 86, 87, 88, 89, 90, 91] (by decide +kernel) (by decide +kernel)
set_option maxRecDepth 20000 in
theorem gX6_ship_X6_shipTold : GoodIn wsX6_ship (wsV RX6 161 RX6 yX6_shipTold wsX6_shipTold) := goodIn_app (goodIn_of _ (by decide +kernel)) ggX6_ship_X6_shipTold
set_option maxRecDepth 20000 in
theorem ggX6_ship_X6_no : GoodIn wsX6_ship wsX6_no := goodIn_r _ [66, 1, 67, 68, 69, 70, 71, 72, 73, 74, 75, 76, 77, 78, 79, 80, 81, 82, 83, 84, 85, 86, 87, 88, 89, 90, 91] (by decide +kernel) (by decide +kernel)
set_option maxRecDepth 20000 in
theorem gX6_ship_X6_no : GoodIn wsX6_ship (wsV RX6 130 RX6 yX6_no wsX6_no) := goodIn_app (goodIn_of _ (by decide +kernel)) ggX6_ship_X6_no
theorem dX6_ship_0 : decode cX6_ship 0 = .ok (.aload_n 0, 1) := by decide +kernel
theorem dX6_ship_1 : decode cX6_ship 1 = .ok (.iconst 0, 1) := by decide +kernel
theorem dX6_ship_2 : decode cX6_ship 2 = .ok (.putfield 59, 3) := by decide +kernel
theorem dX6_ship_5 : decode cX6_ship 5 = .ok (.iload_n 1, 1) := by decide +kernel
theorem dX6_ship_6 : decode cX6_ship 6 = .ok (.iconst 0, 1) := by decide +kernel
theorem dX6_ship_7 : decode cX6_ship 7 = .ok (.iconst 5, 1) := by decide +kernel
theorem dX6_ship_8 : decode cX6_ship 8 = .ok (.invokestatic 65, 3) := by decide +kernel
theorem dX6_ship_11 : decode cX6_ship 11 = .ok (.ifCond .eq 11, 3) := by decide +kernel
theorem dX6_ship_14 : decode cX6_ship 14 = .ok (.aload_n 0, 1) := by decide +kernel
theorem dX6_ship_15 : decode cX6_ship 15 = .ok (.iload_n 1, 1) := by decide +kernel
theorem dX6_ship_16 : decode cX6_ship 16 = .ok (.invokevirtual 161, 3) := by decide +kernel
theorem dX6_ship_19 : decode cX6_ship 19 = .ok (.goto 8, 3) := by decide +kernel
theorem dX6_ship_22 : decode cX6_ship 22 = .ok (.aload_n 0, 1) := by decide +kernel
theorem dX6_ship_23 : decode cX6_ship 23 = .ok (.iconst 1, 1) := by decide +kernel
theorem dX6_ship_24 : decode cX6_ship 24 = .ok (.invokevirtual 130, 3) := by decide +kernel
theorem dX6_ship_27 : decode cX6_ship 27 = .ok (.ireturn, 1) := by decide +kernel
set_option maxRecDepth 20000 in
theorem ggX6_counted_X6_lean : GoodIn wsX6_counted wsX6_lean := goodIn_r _ [12, 13, 14, 11, 15] (by decide +kernel) (by decide +kernel)
set_option maxRecDepth 20000 in
theorem gX6_counted_X6_lean : GoodIn wsX6_counted (va_wsS RX6 76 yX6_lean wsX6_lean) := goodIn_app (goodIn_of _ (by decide +kernel)) ggX6_counted_X6_lean
theorem dX6_counted_0 : decode cX6_counted 0 = .ok (.iconst 0, 1) := by decide +kernel
theorem dX6_counted_1 : decode cX6_counted 1 = .ok (.istore_n 2, 1) := by decide +kernel
theorem dX6_counted_2 : decode cX6_counted 2 = .ok (.iconst 0, 1) := by decide +kernel
theorem dX6_counted_3 : decode cX6_counted 3 = .ok (.istore_n 3, 1) := by decide +kernel
theorem dX6_counted_4 : decode cX6_counted 4 = .ok (.iconst 0, 1) := by decide +kernel
theorem dX6_counted_5 : decode cX6_counted 5 = .ok (.istore 4, 2) := by decide +kernel
theorem dX6_counted_7 : decode cX6_counted 7 = .ok (.iconst 0, 1) := by decide +kernel
theorem dX6_counted_8 : decode cX6_counted 8 = .ok (.istore 5, 2) := by decide +kernel
theorem dX6_counted_10 : decode cX6_counted 10 = .ok (.iload 5, 2) := by decide +kernel
theorem dX6_counted_12 : decode cX6_counted 12 = .ok (.aload_n 0, 1) := by decide +kernel
theorem dX6_counted_13 : decode cX6_counted 13 = .ok (.getfield 62, 3) := by decide +kernel
theorem dX6_counted_16 : decode cX6_counted 16 = .ok (.if_icmp .ge 29, 3) := by decide +kernel
theorem dX6_counted_19 : decode cX6_counted 19 = .ok (.iload_n 2, 1) := by decide +kernel
theorem dX6_counted_20 : decode cX6_counted 20 = .ok (.aload_n 0, 1) := by decide +kernel
theorem dX6_counted_21 : decode cX6_counted 21 = .ok (.getfield 91, 3) := by decide +kernel
theorem dX6_counted_24 : decode cX6_counted 24 = .ok (.iload 5, 2) := by decide +kernel
theorem dX6_counted_26 : decode cX6_counted 26 = .ok (.invokestatic 76, 3) := by decide +kernel
theorem dX6_counted_29 : decode cX6_counted 29 = .ok (.ifCond .ne 7, 3) := by decide +kernel
theorem dX6_counted_32 : decode cX6_counted 32 = .ok (.iconst 1, 1) := by decide +kernel
theorem dX6_counted_33 : decode cX6_counted 33 = .ok (.goto 4, 3) := by decide +kernel
theorem dX6_counted_36 : decode cX6_counted 36 = .ok (.iconst 0, 1) := by decide +kernel
theorem dX6_counted_37 : decode cX6_counted 37 = .ok (.iadd, 1) := by decide +kernel
theorem dX6_counted_38 : decode cX6_counted 38 = .ok (.istore_n 2, 1) := by decide +kernel
theorem dX6_counted_39 : decode cX6_counted 39 = .ok (.iinc 5 1, 3) := by decide +kernel
theorem dX6_counted_42 : decode cX6_counted 42 = .ok (.goto (-32), 3) := by decide +kernel
theorem dX6_counted_45 : decode cX6_counted 45 = .ok (.iconst 0, 1) := by decide +kernel
theorem dX6_counted_46 : decode cX6_counted 46 = .ok (.istore 5, 2) := by decide +kernel
theorem dX6_counted_48 : decode cX6_counted 48 = .ok (.iload 5, 2) := by decide +kernel
theorem dX6_counted_50 : decode cX6_counted 50 = .ok (.aload_n 0, 1) := by decide +kernel
theorem dX6_counted_51 : decode cX6_counted 51 = .ok (.getfield 69, 3) := by decide +kernel
theorem dX6_counted_54 : decode cX6_counted 54 = .ok (.if_icmp .ge 48, 3) := by decide +kernel
theorem dX6_counted_57 : decode cX6_counted 57 = .ok (.iload_n 3, 1) := by decide +kernel
theorem dX6_counted_58 : decode cX6_counted 58 = .ok (.aload_n 0, 1) := by decide +kernel
theorem dX6_counted_59 : decode cX6_counted 59 = .ok (.getfield 50, 3) := by decide +kernel
theorem dX6_counted_62 : decode cX6_counted 62 = .ok (.iload 5, 2) := by decide +kernel
theorem dX6_counted_64 : decode cX6_counted 64 = .ok (.iaload, 1) := by decide +kernel
theorem dX6_counted_65 : decode cX6_counted 65 = .ok (.ifCond .ne 7, 3) := by decide +kernel
theorem dX6_counted_68 : decode cX6_counted 68 = .ok (.iconst 1, 1) := by decide +kernel
theorem dX6_counted_69 : decode cX6_counted 69 = .ok (.goto 4, 3) := by decide +kernel
theorem dX6_counted_72 : decode cX6_counted 72 = .ok (.iconst 0, 1) := by decide +kernel
theorem dX6_counted_73 : decode cX6_counted 73 = .ok (.iadd, 1) := by decide +kernel
theorem dX6_counted_74 : decode cX6_counted 74 = .ok (.istore_n 3, 1) := by decide +kernel
theorem dX6_counted_75 : decode cX6_counted 75 = .ok (.iload 4, 2) := by decide +kernel
theorem dX6_counted_77 : decode cX6_counted 77 = .ok (.aload_n 0, 1) := by decide +kernel
theorem dX6_counted_78 : decode cX6_counted 78 = .ok (.getfield 50, 3) := by decide +kernel
theorem dX6_counted_81 : decode cX6_counted 81 = .ok (.iload 5, 2) := by decide +kernel
theorem dX6_counted_83 : decode cX6_counted 83 = .ok (.iaload, 1) := by decide +kernel
theorem dX6_counted_84 : decode cX6_counted 84 = .ok (.iconst 2, 1) := by decide +kernel
theorem dX6_counted_85 : decode cX6_counted 85 = .ok (.if_icmp .ne 7, 3) := by decide +kernel
theorem dX6_counted_88 : decode cX6_counted 88 = .ok (.iconst 1, 1) := by decide +kernel
theorem dX6_counted_89 : decode cX6_counted 89 = .ok (.goto 4, 3) := by decide +kernel
theorem dX6_counted_92 : decode cX6_counted 92 = .ok (.iconst 0, 1) := by decide +kernel
theorem dX6_counted_93 : decode cX6_counted 93 = .ok (.iadd, 1) := by decide +kernel
theorem dX6_counted_94 : decode cX6_counted 94 = .ok (.istore 4, 2) := by decide +kernel
theorem dX6_counted_96 : decode cX6_counted 96 = .ok (.iinc 5 1, 3) := by decide +kernel
theorem dX6_counted_99 : decode cX6_counted 99 = .ok (.goto (-51), 3) := by decide +kernel
theorem dX6_counted_102 : decode cX6_counted 102 = .ok (.bipush 8, 2) := by decide +kernel
theorem dX6_counted_104 : decode cX6_counted 104 = .ok (.newarray .int, 2) := by decide +kernel
theorem dX6_counted_106 : decode cX6_counted 106 = .ok (.dup, 1) := by decide +kernel
theorem dX6_counted_107 : decode cX6_counted 107 = .ok (.iconst 0, 1) := by decide +kernel
theorem dX6_counted_108 : decode cX6_counted 108 = .ok (.aload_n 0, 1) := by decide +kernel
theorem dX6_counted_109 : decode cX6_counted 109 = .ok (.getfield 164, 3) := by decide +kernel
theorem dX6_counted_112 : decode cX6_counted 112 = .ok (.iastore, 1) := by decide +kernel
theorem dX6_counted_113 : decode cX6_counted 113 = .ok (.dup, 1) := by decide +kernel
theorem dX6_counted_114 : decode cX6_counted 114 = .ok (.iconst 1, 1) := by decide +kernel
theorem dX6_counted_115 : decode cX6_counted 115 = .ok (.aload_n 0, 1) := by decide +kernel
theorem dX6_counted_116 : decode cX6_counted 116 = .ok (.getfield 62, 3) := by decide +kernel
theorem dX6_counted_119 : decode cX6_counted 119 = .ok (.iastore, 1) := by decide +kernel
theorem dX6_counted_120 : decode cX6_counted 120 = .ok (.dup, 1) := by decide +kernel
theorem dX6_counted_121 : decode cX6_counted 121 = .ok (.iconst 2, 1) := by decide +kernel
theorem dX6_counted_122 : decode cX6_counted 122 = .ok (.iload_n 2, 1) := by decide +kernel
theorem dX6_counted_123 : decode cX6_counted 123 = .ok (.iastore, 1) := by decide +kernel
theorem dX6_counted_124 : decode cX6_counted 124 = .ok (.dup, 1) := by decide +kernel
theorem dX6_counted_125 : decode cX6_counted 125 = .ok (.iconst 3, 1) := by decide +kernel
theorem dX6_counted_126 : decode cX6_counted 126 = .ok (.aload_n 0, 1) := by decide +kernel
theorem dX6_counted_127 : decode cX6_counted 127 = .ok (.getfield 69, 3) := by decide +kernel
theorem dX6_counted_130 : decode cX6_counted 130 = .ok (.iastore, 1) := by decide +kernel
theorem dX6_counted_131 : decode cX6_counted 131 = .ok (.dup, 1) := by decide +kernel
theorem dX6_counted_132 : decode cX6_counted 132 = .ok (.iconst 4, 1) := by decide +kernel
theorem dX6_counted_133 : decode cX6_counted 133 = .ok (.iload_n 3, 1) := by decide +kernel
theorem dX6_counted_134 : decode cX6_counted 134 = .ok (.iastore, 1) := by decide +kernel
theorem dX6_counted_135 : decode cX6_counted 135 = .ok (.dup, 1) := by decide +kernel
theorem dX6_counted_136 : decode cX6_counted 136 = .ok (.iconst 5, 1) := by decide +kernel
theorem dX6_counted_137 : decode cX6_counted 137 = .ok (.iload 4, 2) := by decide +kernel
theorem dX6_counted_139 : decode cX6_counted 139 = .ok (.iastore, 1) := by decide +kernel
theorem dX6_counted_140 : decode cX6_counted 140 = .ok (.dup, 1) := by decide +kernel
theorem dX6_counted_141 : decode cX6_counted 141 = .ok (.bipush 6, 2) := by decide +kernel
theorem dX6_counted_143 : decode cX6_counted 143 = .ok (.aload_n 0, 1) := by decide +kernel
theorem dX6_counted_144 : decode cX6_counted 144 = .ok (.getfield 146, 3) := by decide +kernel
theorem dX6_counted_147 : decode cX6_counted 147 = .ok (.iastore, 1) := by decide +kernel
theorem dX6_counted_148 : decode cX6_counted 148 = .ok (.dup, 1) := by decide +kernel
theorem dX6_counted_149 : decode cX6_counted 149 = .ok (.bipush 7, 2) := by decide +kernel
theorem dX6_counted_151 : decode cX6_counted 151 = .ok (.aload_n 0, 1) := by decide +kernel
theorem dX6_counted_152 : decode cX6_counted 152 = .ok (.getfield 149, 3) := by decide +kernel
theorem dX6_counted_155 : decode cX6_counted 155 = .ok (.iastore, 1) := by decide +kernel
theorem dX6_counted_156 : decode cX6_counted 156 = .ok (.astore 5, 2) := by decide +kernel
theorem dX6_counted_158 : decode cX6_counted 158 = .ok (.aload 5, 2) := by decide +kernel
theorem dX6_counted_160 : decode cX6_counted 160 = .ok (.iload_n 1, 1) := by decide +kernel
theorem dX6_counted_161 : decode cX6_counted 161 = .ok (.iaload, 1) := by decide +kernel
theorem dX6_counted_162 : decode cX6_counted 162 = .ok (.ireturn, 1) := by decide +kernel
set_option maxRecDepth 20000 in
theorem ggX6_count_X6_isBetween : GoodIn wsX6_count wsX6_isBetween := goodIn_r _ [5] (by decide +kernel) (by decide +kernel)
set_option maxRecDepth 20000 in
theorem gX6_count_X6_isBetween : GoodIn wsX6_count (va_wsS RX6 65 yX6_isBetween wsX6_isBetween) := goodIn_app (goodIn_of _ (by decide +kernel)) ggX6_count_X6_isBetween
set_option maxRecDepth 20000 in
theorem ggX6_count_X6_counted : GoodIn wsX6_count wsX6_counted := goodIn_r _ [9, 10, 11, 12, 13, 14, 15, 16, 17, 18, 19, 4, 20, 21, 22, 23, 28, 29, 30, 31, 32, 33, 34, 35, 36, 37, 38, 39, 40, 41, 42, 43, 44, 45, 46, 47, 48, 49, 50, 51, 52] (by decide +kernel) (by decide +kernel)
set_option maxRecDepth 20000 in
theorem gX6_count_X6_counted : GoodIn wsX6_count (wsV RX6 167 RX6 yX6_counted wsX6_counted) := goodIn_app (goodIn_of _ (by decide +kernel)) ggX6_count_X6_counted
set_option maxRecDepth 20000 in
theorem ggX6_count_X6_no : GoodIn wsX6_count wsX6_no := goodIn_r _ [27, 1, 28, 29, 30, 31, 32, 33, 34, 35, 36, 37, 38, 39, 40, 41, 42, 43, 44, 45, 46, 47, 48, 49, 50, 51, 52] (by decide +kernel) (by decide +kernel)
set_option maxRecDepth 20000 in
theorem gX6_count_X6_no : GoodIn wsX6_count (wsV RX6 130 RX6 yX6_no wsX6_no) := goodIn_app (goodIn_of _ (by decide +kernel)) ggX6_count_X6_no
theorem dX6_count_0 : decode cX6_count 0 = .ok (.aload_n 0, 1) := by decide +kernel
theorem dX6_count_1 : decode cX6_count 1 = .ok (.iconst 0, 1) := by decide +kernel
theorem dX6_count_2 : decode cX6_count 2 = .ok (.putfield 59, 3) := by decide +kernel
theorem dX6_count_5 : decode cX6_count 5 = .ok (.iload_n 1, 1) := by decide +kernel
theorem dX6_count_6 : decode cX6_count 6 = .ok (.iconst 0, 1) := by decide +kernel
theorem dX6_count_7 : decode cX6_count 7 = .ok (.bipush 7, 2) := by decide +kernel
theorem dX6_count_9 : decode cX6_count 9 = .ok (.invokestatic 65, 3) := by decide +kernel
theorem dX6_count_12 : decode cX6_count 12 = .ok (.ifCond .eq 11, 3) := by decide +kernel
theorem dX6_count_15 : decode cX6_count 15 = .ok (.aload_n 0, 1) := by decide +kernel
theorem dX6_count_16 : decode cX6_count 16 = .ok (.iload_n 1, 1) := by decide +kernel
theorem dX6_count_17 : decode cX6_count 17 = .ok (.invokevirtual 167, 3) := by decide +kernel
theorem dX6_count_20 : decode cX6_count 20 = .ok (.goto 8, 3) := by decide +kernel
theorem dX6_count_23 : decode cX6_count 23 = .ok (.aload_n 0, 1) := by decide +kernel
theorem dX6_count_24 : decode cX6_count 24 = .ok (.iconst 1, 1) := by decide +kernel
theorem dX6_count_25 : decode cX6_count 25 = .ok (.invokevirtual 130, 3) := by decide +kernel
theorem dX6_count_28 : decode cX6_count 28 = .ok (.ireturn, 1) := by decide +kernel
set_option maxRecDepth 20000 in
theorem ggX6_later_X6_isHeld : GoodIn wsX6_later wsX6_isHeld := goodIn_r _ [11, 12, 13, 14, 25, 26, 27, 28, 29, 30, 31, 32, 33, 34, 35, 36, 37, 38, 39, 40, 41, 42, 43, 44, 45, 46, 47, 48, 49] (by decide +kernel) (by decide +kernel)
set_option maxRecDepth 20000 in
theorem gX6_later_X6_isHeld : GoodIn wsX6_later (wsV RX6 112 RX6 yX6_isHeld wsX6_isHeld) := goodIn_app (goodIn_of _ (by decide +kernel)) ggX6_later_X6_isHeld
set_option maxRecDepth 20000 in
theorem ggX6_later_X6_loose : GoodIn wsX6_later wsX6_loose := goodIn_r _ [18, 12, 13, 14, 25, 26, 27, 28, 29, 30, 31, 32, 33, 34, 35, 36, 37, 38, 39, 40, 41, 42, 43, 44, 45, 46, 47, 48, 49] (by decide +kernel) (by decide +kernel)
set_option maxRecDepth 20000 in
theorem gX6_later_X6_loose : GoodIn wsX6_later (wsV RX6 152 RX6 yX6_loose wsX6_loose) := goodIn_app (goodIn_of _ (by decide +kernel)) ggX6_later_X6_loose
set_option maxRecDepth 20000 in
theorem ggX6_later_X6_unit : GoodIn wsX6_later wsX6_unit := goodIn_r _ [21] (by decide +kernel) (by decide +kernel)
set_option maxRecDepth 20000 in
theorem gX6_later_X6_unit : GoodIn wsX6_later (va_wsS RX6 72 yX6_unit wsX6_unit) := goodIn_app (goodIn_of _ (by decide +kernel)) ggX6_later_X6_unit
set_option maxRecDepth 20000 in
theorem ggX6_later_X6_lean : GoodIn wsX6_later wsX6_lean := goodIn_r _ [24, 19, 20, 10, 21] (by decide +kernel) (by decide +kernel)
set_option maxRecDepth 20000 in
theorem gX6_later_X6_lean : GoodIn wsX6_later (va_wsS RX6 76 yX6_lean wsX6_lean) := goodIn_app (goodIn_of _ (by decide +kernel)) ggX6_later_X6_lean
theorem dX6_later_0 : decode cX6_later 0 = .ok (.iload_n 1, 1) := by decide +kernel
theorem dX6_later_1 : decode cX6_later 1 = .ok (.istore_n 2, 1) := by decide +kernel
theorem dX6_later_2 : decode cX6_later 2 = .ok (.iconst 0, 1) := by decide +kernel
theorem dX6_later_3 : decode cX6_later 3 = .ok (.istore_n 3, 1) := by decide +kernel
theorem dX6_later_4 : decode cX6_later 4 = .ok (.iload_n 3, 1) := by decide +kernel
theorem dX6_later_5 : decode cX6_later 5 = .ok (.aload_n 0, 1) := by decide +kernel
theorem dX6_later_6 : decode cX6_later 6 = .ok (.getfield 62, 3) := by decide +kernel
theorem dX6_later_9 : decode cX6_later 9 = .ok (.if_icmp .ge 62, 3) := by decide +kernel
theorem dX6_later_12 : decode cX6_later 12 = .ok (.aload_n 0, 1) := by decide +kernel
theorem dX6_later_13 : decode cX6_later 13 = .ok (.iload_n 3, 1) := by decide +kernel
theorem dX6_later_14 : decode cX6_later 14 = .ok (.invokevirtual 112, 3) := by decide +kernel
theorem dX6_later_17 : decode cX6_later 17 = .ok (.ifCond .ne 48, 3) := by decide +kernel
theorem dX6_later_20 : decode cX6_later 20 = .ok (.aload_n 0, 1) := by decide +kernel
theorem dX6_later_21 : decode cX6_later 21 = .ok (.iload_n 3, 1) := by decide +kernel
theorem dX6_later_22 : decode cX6_later 22 = .ok (.invokevirtual 152, 3) := by decide +kernel
theorem dX6_later_25 : decode cX6_later 25 = .ok (.ifCond .le 6, 3) := by decide +kernel
theorem dX6_later_28 : decode cX6_later 28 = .ok (.goto 37, 3) := by decide +kernel
theorem dX6_later_31 : decode cX6_later 31 = .ok (.iload_n 2, 1) := by decide +kernel
theorem dX6_later_32 : decode cX6_later 32 = .ok (.iload_n 3, 1) := by decide +kernel
theorem dX6_later_33 : decode cX6_later 33 = .ok (.invokestatic 72, 3) := by decide +kernel
theorem dX6_later_36 : decode cX6_later 36 = .ok (.bipush 9, 2) := by decide +kernel
theorem dX6_later_38 : decode cX6_later 38 = .ok (.iload_n 1, 1) := by decide +kernel
theorem dX6_later_39 : decode cX6_later 39 = .ok (.iload_n 3, 1) := by decide +kernel
theorem dX6_later_40 : decode cX6_later 40 = .ok (.invokestatic 76, 3) := by decide +kernel
theorem dX6_later_43 : decode cX6_later 43 = .ok (.isub, 1) := by decide +kernel
theorem dX6_later_44 : decode cX6_later 44 = .ok (.aload_n 0, 1) := by decide +kernel
theorem dX6_later_45 : decode cX6_later 45 = .ok (.getfield 35, 3) := by decide +kernel
theorem dX6_later_48 : decode cX6_later 48 = .ok (.iload_n 3, 1) := by decide +kernel
theorem dX6_later_49 : decode cX6_later 49 = .ok (.iaload, 1) := by decide +kernel
theorem dX6_later_50 : decode cX6_later 50 = .ok (.iconst 1, 1) := by decide +kernel
theorem dX6_later_51 : decode cX6_later 51 = .ok (.if_icmp .le 7, 3) := by decide +kernel
theorem dX6_later_54 : decode cX6_later 54 = .ok (.iconst 2, 1) := by decide +kernel
theorem dX6_later_55 : decode cX6_later 55 = .ok (.goto 4, 3) := by decide +kernel
theorem dX6_later_58 : decode cX6_later 58 = .ok (.iconst 1, 1) := by decide +kernel
theorem dX6_later_59 : decode cX6_later 59 = .ok (.invokestatic 109, 3) := by decide +kernel
theorem dX6_later_62 : decode cX6_later 62 = .ok (.imul, 1) := by decide +kernel
theorem dX6_later_63 : decode cX6_later 63 = .ok (.iadd, 1) := by decide +kernel
theorem dX6_later_64 : decode cX6_later 64 = .ok (.istore_n 2, 1) := by decide +kernel
theorem dX6_later_65 : decode cX6_later 65 = .ok (.iinc 3 1, 3) := by decide +kernel
theorem dX6_later_68 : decode cX6_later 68 = .ok (.goto (-64), 3) := by decide +kernel
theorem dX6_later_71 : decode cX6_later 71 = .ok (.iload_n 2, 1) := by decide +kernel
theorem dX6_later_72 : decode cX6_later 72 = .ok (.ireturn, 1) := by decide +kernel
set_option maxRecDepth 20000 in
theorem ggX6_flat_X6_lean : GoodIn wsX6_flat wsX6_lean := goodIn_r _ [5, 6, 7, 4, 8] (by decide +kernel) (by decide +kernel)
set_option maxRecDepth 20000 in
theorem gX6_flat_X6_lean : GoodIn wsX6_flat (va_wsS RX6 76 yX6_lean wsX6_lean) := goodIn_app (goodIn_of _ (by decide +kernel)) ggX6_flat_X6_lean
theorem dX6_flat_0 : decode cX6_flat 0 = .ok (.iconst 0, 1) := by decide +kernel
theorem dX6_flat_1 : decode cX6_flat 1 = .ok (.istore_n 2, 1) := by decide +kernel
theorem dX6_flat_2 : decode cX6_flat 2 = .ok (.iconst 0, 1) := by decide +kernel
theorem dX6_flat_3 : decode cX6_flat 3 = .ok (.istore_n 3, 1) := by decide +kernel
theorem dX6_flat_4 : decode cX6_flat 4 = .ok (.iload_n 3, 1) := by decide +kernel
theorem dX6_flat_5 : decode cX6_flat 5 = .ok (.aload_n 0, 1) := by decide +kernel
theorem dX6_flat_6 : decode cX6_flat 6 = .ok (.getfield 62, 3) := by decide +kernel
theorem dX6_flat_9 : decode cX6_flat 9 = .ok (.if_icmp .ge 27, 3) := by decide +kernel
theorem dX6_flat_12 : decode cX6_flat 12 = .ok (.iload_n 2, 1) := by decide +kernel
theorem dX6_flat_13 : decode cX6_flat 13 = .ok (.iload_n 1, 1) := by decide +kernel
theorem dX6_flat_14 : decode cX6_flat 14 = .ok (.iload_n 3, 1) := by decide +kernel
theorem dX6_flat_15 : decode cX6_flat 15 = .ok (.invokestatic 76, 3) := by decide +kernel
theorem dX6_flat_18 : decode cX6_flat 18 = .ok (.bipush 9, 2) := by decide +kernel
theorem dX6_flat_20 : decode cX6_flat 20 = .ok (.if_icmp .ne 7, 3) := by decide +kernel
theorem dX6_flat_23 : decode cX6_flat 23 = .ok (.iconst 1, 1) := by decide +kernel
theorem dX6_flat_24 : decode cX6_flat 24 = .ok (.goto 4, 3) := by decide +kernel
theorem dX6_flat_27 : decode cX6_flat 27 = .ok (.iconst 0, 1) := by decide +kernel
theorem dX6_flat_28 : decode cX6_flat 28 = .ok (.iadd, 1) := by decide +kernel
theorem dX6_flat_29 : decode cX6_flat 29 = .ok (.istore_n 2, 1) := by decide +kernel
theorem dX6_flat_30 : decode cX6_flat 30 = .ok (.iinc 3 1, 3) := by decide +kernel
theorem dX6_flat_33 : decode cX6_flat 33 = .ok (.goto (-29), 3) := by decide +kernel
theorem dX6_flat_36 : decode cX6_flat 36 = .ok (.iload_n 2, 1) := by decide +kernel
theorem dX6_flat_37 : decode cX6_flat 37 = .ok (.ireturn, 1) := by decide +kernel
set_option maxRecDepth 20000 in
theorem ggX6_pass_X6_isBetween : GoodIn wsX6_pass wsX6_isBetween := goodIn_r _ [7] (by decide +kernel) (by decide +kernel)
set_option maxRecDepth 20000 in
theorem gX6_pass_X6_isBetween : GoodIn wsX6_pass (va_wsS RX6 65 yX6_isBetween wsX6_isBetween) := goodIn_app (goodIn_of _ (by decide +kernel)) ggX6_pass_X6_isBetween
set_option maxRecDepth 20000 in
theorem ggX6_pass_X6_no : GoodIn wsX6_pass wsX6_no := goodIn_r _ [11, 1, 43, 44, 45, 46, 47, 48, 49, 50, 51, 52, 53, 54, 55, 56, 57, 58, 59, 60, 61, 62, 63, 64, 65, 66, 67] (by decide +kernel) (by decide +kernel)
set_option maxRecDepth 20000 in
theorem gX6_pass_X6_no : GoodIn wsX6_pass (wsV RX6 130 RX6 yX6_no wsX6_no) := goodIn_app (goodIn_of _ (by decide +kernel)) ggX6_pass_X6_no
set_option maxRecDepth 20000 in
theorem ggX6_pass_X6_flat : GoodIn wsX6_pass wsX6_flat := goodIn_r _ [15, 16, 17, 18, 6, 19, 20, 21, 22, 43, 44, 45, 46, 47, 48, 49, 50, 51, 52, 53, 54, 55, 56, 57, 58, 59, 60, 61, 62, 63, 64, 65, 66, 67] (by decide +kernel) (by decide +kernel)
set_option maxRecDepth 20000 in
theorem gX6_pass_X6_flat : GoodIn wsX6_pass (wsV RX6 170 RX6 yX6_flat wsX6_flat) := goodIn_app (goodIn_of _ (by decide +kernel)) ggX6_pass_X6_flat
set_option maxRecDepth 20000 in
theorem ggX6_pass_X6_later : GoodIn wsX6_pass wsX6_later := goodIn_r _ [26, 16, 27, 28, 29, 30, 31, 32, 33, 34, 6, 35, 36, 37, 38, 39, 40, 41, 42, 20, 21, 22, 17, 18, 19, 43, 44, 45, 46, 47, 48, 49, 50, 51, 52, 53, 54, 55, 56, 57, 58, 59, 60, 61, 62, 63, 64, 65, 66, 67] (by decide +kernel) (by decide +kernel)
set_option maxRecDepth 20000 in
theorem gX6_pass_X6_later : GoodIn wsX6_pass (wsV RX6 173 RX6 yX6_later wsX6_later) := goodIn_app (goodIn_of _ (by decide +kernel)) ggX6_pass_X6_later
