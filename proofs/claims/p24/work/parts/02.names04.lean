theorem dX5_exploreFrom_2 : decode cX5_exploreFrom 2 = .ok (.getfield 46, 3) := by decide +kernel
theorem dX5_exploreFrom_5 : decode cX5_exploreFrom 5 = .ok (.invokestatic 269, 3) := by decide +kernel
theorem dX5_exploreFrom_8 : decode cX5_exploreFrom 8 = .ok (.iconst 0, 1) := by decide +kernel
theorem dX5_exploreFrom_9 : decode cX5_exploreFrom 9 = .ok (.istore_n 2, 1) := by decide +kernel
theorem dX5_exploreFrom_10 : decode cX5_exploreFrom 10 = .ok (.iload_n 2, 1) := by decide +kernel
theorem dX5_exploreFrom_11 : decode cX5_exploreFrom 11 = .ok (.aload_n 0, 1) := by decide +kernel
theorem dX5_exploreFrom_12 : decode cX5_exploreFrom 12 = .ok (.getfield 89, 3) := by decide +kernel
theorem dX5_exploreFrom_15 : decode cX5_exploreFrom 15 = .ok (.if_icmp .ge 97, 3) := by decide +kernel
theorem dX5_exploreFrom_18 : decode cX5_exploreFrom 18 = .ok (.aload_n 0, 1) := by decide +kernel
theorem dX5_exploreFrom_19 : decode cX5_exploreFrom 19 = .ok (.getfield 38, 3) := by decide +kernel
theorem dX5_exploreFrom_22 : decode cX5_exploreFrom 22 = .ok (.getfield 311, 3) := by decide +kernel
theorem dX5_exploreFrom_25 : decode cX5_exploreFrom 25 = .ok (.iload_n 2, 1) := by decide +kernel
theorem dX5_exploreFrom_26 : decode cX5_exploreFrom 26 = .ok (.iaload, 1) := by decide +kernel
theorem dX5_exploreFrom_27 : decode cX5_exploreFrom 27 = .ok (.iconst (-1), 1) := by decide +kernel
theorem dX5_exploreFrom_28 : decode cX5_exploreFrom 28 = .ok (.if_icmp .eq 78, 3) := by decide +kernel
theorem dX5_exploreFrom_31 : decode cX5_exploreFrom 31 = .ok (.aload_n 0, 1) := by decide +kernel
theorem dX5_exploreFrom_32 : decode cX5_exploreFrom 32 = .ok (.getfield 46, 3) := by decide +kernel
theorem dX5_exploreFrom_35 : decode cX5_exploreFrom 35 = .ok (.iload_n 2, 1) := by decide +kernel
theorem dX5_exploreFrom_36 : decode cX5_exploreFrom 36 = .ok (.iaload, 1) := by decide +kernel
theorem dX5_exploreFrom_37 : decode cX5_exploreFrom 37 = .ok (.ifCond .ne 6, 3) := by decide +kernel
theorem dX5_exploreFrom_40 : decode cX5_exploreFrom 40 = .ok (.goto 66, 3) := by decide +kernel
theorem dX5_exploreFrom_43 : decode cX5_exploreFrom 43 = .ok (.iload_n 2, 1) := by decide +kernel
theorem dX5_exploreFrom_44 : decode cX5_exploreFrom 44 = .ok (.aload_n 0, 1) := by decide +kernel
theorem dX5_exploreFrom_45 : decode cX5_exploreFrom 45 = .ok (.getfield 38, 3) := by decide +kernel
theorem dX5_exploreFrom_48 : decode cX5_exploreFrom 48 = .ok (.getfield 317, 3) := by decide +kernel
theorem dX5_exploreFrom_51 : decode cX5_exploreFrom 51 = .ok (.iload_n 2, 1) := by decide +kernel
theorem dX5_exploreFrom_52 : decode cX5_exploreFrom 52 = .ok (.iaload, 1) := by decide +kernel
theorem dX5_exploreFrom_53 : decode cX5_exploreFrom 53 = .ok (.aload_n 0, 1) := by decide +kernel
theorem dX5_exploreFrom_54 : decode cX5_exploreFrom 54 = .ok (.getfield 46, 3) := by decide +kernel
theorem dX5_exploreFrom_57 : decode cX5_exploreFrom 57 = .ok (.aload_n 0, 1) := by decide +kernel
theorem dX5_exploreFrom_58 : decode cX5_exploreFrom 58 = .ok (.getfield 49, 3) := by decide +kernel
theorem dX5_exploreFrom_61 : decode cX5_exploreFrom 61 = .ok (.invokestatic 186, 3) := by decide +kernel
theorem dX5_exploreFrom_64 : decode cX5_exploreFrom 64 = .ok (.aload_n 0, 1) := by decide +kernel
theorem dX5_exploreFrom_65 : decode cX5_exploreFrom 65 = .ok (.getfield 65, 3) := by decide +kernel
theorem dX5_exploreFrom_68 : decode cX5_exploreFrom 68 = .ok (.ifCond .eq 14, 3) := by decide +kernel
theorem dX5_exploreFrom_71 : decode cX5_exploreFrom 71 = .ok (.aload_n 0, 1) := by decide +kernel
theorem dX5_exploreFrom_72 : decode cX5_exploreFrom 72 = .ok (.aload_n 0, 1) := by decide +kernel
theorem dX5_exploreFrom_73 : decode cX5_exploreFrom 73 = .ok (.getfield 49, 3) := by decide +kernel
theorem dX5_exploreFrom_76 : decode cX5_exploreFrom 76 = .ok (.invokevirtual 155, 3) := by decide +kernel
theorem dX5_exploreFrom_79 : decode cX5_exploreFrom 79 = .ok (.ifCond .eq 27, 3) := by decide +kernel
theorem dX5_exploreFrom_82 : decode cX5_exploreFrom 82 = .ok (.aload_n 0, 1) := by decide +kernel
theorem dX5_exploreFrom_83 : decode cX5_exploreFrom 83 = .ok (.getfield 38, 3) := by decide +kernel
theorem dX5_exploreFrom_86 : decode cX5_exploreFrom 86 = .ok (.iload_n 1, 1) := by decide +kernel
theorem dX5_exploreFrom_87 : decode cX5_exploreFrom 87 = .ok (.aload_n 0, 1) := by decide +kernel
theorem dX5_exploreFrom_88 : decode cX5_exploreFrom 88 = .ok (.getfield 49, 3) := by decide +kernel
theorem dX5_exploreFrom_91 : decode cX5_exploreFrom 91 = .ok (.invokestatic 320, 3) := by decide +kernel
theorem dX5_exploreFrom_94 : decode cX5_exploreFrom 94 = .ok (.aload_n 0, 1) := by decide +kernel
theorem dX5_exploreFrom_95 : decode cX5_exploreFrom 95 = .ok (.getfield 38, 3) := by decide +kernel
theorem dX5_exploreFrom_98 : decode cX5_exploreFrom 98 = .ok (.getfield 311, 3) := by decide +kernel
theorem dX5_exploreFrom_101 : decode cX5_exploreFrom 101 = .ok (.iload_n 2, 1) := by decide +kernel
theorem dX5_exploreFrom_102 : decode cX5_exploreFrom 102 = .ok (.iaload, 1) := by decide +kernel
theorem dX5_exploreFrom_103 : decode cX5_exploreFrom 103 = .ok (.invokevirtual 330, 3) := by decide +kernel
theorem dX5_exploreFrom_106 : decode cX5_exploreFrom 106 = .ok (.iinc 2 1, 3) := by decide +kernel
theorem dX5_exploreFrom_109 : decode cX5_exploreFrom 109 = .ok (.goto (-99), 3) := by decide +kernel
theorem dX5_exploreFrom_112 : decode cX5_exploreFrom 112 = .ok (.return_, 1) := by decide +kernel
set_option maxRecDepth 20000 in
theorem ggX5_firstFreeThreadOf_X5_isHeld : GoodIn wsX5_firstFreeThreadOf wsX5_isHeld := goodIn_r _ [9, 10, 11, 12, 8, 13, 1, 2, 3, 4, 34, 35, 36, 37, 38, 39, 40, 41, 42, 43, 44, 45, 46, 47, 48, 49, 50, 51, 52, 53] (by decide +kernel) (by decide +kernel)
set_option maxRecDepth 20000 in
theorem gX5_firstFreeThreadOf_X5_isHeld : GoodIn wsX5_firstFreeThreadOf (wsV RX5 208 RX5 yX5_isHeld wsX5_isHeld) := goodIn_app (goodIn_of _ (by decide +kernel)) ggX5_firstFreeThreadOf_X5_isHeld
set_option maxRecDepth 20000 in
theorem ggX5_firstFreeThreadOf_X5_isCrossedByStronger : GoodIn wsX5_firstFreeThreadOf wsX5_isCrossedByStronger := goodIn_r _ [17, 1, 2, 4, 18, 19, 20, 21, 22, 23, 24, 25, 26, 27, 28, 29, 30, 31, 32, 33, 34, 35, 36, 37, 38, 39, 40, 41, 42, 43, 44, 45, 46, 47, 48, 49, 50, 51, 52, 53] (by decide +kernel) (by decide +kernel)
set_option maxRecDepth 20000 in
theorem gX5_firstFreeThreadOf_X5_isCrossedByStronger : GoodIn wsX5_firstFreeThreadOf (wsV RX5 308 RX5 yX5_isCrossedByStronger wsX5_isCrossedByStronger) := goodIn_app (goodIn_of _ (by decide +kernel)) ggX5_firstFreeThreadOf_X5_isCrossedByStronger
theorem dX5_firstFreeThreadOf_0 : decode cX5_firstFreeThreadOf 0 = .ok (.aload_n 0, 1) := by decide +kernel
theorem dX5_firstFreeThreadOf_1 : decode cX5_firstFreeThreadOf 1 = .ok (.iload_n 1, 1) := by decide +kernel
theorem dX5_firstFreeThreadOf_2 : decode cX5_firstFreeThreadOf 2 = .ok (.invokevirtual 208, 3) := by decide +kernel
theorem dX5_firstFreeThreadOf_5 : decode cX5_firstFreeThreadOf 5 = .ok (.ifCond .eq 5, 3) := by decide +kernel
theorem dX5_firstFreeThreadOf_8 : decode cX5_firstFreeThreadOf 8 = .ok (.iconst (-1), 1) := by decide +kernel
theorem dX5_firstFreeThreadOf_9 : decode cX5_firstFreeThreadOf 9 = .ok (.ireturn, 1) := by decide +kernel
theorem dX5_firstFreeThreadOf_10 : decode cX5_firstFreeThreadOf 10 = .ok (.iconst 0, 1) := by decide +kernel
theorem dX5_firstFreeThreadOf_11 : decode cX5_firstFreeThreadOf 11 = .ok (.istore_n 2, 1) := by decide +kernel
theorem dX5_firstFreeThreadOf_12 : decode cX5_firstFreeThreadOf 12 = .ok (.iload_n 2, 1) := by decide +kernel
theorem dX5_firstFreeThreadOf_13 : decode cX5_firstFreeThreadOf 13 = .ok (.aload_n 0, 1) := by decide +kernel
theorem dX5_firstFreeThreadOf_14 : decode cX5_firstFreeThreadOf 14 = .ok (.getfield 133, 3) := by decide +kernel
theorem dX5_firstFreeThreadOf_17 : decode cX5_firstFreeThreadOf 17 = .ok (.if_icmp .ge 49, 3) := by decide +kernel
theorem dX5_firstFreeThreadOf_20 : decode cX5_firstFreeThreadOf 20 = .ok (.aload_n 0, 1) := by decide +kernel
theorem dX5_firstFreeThreadOf_21 : decode cX5_firstFreeThreadOf 21 = .ok (.getfield 31, 3) := by decide +kernel
theorem dX5_firstFreeThreadOf_24 : decode cX5_firstFreeThreadOf 24 = .ok (.iload_n 2, 1) := by decide +kernel
theorem dX5_firstFreeThreadOf_25 : decode cX5_firstFreeThreadOf 25 = .ok (.aaload, 1) := by decide +kernel
theorem dX5_firstFreeThreadOf_26 : decode cX5_firstFreeThreadOf 26 = .ok (.getfield 138, 3) := by decide +kernel
theorem dX5_firstFreeThreadOf_29 : decode cX5_firstFreeThreadOf 29 = .ok (.iload_n 1, 1) := by decide +kernel
theorem dX5_firstFreeThreadOf_30 : decode cX5_firstFreeThreadOf 30 = .ok (.if_icmp .ne 30, 3) := by decide +kernel
theorem dX5_firstFreeThreadOf_33 : decode cX5_firstFreeThreadOf 33 = .ok (.aload_n 0, 1) := by decide +kernel
theorem dX5_firstFreeThreadOf_34 : decode cX5_firstFreeThreadOf 34 = .ok (.getfield 31, 3) := by decide +kernel
theorem dX5_firstFreeThreadOf_37 : decode cX5_firstFreeThreadOf 37 = .ok (.iload_n 2, 1) := by decide +kernel
theorem dX5_firstFreeThreadOf_38 : decode cX5_firstFreeThreadOf 38 = .ok (.aaload, 1) := by decide +kernel
theorem dX5_firstFreeThreadOf_39 : decode cX5_firstFreeThreadOf 39 = .ok (.getfield 164, 3) := by decide +kernel
theorem dX5_firstFreeThreadOf_42 : decode cX5_firstFreeThreadOf 42 = .ok (.ifCond .ne 18, 3) := by decide +kernel
theorem dX5_firstFreeThreadOf_45 : decode cX5_firstFreeThreadOf 45 = .ok (.aload_n 0, 1) := by decide +kernel
theorem dX5_firstFreeThreadOf_46 : decode cX5_firstFreeThreadOf 46 = .ok (.aload_n 0, 1) := by decide +kernel
theorem dX5_firstFreeThreadOf_47 : decode cX5_firstFreeThreadOf 47 = .ok (.getfield 31, 3) := by decide +kernel
theorem dX5_firstFreeThreadOf_50 : decode cX5_firstFreeThreadOf 50 = .ok (.iload_n 2, 1) := by decide +kernel
theorem dX5_firstFreeThreadOf_51 : decode cX5_firstFreeThreadOf 51 = .ok (.aaload, 1) := by decide +kernel
theorem dX5_firstFreeThreadOf_52 : decode cX5_firstFreeThreadOf 52 = .ok (.invokevirtual 308, 3) := by decide +kernel
theorem dX5_firstFreeThreadOf_55 : decode cX5_firstFreeThreadOf 55 = .ok (.ifCond .ne 5, 3) := by decide +kernel
theorem dX5_firstFreeThreadOf_58 : decode cX5_firstFreeThreadOf 58 = .ok (.iload_n 2, 1) := by decide +kernel
theorem dX5_firstFreeThreadOf_59 : decode cX5_firstFreeThreadOf 59 = .ok (.ireturn, 1) := by decide +kernel
theorem dX5_firstFreeThreadOf_60 : decode cX5_firstFreeThreadOf 60 = .ok (.iinc 2 1, 3) := by decide +kernel
theorem dX5_firstFreeThreadOf_63 : decode cX5_firstFreeThreadOf 63 = .ok (.goto (-51), 3) := by decide +kernel
theorem dX5_firstFreeThreadOf_66 : decode cX5_firstFreeThreadOf 66 = .ok (.iconst (-1), 1) := by decide +kernel
theorem dX5_firstFreeThreadOf_67 : decode cX5_firstFreeThreadOf 67 = .ok (.ireturn, 1) := by decide +kernel
theorem dJ9_max_7cf53_0 : decode cJ9_max_7cf53 0 = .ok (.iload_n 0, 1) := by decide +kernel
theorem dJ9_max_7cf53_1 : decode cJ9_max_7cf53 1 = .ok (.iload_n 1, 1) := by decide +kernel
theorem dJ9_max_7cf53_2 : decode cJ9_max_7cf53 2 = .ok (.if_icmp .lt 7, 3) := by decide +kernel
theorem dJ9_max_7cf53_5 : decode cJ9_max_7cf53 5 = .ok (.iload_n 0, 1) := by decide +kernel
theorem dJ9_max_7cf53_6 : decode cJ9_max_7cf53 6 = .ok (.goto 4, 3) := by decide +kernel
theorem dJ9_max_7cf53_9 : decode cJ9_max_7cf53 9 = .ok (.iload_n 1, 1) := by decide +kernel
theorem dJ9_max_7cf53_10 : decode cJ9_max_7cf53 10 = .ok (.ireturn, 1) := by decide +kernel
theorem dJ9_min_7cf53_0 : decode cJ9_min_7cf53 0 = .ok (.iload_n 0, 1) := by decide +kernel
theorem dJ9_min_7cf53_1 : decode cJ9_min_7cf53 1 = .ok (.iload_n 1, 1) := by decide +kernel
theorem dJ9_min_7cf53_2 : decode cJ9_min_7cf53 2 = .ok (.if_icmp .gt 7, 3) := by decide +kernel
theorem dJ9_min_7cf53_5 : decode cJ9_min_7cf53 5 = .ok (.iload_n 0, 1) := by decide +kernel
theorem dJ9_min_7cf53_6 : decode cJ9_min_7cf53 6 = .ok (.goto 4, 3) := by decide +kernel
theorem dJ9_min_7cf53_9 : decode cJ9_min_7cf53 9 = .ok (.iload_n 1, 1) := by decide +kernel
theorem dJ9_min_7cf53_10 : decode cJ9_min_7cf53 10 = .ok (.ireturn, 1) := by decide +kernel
theorem dJ7_fill_53178_0 : decode cJ7_fill_53178 0 = .ok (.iconst 0, 1) := by decide +kernel
theorem dJ7_fill_53178_1 : decode cJ7_fill_53178 1 = .ok (.istore_n 2, 1) := by decide +kernel
theorem dJ7_fill_53178_2 : decode cJ7_fill_53178 2 = .ok (.aload_n 0, 1) := by decide +kernel
theorem dJ7_fill_53178_3 : decode cJ7_fill_53178 3 = .ok (.arraylength, 1) := by decide +kernel
theorem dJ7_fill_53178_4 : decode cJ7_fill_53178 4 = .ok (.istore_n 3, 1) := by decide +kernel
theorem dJ7_fill_53178_5 : decode cJ7_fill_53178 5 = .ok (.iload_n 2, 1) := by decide +kernel
theorem dJ7_fill_53178_6 : decode cJ7_fill_53178 6 = .ok (.iload_n 3, 1) := by decide +kernel
theorem dJ7_fill_53178_7 : decode cJ7_fill_53178 7 = .ok (.if_icmp .ge 13, 3) := by decide +kernel
theorem dJ7_fill_53178_10 : decode cJ7_fill_53178 10 = .ok (.aload_n 0, 1) := by decide +kernel
theorem dJ7_fill_53178_11 : decode cJ7_fill_53178 11 = .ok (.iload_n 2, 1) := by decide +kernel
theorem dJ7_fill_53178_12 : decode cJ7_fill_53178 12 = .ok (.iload_n 1, 1) := by decide +kernel
theorem dJ7_fill_53178_13 : decode cJ7_fill_53178 13 = .ok (.iastore, 1) := by decide +kernel
theorem dJ7_fill_53178_14 : decode cJ7_fill_53178 14 = .ok (.iinc 2 1, 3) := by decide +kernel
theorem dJ7_fill_53178_17 : decode cJ7_fill_53178 17 = .ok (.goto (-12), 3) := by decide +kernel
theorem dJ7_fill_53178_20 : decode cJ7_fill_53178 20 = .ok (.return_, 1) := by decide +kernel
theorem dL_below_0 : decode cL_below 0 = .ok (.iload_n 0, 1) := by decide +kernel
theorem dL_below_1 : decode cL_below 1 = .ok (.ldc 7, 2) := by decide +kernel
theorem dL_below_3 : decode cL_below 3 = .ok (.iand, 1) := by decide +kernel
theorem dL_below_4 : decode cL_below 4 = .ok (.iload_n 1, 1) := by decide +kernel
theorem dL_below_5 : decode cL_below 5 = .ok (.irem, 1) := by decide +kernel
theorem dL_below_6 : decode cL_below 6 = .ok (.ireturn, 1) := by decide +kernel
theorem dL_cell_0 : decode cL_cell 0 = .ok (.iload_n 1, 1) := by decide +kernel
theorem dL_cell_1 : decode cL_cell 1 = .ok (.aload_n 0, 1) := by decide +kernel
theorem dL_cell_2 : decode cL_cell 2 = .ok (.arraylength, 1) := by decide +kernel
theorem dL_cell_3 : decode cL_cell 3 = .ok (.if_icmp .ge 9, 3) := by decide +kernel
theorem dL_cell_6 : decode cL_cell 6 = .ok (.aload_n 0, 1) := by decide +kernel
theorem dL_cell_7 : decode cL_cell 7 = .ok (.iload_n 1, 1) := by decide +kernel
theorem dL_cell_8 : decode cL_cell 8 = .ok (.iaload, 1) := by decide +kernel
theorem dL_cell_9 : decode cL_cell 9 = .ok (.goto 9, 3) := by decide +kernel
theorem dL_cell_12 : decode cL_cell 12 = .ok (.ldc 8, 2) := by decide +kernel
theorem dL_cell_14 : decode cL_cell 14 = .ok (.iload_n 1, 1) := by decide +kernel
theorem dL_cell_15 : decode cL_cell 15 = .ok (.iconst 3, 1) := by decide +kernel
theorem dL_cell_16 : decode cL_cell 16 = .ok (.iadd, 1) := by decide +kernel
theorem dL_cell_17 : decode cL_cell 17 = .ok (.imul, 1) := by decide +kernel
theorem dL_cell_18 : decode cL_cell 18 = .ok (.ireturn, 1) := by decide +kernel
set_option maxRecDepth 20000 in
theorem ggL_ship_X5_init : GoodIn wsL_ship wsX5_init := goodIn_r _ [11, 12, 13, 14, 15, 16, 17, 18, 19, 20, 21, 22, 23, 24, 25, 26, 27, 28, 29, 30, 31, 32, 33, 34, 35, 36, 37, 38, 39, 40, 41, 42, 43, 44, 45, 46, 47, 48, 49, 50, 51, 52, 53, 54, 55, 56, 57, 58, 59, 60, 61, 62, 63, 64, 65, 66, 280, 281, 282, 283, 266, 267, 268, 269, 270, 271, 272, 273, 274, 275, 276, 277, 278, 279, 284, 285, 286, 287, 288, 289, 290, 291, 292, 293, 294, 295, 296, 297, 298, 299, 300, 301, 302] (by decide +kernel) (by decide +kernel)
set_option maxRecDepth 20000 in
theorem gL_ship_X5_init : GoodIn wsL_ship (wsX5_init) := ggL_ship_X5_init
set_option maxRecDepth 20000 in
theorem ggL_ship_L_cell : GoodIn wsL_ship wsL_cell := goodIn_r _ [70, 71] (by decide +kernel) (by decide +kernel)
set_option maxRecDepth 20000 in
theorem gL_ship_L_cell : GoodIn wsL_ship (va_wsS RL 12 yL_cell wsL_cell) := goodIn_app (goodIn_of _ (by decide +kernel)) ggL_ship_L_cell
set_option maxRecDepth 20000 in
theorem ggL_ship_L_below : GoodIn wsL_ship wsL_below := goodIn_r _ [74, 75] (by decide +kernel) (by decide +kernel)
set_option maxRecDepth 20000 in
theorem gL_ship_L_below : GoodIn wsL_ship (va_wsS RL 18 yL_below wsL_below) := goodIn_app (goodIn_of _ (by decide +kernel)) ggL_ship_L_below
set_option maxRecDepth 20000 in
theorem ggL_ship_X5_setBottle : GoodIn wsL_ship wsX5_setBottle := goodIn_ca (goodIn_ca (goodIn_r _ [79, 80, 81, 82, 83, 84, 18, 85, 86, 87, 88, 89, 90, 4, 91, 266, 267, 268, 269, 270, 271, 272, 273, 274, 275, 276, 277, 278, 279, 280, 281, 282, 283] (by decide +kernel) (by decide +kernel)) (goodIn_sub (fun _ h => List.mem_cons_of_mem _ (List.mem_append_left _ (List.mem_append_left _ (List.mem_append_right _ h)))) (by decide +kernel))) (goodIn_sub (fun _ h => List.mem_cons_of_mem _ (List.mem_append_left _ (List.mem_append_right _ h))) (by decide +kernel))
set_option maxRecDepth 20000 in
theorem gL_ship_X5_setBottle : GoodIn wsL_ship (wsV RL 22 RX5 yX5_setBottle wsX5_setBottle) := goodIn_app (goodIn_of _ (by decide +kernel)) ggL_ship_X5_setBottle
set_option maxRecDepth 20000 in
theorem ggL_ship_X5_setHull : GoodIn wsL_ship wsX5_setHull := goodIn_ca (goodIn_ca (goodIn_r _ [95, 80, 81, 82, 83, 96, 84, 22, 97, 98, 99, 89, 90, 4, 91, 266, 267, 268, 269, 270, 271, 272, 273, 274, 275, 276, 277, 278, 279, 284, 285, 286] (by decide +kernel) (by decide +kernel)) (goodIn_sub (fun _ h => List.mem_cons_of_mem _ (List.mem_append_left _ (List.mem_append_left _ (List.mem_append_right _ h)))) (by decide +kernel))) (goodIn_sub (fun _ h => List.mem_cons_of_mem _ (List.mem_append_left _ (List.mem_append_right _ h))) (by decide +kernel))
set_option maxRecDepth 20000 in
theorem gL_ship_X5_setHull : GoodIn wsL_ship (wsV RL 26 RX5 yX5_setHull wsX5_setHull) := goodIn_app (goodIn_of _ (by decide +kernel)) ggL_ship_X5_setHull
set_option maxRecDepth 20000 in
theorem ggL_ship_X5_step : GoodIn wsL_ship wsX5_step := goodIn_ca (goodIn_ca (goodIn_r _ [103, 80, 81, 82, 83, 22, 97, 84, 96, 24, 104, 105, 32, 89, 90, 4, 91, 106, 107, 108, 109, 266, 267, 268, 269, 270, 271, 272, 273, 274, 275, 276, 277, 278, 279, 284, 285, 286, 293, 294, 295, 296] (by decide +kernel) (by decide +kernel)) (goodIn_sub (fun _ h => List.mem_cons_of_mem _ (List.mem_append_left _ (List.mem_append_left _ (List.mem_append_right _ h)))) (by decide +kernel))) (goodIn_sub (fun _ h => List.mem_cons_of_mem _ (List.mem_append_left _ (List.mem_append_right _ h))) (by decide +kernel))
set_option maxRecDepth 20000 in
theorem gL_ship_X5_step : GoodIn wsL_ship (wsV RL 35 RX5 yX5_step wsX5_step) := goodIn_app (goodIn_of _ (by decide +kernel)) ggL_ship_X5_step
set_option maxRecDepth 20000 in
theorem ggL_ship_X5_count : GoodIn wsL_ship wsX5_count := goodIn_ca (goodIn_r _ [113, 114, 115, 116, 96, 117, 118, 119, 120, 121, 122, 4, 123, 32, 124, 125, 126, 127, 26, 128, 266, 267, 268, 269, 270, 271, 272, 273, 274, 275, 276, 277, 278, 279, 297, 298, 299, 300, 301, 302] (by decide +kernel) (by decide +kernel)) (goodIn_sub (fun _ h => List.mem_cons_of_mem _ (List.mem_append_right _ h)) (by decide +kernel))
set_option maxRecDepth 20000 in
theorem gL_ship_X5_count : GoodIn wsL_ship (wsV RL 40 RX5 yX5_count wsX5_count) := goodIn_app (goodIn_of _ (by decide +kernel)) ggL_ship_X5_count
set_option maxRecDepth 20000 in
theorem ggL_ship_X5_yard : GoodIn wsL_ship wsX5_yard := goodIn_ca (goodIn_ca (goodIn_ca (goodIn_r _ [132, 114, 115, 80, 81, 82, 83, 24, 84, 133, 134, 135, 136, 137, 4, 138, 96, 89, 90, 91, 266, 267, 268, 269, 270, 271, 272, 273, 274, 275, 276, 277, 278, 279, 293, 294, 295, 296] (by decide +kernel) (by decide +kernel)) (goodIn_sub (fun _ h => List.mem_cons_of_mem _ (List.mem_append_right _ h)) (by decide +kernel))) (goodIn_sub (fun _ h => List.mem_cons_of_mem _ (List.mem_append_left _ (List.mem_append_left _ (List.mem_append_right _ h)))) (by decide +kernel))) (goodIn_sub (fun _ h => List.mem_cons_of_mem _ (List.mem_append_left _ (List.mem_append_right _ h))) (by decide +kernel))
set_option maxRecDepth 20000 in
theorem gL_ship_X5_yard : GoodIn wsL_ship (wsV RL 44 RX5 yX5_yard wsX5_yard) := goodIn_app (goodIn_of _ (by decide +kernel)) ggL_ship_X5_yard
set_option maxRecDepth 20000 in
theorem ggL_ship_X5_lead : GoodIn wsL_ship wsX5_lead := goodIn_ca (goodIn_ca (goodIn_ca (goodIn_r _ [142, 114, 115, 80, 81, 82, 83, 117, 26, 143, 144, 145, 24, 104, 135, 136, 137, 4, 138, 96, 89, 90, 91, 146, 147, 148, 38, 149, 150, 6, 7, 8, 151, 152, 153, 154, 155, 266, 267, 268, 269, 270, 271, 272, 273, 274, 275, 276, 277, 278, 279, 297, 298, 299, 300, 301, 302, 293, 294, 295, 296] (by decide +kernel) (by decide +kernel)) (goodIn_sub (fun _ h => List.mem_cons_of_mem _ (List.mem_append_right _ h)) (by decide +kernel))) (goodIn_sub (fun _ h => List.mem_cons_of_mem _ (List.mem_append_left _ (List.mem_append_left _ (List.mem_append_right _ h)))) (by decide +kernel))) (goodIn_sub (fun _ h => List.mem_cons_of_mem _ (List.mem_append_left _ (List.mem_append_right _ h))) (by decide +kernel))
set_option maxRecDepth 20000 in
theorem gL_ship_X5_lead : GoodIn wsL_ship (wsV RL 47 RX5 yX5_lead wsX5_lead) := goodIn_app (goodIn_of _ (by decide +kernel)) ggL_ship_X5_lead
set_option maxRecDepth 20000 in
theorem ggL_ship_X5_enter : GoodIn wsL_ship wsX5_enter := goodIn_r _ [159, 84, 32, 160, 161, 162, 4, 163, 18, 85, 164, 165, 166, 167, 22, 99, 96, 24, 168, 153, 7, 154, 169, 170, 171, 36, 172, 173, 63, 174, 175, 176, 177, 178, 98, 179, 180, 181, 182, 183, 184, 185, 186, 187, 87, 88, 86, 188, 189, 190, 191, 97, 104, 192, 193, 194, 195, 266, 267, 268, 269, 270, 271, 272, 273, 274, 275, 276, 277, 278, 279, 280, 281, 282, 283, 284, 285, 286, 293, 294, 295, 296] (by decide +kernel) (by decide +kernel)
set_option maxRecDepth 20000 in
theorem gL_ship_X5_enter : GoodIn wsL_ship (wsV RL 50 RX5 yX5_enter wsX5_enter) := goodIn_app (goodIn_of _ (by decide +kernel)) ggL_ship_X5_enter
set_option maxRecDepth 20000 in
theorem ggL_ship_X5_thread : GoodIn wsL_ship wsX5_thread := goodIn_ca (goodIn_r _ [199, 114, 115, 26, 143, 144, 145, 128, 200, 201, 202, 4, 203, 117, 204, 205, 206, 207, 208, 209, 210, 38, 211, 212, 151, 152, 153, 7, 154, 155, 150, 6, 8, 266, 267, 268, 269, 270, 271, 272, 273, 274, 275, 276, 277, 278, 279, 297, 298, 299, 300, 301, 302] (by decide +kernel) (by decide +kernel)) (goodIn_sub (fun _ h => List.mem_cons_of_mem _ (List.mem_append_right _ h)) (by decide +kernel))
set_option maxRecDepth 20000 in
theorem gL_ship_X5_thread : GoodIn wsL_ship (wsV RL 54 RX5 yX5_thread wsX5_thread) := goodIn_app (goodIn_of _ (by decide +kernel)) ggL_ship_X5_thread
set_option maxRecDepth 20000 in
theorem ggL_ship_X5_pull : GoodIn wsL_ship wsX5_pull := goodIn_ca (goodIn_ca (goodIn_r _ [216, 114, 115, 82, 83, 26, 128, 119, 118, 143, 32, 34, 217, 218, 219, 220, 200, 201, 202, 4, 203, 117, 221, 222, 223, 224, 84, 225, 226, 227, 228, 229, 230, 231, 232, 233, 234, 235, 236, 145, 208, 209, 210, 38, 211, 212, 151, 152, 153, 7, 154, 155, 150, 6, 8, 237, 238, 239, 240, 144, 241, 242, 243, 184, 185, 186, 187, 18, 87, 88, 86, 188, 189, 190, 191, 22, 97, 96, 24, 104, 168, 192, 193, 194, 36, 195, 183, 175, 176, 177, 178, 98, 179, 180, 181, 182, 244, 245, 246, 247, 248, 266, 267, 268, 269, 270, 271, 272, 273, 274, 275, 276, 277, 278, 279, 297, 298, 299, 300, 301, 302, 280, 281, 282, 283, 284, 285, 286, 293, 294, 295, 296] (by decide +kernel) (by decide +kernel)) (goodIn_sub (fun _ h => List.mem_cons_of_mem _ (List.mem_append_right _ h)) (by decide +kernel))) (goodIn_sub (fun _ h => List.mem_cons_of_mem _ (List.mem_append_left _ (List.mem_append_right _ h))) (by decide +kernel))
set_option maxRecDepth 20000 in
theorem gL_ship_X5_pull : GoodIn wsL_ship (wsV RL 57 RX5 yX5_pull wsX5_pull) := goodIn_app (goodIn_of _ (by decide +kernel)) ggL_ship_X5_pull
set_option maxRecDepth 20000 in
theorem ggL_ship_X5_glue : GoodIn wsL_ship wsX5_glue := goodIn_ca (goodIn_ca (goodIn_r _ [252, 114, 115, 82, 83, 26, 128, 200, 201, 202, 4, 203, 117, 266, 267, 268, 269, 270, 271, 272, 273, 274, 275, 276, 277, 278, 279, 297, 298, 299, 300, 301, 302] (by decide +kernel) (by decide +kernel)) (goodIn_sub (fun _ h => List.mem_cons_of_mem _ (List.mem_append_right _ h)) (by decide +kernel))) (goodIn_sub (fun _ h => List.mem_cons_of_mem _ (List.mem_append_left _ (List.mem_append_right _ h))) (by decide +kernel))
set_option maxRecDepth 20000 in
theorem gL_ship_X5_glue : GoodIn wsL_ship (wsV RL 60 RX5 yX5_glue wsX5_glue) := goodIn_app (goodIn_of _ (by decide +kernel)) ggL_ship_X5_glue
set_option maxRecDepth 20000 in
theorem ggL_ship_X5_pass : GoodIn wsL_ship wsX5_pass := goodIn_ca (goodIn_r _ [256, 80, 81, 96, 32, 257, 6, 7, 8, 116, 89, 90, 4, 91, 120, 121, 122, 123, 258, 259, 260, 261, 24, 133, 225, 226, 227, 228, 229, 230, 231, 232, 117, 26, 143, 128, 262, 263, 264, 265, 266, 267, 268, 269, 270, 271, 272, 273, 274, 275, 276, 277, 278, 279, 293, 294, 295, 296, 297, 298, 299, 300, 301, 302] (by decide +kernel) (by decide +kernel)) (goodIn_sub (fun _ h => List.mem_cons_of_mem _ (List.mem_append_left _ (List.mem_append_left _ (List.mem_append_right _ h)))) (by decide +kernel))
set_option maxRecDepth 20000 in
theorem gL_ship_X5_pass : GoodIn wsL_ship (wsV RL 63 RX5 yX5_pass wsX5_pass) := goodIn_app (goodIn_of _ (by decide +kernel)) ggL_ship_X5_pass
theorem dL_ship_0 : decode cL_ship 0 = .ok (.new 9, 3) := by decide +kernel
theorem dL_ship_3 : decode cL_ship 3 = .ok (.dup, 1) := by decide +kernel
theorem dL_ship_4 : decode cL_ship 4 = .ok (.invokespecial 11, 3) := by decide +kernel
theorem dL_ship_7 : decode cL_ship 7 = .ok (.astore_n 1, 1) := by decide +kernel
theorem dL_ship_8 : decode cL_ship 8 = .ok (.aload_n 1, 1) := by decide +kernel
theorem dL_ship_9 : decode cL_ship 9 = .ok (.iconst 3, 1) := by decide +kernel
theorem dL_ship_10 : decode cL_ship 10 = .ok (.aload_n 0, 1) := by decide +kernel
theorem dL_ship_11 : decode cL_ship 11 = .ok (.iconst 0, 1) := by decide +kernel
theorem dL_ship_12 : decode cL_ship 12 = .ok (.invokestatic 12, 3) := by decide +kernel
theorem dL_ship_15 : decode cL_ship 15 = .ok (.bipush 18, 2) := by decide +kernel
theorem dL_ship_17 : decode cL_ship 17 = .ok (.invokestatic 18, 3) := by decide +kernel
theorem dL_ship_20 : decode cL_ship 20 = .ok (.iadd, 1) := by decide +kernel
theorem dL_ship_21 : decode cL_ship 21 = .ok (.iconst 5, 1) := by decide +kernel
theorem dL_ship_22 : decode cL_ship 22 = .ok (.aload_n 0, 1) := by decide +kernel
theorem dL_ship_23 : decode cL_ship 23 = .ok (.iconst 1, 1) := by decide +kernel
theorem dL_ship_24 : decode cL_ship 24 = .ok (.invokestatic 12, 3) := by decide +kernel
theorem dL_ship_27 : decode cL_ship 27 = .ok (.bipush 56, 2) := by decide +kernel
theorem dL_ship_29 : decode cL_ship 29 = .ok (.invokestatic 18, 3) := by decide +kernel
theorem dL_ship_32 : decode cL_ship 32 = .ok (.iadd, 1) := by decide +kernel
theorem dL_ship_33 : decode cL_ship 33 = .ok (.bipush 20, 2) := by decide +kernel
theorem dL_ship_35 : decode cL_ship 35 = .ok (.aload_n 0, 1) := by decide +kernel
theorem dL_ship_36 : decode cL_ship 36 = .ok (.iconst 2, 1) := by decide +kernel
theorem dL_ship_37 : decode cL_ship 37 = .ok (.invokestatic 12, 3) := by decide +kernel
theorem dL_ship_40 : decode cL_ship 40 = .ok (.bipush 71, 2) := by decide +kernel
theorem dL_ship_42 : decode cL_ship 42 = .ok (.invokestatic 18, 3) := by decide +kernel
theorem dL_ship_45 : decode cL_ship 45 = .ok (.iadd, 1) := by decide +kernel
theorem dL_ship_46 : decode cL_ship 46 = .ok (.aload_n 0, 1) := by decide +kernel
theorem dL_ship_47 : decode cL_ship 47 = .ok (.iconst 0, 1) := by decide +kernel
theorem dL_ship_48 : decode cL_ship 48 = .ok (.invokestatic 12, 3) := by decide +kernel
theorem dL_ship_51 : decode cL_ship 51 = .ok (.bipush 6, 2) := by decide +kernel
theorem dL_ship_53 : decode cL_ship 53 = .ok (.ishr, 1) := by decide +kernel
theorem dL_ship_54 : decode cL_ship 54 = .ok (.bipush 9, 2) := by decide +kernel
theorem dL_ship_56 : decode cL_ship 56 = .ok (.invokestatic 18, 3) := by decide +kernel
theorem dL_ship_59 : decode cL_ship 59 = .ok (.invokevirtual 22, 3) := by decide +kernel
theorem dL_ship_62 : decode cL_ship 62 = .ok (.pop, 1) := by decide +kernel
theorem dL_ship_63 : decode cL_ship 63 = .ok (.bipush 10, 2) := by decide +kernel
theorem dL_ship_65 : decode cL_ship 65 = .ok (.aload_n 0, 1) := by decide +kernel
theorem dL_ship_66 : decode cL_ship 66 = .ok (.iconst 3, 1) := by decide +kernel
theorem dL_ship_67 : decode cL_ship 67 = .ok (.invokestatic 12, 3) := by decide +kernel
theorem dL_ship_70 : decode cL_ship 70 = .ok (.bipush 50, 2) := by decide +kernel
theorem dL_ship_72 : decode cL_ship 72 = .ok (.invokestatic 18, 3) := by decide +kernel
theorem dL_ship_75 : decode cL_ship 75 = .ok (.iadd, 1) := by decide +kernel
theorem dL_ship_76 : decode cL_ship 76 = .ok (.istore_n 2, 1) := by decide +kernel
theorem dL_ship_77 : decode cL_ship 77 = .ok (.aload_n 1, 1) := by decide +kernel
theorem dL_ship_78 : decode cL_ship 78 = .ok (.iload_n 2, 1) := by decide +kernel
theorem dL_ship_79 : decode cL_ship 79 = .ok (.iconst 1, 1) := by decide +kernel
theorem dL_ship_80 : decode cL_ship 80 = .ok (.aload_n 0, 1) := by decide +kernel
theorem dL_ship_81 : decode cL_ship 81 = .ok (.iconst 3, 1) := by decide +kernel
theorem dL_ship_82 : decode cL_ship 82 = .ok (.invokestatic 12, 3) := by decide +kernel
theorem dL_ship_85 : decode cL_ship 85 = .ok (.bipush 6, 2) := by decide +kernel
theorem dL_ship_87 : decode cL_ship 87 = .ok (.ishr, 1) := by decide +kernel
theorem dL_ship_88 : decode cL_ship 88 = .ok (.bipush 8, 2) := by decide +kernel
theorem dL_ship_90 : decode cL_ship 90 = .ok (.invokestatic 18, 3) := by decide +kernel
theorem dL_ship_93 : decode cL_ship 93 = .ok (.iadd, 1) := by decide +kernel
theorem dL_ship_94 : decode cL_ship 94 = .ok (.iconst 1, 1) := by decide +kernel
theorem dL_ship_95 : decode cL_ship 95 = .ok (.aload_n 0, 1) := by decide +kernel
theorem dL_ship_96 : decode cL_ship 96 = .ok (.iconst 3, 1) := by decide +kernel
theorem dL_ship_97 : decode cL_ship 97 = .ok (.invokestatic 12, 3) := by decide +kernel
theorem dL_ship_100 : decode cL_ship 100 = .ok (.bipush 9, 2) := by decide +kernel
theorem dL_ship_102 : decode cL_ship 102 = .ok (.ishr, 1) := by decide +kernel
theorem dL_ship_103 : decode cL_ship 103 = .ok (.bipush 8, 2) := by decide +kernel
theorem dL_ship_105 : decode cL_ship 105 = .ok (.invokestatic 18, 3) := by decide +kernel
theorem dL_ship_108 : decode cL_ship 108 = .ok (.iadd, 1) := by decide +kernel
theorem dL_ship_109 : decode cL_ship 109 = .ok (.invokevirtual 26, 3) := by decide +kernel
theorem dL_ship_112 : decode cL_ship 112 = .ok (.pop, 1) := by decide +kernel
theorem dL_ship_113 : decode cL_ship 113 = .ok (.iconst 1, 1) := by decide +kernel
theorem dL_ship_114 : decode cL_ship 114 = .ok (.aload_n 0, 1) := by decide +kernel
theorem dL_ship_115 : decode cL_ship 115 = .ok (.iconst 4, 1) := by decide +kernel
theorem dL_ship_116 : decode cL_ship 116 = .ok (.invokestatic 12, 3) := by decide +kernel
theorem dL_ship_119 : decode cL_ship 119 = .ok (.iconst 4, 1) := by decide +kernel
theorem dL_ship_120 : decode cL_ship 120 = .ok (.invokestatic 18, 3) := by decide +kernel
theorem dL_ship_123 : decode cL_ship 123 = .ok (.iadd, 1) := by decide +kernel
theorem dL_ship_124 : decode cL_ship 124 = .ok (.istore_n 3, 1) := by decide +kernel
theorem dL_ship_125 : decode cL_ship 125 = .ok (.iconst 0, 1) := by decide +kernel
theorem dL_ship_126 : decode cL_ship 126 = .ok (.istore 4, 2) := by decide +kernel
theorem dL_ship_128 : decode cL_ship 128 = .ok (.iload 4, 2) := by decide +kernel
theorem dL_ship_130 : decode cL_ship 130 = .ok (.iconst 3, 1) := by decide +kernel
theorem dL_ship_131 : decode cL_ship 131 = .ok (.iload_n 3, 1) := by decide +kernel
theorem dL_ship_132 : decode cL_ship 132 = .ok (.invokestatic 30, 3) := by decide +kernel
theorem dL_ship_135 : decode cL_ship 135 = .ok (.if_icmp .ge 56, 3) := by decide +kernel
theorem dL_ship_138 : decode cL_ship 138 = .ok (.aload_n 0, 1) := by decide +kernel
theorem dL_ship_139 : decode cL_ship 139 = .ok (.iconst 4, 1) := by decide +kernel
theorem dL_ship_140 : decode cL_ship 140 = .ok (.invokestatic 12, 3) := by decide +kernel
theorem dL_ship_143 : decode cL_ship 143 = .ok (.iconst 3, 1) := by decide +kernel
theorem dL_ship_144 : decode cL_ship 144 = .ok (.bipush 8, 2) := by decide +kernel
theorem dL_ship_146 : decode cL_ship 146 = .ok (.iload 4, 2) := by decide +kernel
theorem dL_ship_148 : decode cL_ship 148 = .ok (.imul, 1) := by decide +kernel
theorem dL_ship_149 : decode cL_ship 149 = .ok (.iadd, 1) := by decide +kernel
theorem dL_ship_150 : decode cL_ship 150 = .ok (.ishr, 1) := by decide +kernel
theorem dL_ship_151 : decode cL_ship 151 = .ok (.istore 5, 2) := by decide +kernel
theorem dL_ship_153 : decode cL_ship 153 = .ok (.aload_n 1, 1) := by decide +kernel
theorem dL_ship_154 : decode cL_ship 154 = .ok (.iload 5, 2) := by decide +kernel
theorem dL_ship_156 : decode cL_ship 156 = .ok (.iload_n 2, 1) := by decide +kernel
theorem dL_ship_157 : decode cL_ship 157 = .ok (.iconst 1, 1) := by decide +kernel
theorem dL_ship_158 : decode cL_ship 158 = .ok (.iadd, 1) := by decide +kernel
theorem dL_ship_159 : decode cL_ship 159 = .ok (.invokestatic 18, 3) := by decide +kernel
theorem dL_ship_162 : decode cL_ship 162 = .ok (.iconst 1, 1) := by decide +kernel
theorem dL_ship_163 : decode cL_ship 163 = .ok (.iload 5, 2) := by decide +kernel
theorem dL_ship_165 : decode cL_ship 165 = .ok (.iconst 4, 1) := by decide +kernel
theorem dL_ship_166 : decode cL_ship 166 = .ok (.ishr, 1) := by decide +kernel
theorem dL_ship_167 : decode cL_ship 167 = .ok (.bipush 50, 2) := by decide +kernel
theorem dL_ship_169 : decode cL_ship 169 = .ok (.invokestatic 18, 3) := by decide +kernel
theorem dL_ship_172 : decode cL_ship 172 = .ok (.iadd, 1) := by decide +kernel
theorem dL_ship_173 : decode cL_ship 173 = .ok (.invokevirtual 35, 3) := by decide +kernel
theorem dL_ship_176 : decode cL_ship 176 = .ok (.pop, 1) := by decide +kernel
theorem dL_ship_177 : decode cL_ship 177 = .ok (.goto 8, 3) := by decide +kernel
theorem dL_ship_180 : decode cL_ship 180 = .ok (.astore 6, 2) := by decide +kernel
theorem dL_ship_182 : decode cL_ship 182 = .ok (.goto 3, 3) := by decide +kernel
theorem dL_ship_185 : decode cL_ship 185 = .ok (.iinc 4 1, 3) := by decide +kernel
theorem dL_ship_188 : decode cL_ship 188 = .ok (.goto (-60), 3) := by decide +kernel
theorem dL_ship_191 : decode cL_ship 191 = .ok (.aload_n 1, 1) := by decide +kernel
theorem dL_ship_192 : decode cL_ship 192 = .ok (.iconst 1, 1) := by decide +kernel
theorem dL_ship_193 : decode cL_ship 193 = .ok (.invokevirtual 40, 3) := by decide +kernel
theorem dL_ship_196 : decode cL_ship 196 = .ok (.istore_n 3, 1) := by decide +kernel
theorem dL_ship_197 : decode cL_ship 197 = .ok (.iconst 0, 1) := by decide +kernel
theorem dL_ship_198 : decode cL_ship 198 = .ok (.istore 4, 2) := by decide +kernel
theorem dL_ship_200 : decode cL_ship 200 = .ok (.iload 4, 2) := by decide +kernel
theorem dL_ship_202 : decode cL_ship 202 = .ok (.iload_n 3, 1) := by decide +kernel
theorem dL_ship_203 : decode cL_ship 203 = .ok (.if_icmp .ge 63, 3) := by decide +kernel
theorem dL_ship_206 : decode cL_ship 206 = .ok (.aload_n 0, 1) := by decide +kernel
theorem dL_ship_207 : decode cL_ship 207 = .ok (.iconst 5, 1) := by decide +kernel
theorem dL_ship_208 : decode cL_ship 208 = .ok (.invokestatic 12, 3) := by decide +kernel
theorem dL_ship_211 : decode cL_ship 211 = .ok (.iconst 4, 1) := by decide +kernel
theorem dL_ship_212 : decode cL_ship 212 = .ok (.iload 4, 2) := by decide +kernel
theorem dL_ship_214 : decode cL_ship 214 = .ok (.imul, 1) := by decide +kernel
theorem dL_ship_215 : decode cL_ship 215 = .ok (.ishr, 1) := by decide +kernel
theorem dL_ship_216 : decode cL_ship 216 = .ok (.iconst 4, 1) := by decide +kernel
theorem dL_ship_217 : decode cL_ship 217 = .ok (.invokestatic 18, 3) := by decide +kernel
theorem dL_ship_220 : decode cL_ship 220 = .ok (.istore 5, 2) := by decide +kernel
theorem dL_ship_222 : decode cL_ship 222 = .ok (.iload 5, 2) := by decide +kernel
theorem dL_ship_224 : decode cL_ship 224 = .ok (.ifCond .le 36, 3) := by decide +kernel
theorem dL_ship_227 : decode cL_ship 227 = .ok (.aload_n 1, 1) := by decide +kernel
theorem dL_ship_228 : decode cL_ship 228 = .ok (.iload 4, 2) := by decide +kernel
theorem dL_ship_230 : decode cL_ship 230 = .ok (.iconst 1, 1) := by decide +kernel
theorem dL_ship_231 : decode cL_ship 231 = .ok (.aload_n 0, 1) := by decide +kernel
theorem dL_ship_232 : decode cL_ship 232 = .ok (.iconst 5, 1) := by decide +kernel
theorem dL_ship_233 : decode cL_ship 233 = .ok (.invokestatic 12, 3) := by decide +kernel
theorem dL_ship_236 : decode cL_ship 236 = .ok (.iconst 4, 1) := by decide +kernel
theorem dL_ship_237 : decode cL_ship 237 = .ok (.iload 4, 2) := by decide +kernel
theorem dL_ship_239 : decode cL_ship 239 = .ok (.imul, 1) := by decide +kernel
theorem dL_ship_240 : decode cL_ship 240 = .ok (.iload 5, 2) := by decide +kernel
theorem dL_ship_242 : decode cL_ship 242 = .ok (.iadd, 1) := by decide +kernel
theorem dL_ship_243 : decode cL_ship 243 = .ok (.ishr, 1) := by decide +kernel
theorem dL_ship_244 : decode cL_ship 244 = .ok (.bipush 20, 2) := by decide +kernel
theorem dL_ship_246 : decode cL_ship 246 = .ok (.invokestatic 18, 3) := by decide +kernel
theorem dL_ship_249 : decode cL_ship 249 = .ok (.iadd, 1) := by decide +kernel
theorem dL_ship_250 : decode cL_ship 250 = .ok (.invokevirtual 44, 3) := by decide +kernel
theorem dL_ship_253 : decode cL_ship 253 = .ok (.pop, 1) := by decide +kernel
theorem dL_ship_254 : decode cL_ship 254 = .ok (.iinc 5 (-1), 3) := by decide +kernel
theorem dL_ship_257 : decode cL_ship 257 = .ok (.goto (-35), 3) := by decide +kernel
theorem dL_ship_260 : decode cL_ship 260 = .ok (.iinc 4 1, 3) := by decide +kernel
theorem dL_ship_263 : decode cL_ship 263 = .ok (.goto (-63), 3) := by decide +kernel
theorem dL_ship_266 : decode cL_ship 266 = .ok (.aload_n 0, 1) := by decide +kernel
theorem dL_ship_267 : decode cL_ship 267 = .ok (.bipush 6, 2) := by decide +kernel
theorem dL_ship_269 : decode cL_ship 269 = .ok (.invokestatic 12, 3) := by decide +kernel
theorem dL_ship_272 : decode cL_ship 272 = .ok (.bipush 9, 2) := by decide +kernel
theorem dL_ship_274 : decode cL_ship 274 = .ok (.invokestatic 18, 3) := by decide +kernel
theorem dL_ship_277 : decode cL_ship 277 = .ok (.istore 4, 2) := by decide +kernel
theorem dL_ship_279 : decode cL_ship 279 = .ok (.iconst 0, 1) := by decide +kernel
theorem dL_ship_280 : decode cL_ship 280 = .ok (.istore 5, 2) := by decide +kernel
theorem dL_ship_282 : decode cL_ship 282 = .ok (.iload 5, 2) := by decide +kernel
theorem dL_ship_284 : decode cL_ship 284 = .ok (.iload 4, 2) := by decide +kernel
theorem dL_ship_286 : decode cL_ship 286 = .ok (.if_icmp .ge 99, 3) := by decide +kernel
theorem dL_ship_289 : decode cL_ship 289 = .ok (.aload_n 0, 1) := by decide +kernel
theorem dL_ship_290 : decode cL_ship 290 = .ok (.bipush 7, 2) := by decide +kernel
theorem dL_ship_292 : decode cL_ship 292 = .ok (.iload 5, 2) := by decide +kernel
theorem dL_ship_294 : decode cL_ship 294 = .ok (.iconst 4, 1) := by decide +kernel
theorem dL_ship_295 : decode cL_ship 295 = .ok (.irem, 1) := by decide +kernel
theorem dL_ship_296 : decode cL_ship 296 = .ok (.iadd, 1) := by decide +kernel
theorem dL_ship_297 : decode cL_ship 297 = .ok (.invokestatic 12, 3) := by decide +kernel
theorem dL_ship_300 : decode cL_ship 300 = .ok (.iload 5, 2) := by decide +kernel
theorem dL_ship_302 : decode cL_ship 302 = .ok (.iconst 4, 1) := by decide +kernel
theorem dL_ship_303 : decode cL_ship 303 = .ok (.idiv, 1) := by decide +kernel
theorem dL_ship_304 : decode cL_ship 304 = .ok (.bipush 9, 2) := by decide +kernel
theorem dL_ship_306 : decode cL_ship 306 = .ok (.imul, 1) := by decide +kernel
theorem dL_ship_307 : decode cL_ship 307 = .ok (.ishr, 1) := by decide +kernel
theorem dL_ship_308 : decode cL_ship 308 = .ok (.istore 6, 2) := by decide +kernel
theorem dL_ship_310 : decode cL_ship 310 = .ok (.iload 6, 2) := by decide +kernel
theorem dL_ship_312 : decode cL_ship 312 = .ok (.iload_n 3, 1) := by decide +kernel
theorem dL_ship_313 : decode cL_ship 313 = .ok (.invokestatic 18, 3) := by decide +kernel
theorem dL_ship_316 : decode cL_ship 316 = .ok (.istore 7, 2) := by decide +kernel
theorem dL_ship_318 : decode cL_ship 318 = .ok (.iload 6, 2) := by decide +kernel
theorem dL_ship_320 : decode cL_ship 320 = .ok (.iconst 3, 1) := by decide +kernel
theorem dL_ship_321 : decode cL_ship 321 = .ok (.ishr, 1) := by decide +kernel
theorem dL_ship_322 : decode cL_ship 322 = .ok (.iload_n 3, 1) := by decide +kernel
theorem dL_ship_323 : decode cL_ship 323 = .ok (.iconst 1, 1) := by decide +kernel
theorem dL_ship_324 : decode cL_ship 324 = .ok (.iadd, 1) := by decide +kernel
theorem dL_ship_325 : decode cL_ship 325 = .ok (.invokestatic 18, 3) := by decide +kernel
theorem dL_ship_328 : decode cL_ship 328 = .ok (.iconst 1, 1) := by decide +kernel
theorem dL_ship_329 : decode cL_ship 329 = .ok (.isub, 1) := by decide +kernel
theorem dL_ship_330 : decode cL_ship 330 = .ok (.istore 8, 2) := by decide +kernel
theorem dL_ship_332 : decode cL_ship 332 = .ok (.aload_n 1, 1) := by decide +kernel
theorem dL_ship_333 : decode cL_ship 333 = .ok (.iload 7, 2) := by decide +kernel
theorem dL_ship_335 : decode cL_ship 335 = .ok (.iload 8, 2) := by decide +kernel
theorem dL_ship_337 : decode cL_ship 337 = .ok (.iload 7, 2) := by decide +kernel
theorem dL_ship_339 : decode cL_ship 339 = .ok (.if_icmp .ne 7, 3) := by decide +kernel
theorem dL_ship_342 : decode cL_ship 342 = .ok (.iconst (-1), 1) := by decide +kernel
theorem dL_ship_343 : decode cL_ship 343 = .ok (.goto 5, 3) := by decide +kernel
theorem dL_ship_346 : decode cL_ship 346 = .ok (.iload 8, 2) := by decide +kernel
theorem dL_ship_348 : decode cL_ship 348 = .ok (.iload 6, 2) := by decide +kernel
theorem dL_ship_350 : decode cL_ship 350 = .ok (.bipush 8, 2) := by decide +kernel
theorem dL_ship_352 : decode cL_ship 352 = .ok (.ishr, 1) := by decide +kernel
theorem dL_ship_353 : decode cL_ship 353 = .ok (.iconst 3, 1) := by decide +kernel
theorem dL_ship_354 : decode cL_ship 354 = .ok (.invokestatic 18, 3) := by decide +kernel
theorem dL_ship_357 : decode cL_ship 357 = .ok (.ifCond .ne 17, 3) := by decide +kernel
theorem dL_ship_360 : decode cL_ship 360 = .ok (.iconst 1, 1) := by decide +kernel
theorem dL_ship_361 : decode cL_ship 361 = .ok (.iload 6, 2) := by decide +kernel
theorem dL_ship_363 : decode cL_ship 363 = .ok (.iconst 5, 1) := by decide +kernel
theorem dL_ship_364 : decode cL_ship 364 = .ok (.ishr, 1) := by decide +kernel
theorem dL_ship_365 : decode cL_ship 365 = .ok (.bipush 9, 2) := by decide +kernel
theorem dL_ship_367 : decode cL_ship 367 = .ok (.invokestatic 18, 3) := by decide +kernel
theorem dL_ship_370 : decode cL_ship 370 = .ok (.iadd, 1) := by decide +kernel
theorem dL_ship_371 : decode cL_ship 371 = .ok (.goto 4, 3) := by decide +kernel
theorem dL_ship_374 : decode cL_ship 374 = .ok (.iconst 5, 1) := by decide +kernel
theorem dL_ship_375 : decode cL_ship 375 = .ok (.invokevirtual 47, 3) := by decide +kernel
theorem dL_ship_378 : decode cL_ship 378 = .ok (.pop, 1) := by decide +kernel
theorem dL_ship_379 : decode cL_ship 379 = .ok (.iinc 5 1, 3) := by decide +kernel
theorem dL_ship_382 : decode cL_ship 382 = .ok (.goto (-100), 3) := by decide +kernel
theorem dL_ship_385 : decode cL_ship 385 = .ok (.aload_n 0, 1) := by decide +kernel
theorem dL_ship_386 : decode cL_ship 386 = .ok (.bipush 11, 2) := by decide +kernel
theorem dL_ship_388 : decode cL_ship 388 = .ok (.invokestatic 12, 3) := by decide +kernel
theorem dL_ship_391 : decode cL_ship 391 = .ok (.iconst 3, 1) := by decide +kernel
theorem dL_ship_392 : decode cL_ship 392 = .ok (.invokestatic 18, 3) := by decide +kernel
theorem dL_ship_395 : decode cL_ship 395 = .ok (.ifCond .le 8, 3) := by decide +kernel
theorem dL_ship_398 : decode cL_ship 398 = .ok (.aload_n 1, 1) := by decide +kernel
theorem dL_ship_399 : decode cL_ship 399 = .ok (.invokevirtual 50, 3) := by decide +kernel
theorem dL_ship_402 : decode cL_ship 402 = .ok (.pop, 1) := by decide +kernel
theorem dL_ship_403 : decode cL_ship 403 = .ok (.aload_n 0, 1) := by decide +kernel
theorem dL_ship_404 : decode cL_ship 404 = .ok (.bipush 12, 2) := by decide +kernel
theorem dL_ship_406 : decode cL_ship 406 = .ok (.invokestatic 12, 3) := by decide +kernel
theorem dL_ship_409 : decode cL_ship 409 = .ok (.bipush 14, 2) := by decide +kernel
theorem dL_ship_411 : decode cL_ship 411 = .ok (.invokestatic 18, 3) := by decide +kernel
theorem dL_ship_414 : decode cL_ship 414 = .ok (.istore 5, 2) := by decide +kernel
theorem dL_ship_416 : decode cL_ship 416 = .ok (.iload 5, 2) := by decide +kernel
theorem dL_ship_418 : decode cL_ship 418 = .ok (.ifCond .le 56, 3) := by decide +kernel
theorem dL_ship_421 : decode cL_ship 421 = .ok (.iload 4, 2) := by decide +kernel
theorem dL_ship_423 : decode cL_ship 423 = .ok (.ifCond .le 51, 3) := by decide +kernel
theorem dL_ship_426 : decode cL_ship 426 = .ok (.aload_n 0, 1) := by decide +kernel
theorem dL_ship_427 : decode cL_ship 427 = .ok (.bipush 12, 2) := by decide +kernel
theorem dL_ship_429 : decode cL_ship 429 = .ok (.iload 5, 2) := by decide +kernel
theorem dL_ship_431 : decode cL_ship 431 = .ok (.iconst 3, 1) := by decide +kernel
theorem dL_ship_432 : decode cL_ship 432 = .ok (.irem, 1) := by decide +kernel
theorem dL_ship_433 : decode cL_ship 433 = .ok (.iadd, 1) := by decide +kernel
theorem dL_ship_434 : decode cL_ship 434 = .ok (.invokestatic 12, 3) := by decide +kernel
theorem dL_ship_437 : decode cL_ship 437 = .ok (.iload 5, 2) := by decide +kernel
theorem dL_ship_439 : decode cL_ship 439 = .ok (.ishr, 1) := by decide +kernel
theorem dL_ship_440 : decode cL_ship 440 = .ok (.istore 6, 2) := by decide +kernel
theorem dL_ship_442 : decode cL_ship 442 = .ok (.iload 6, 2) := by decide +kernel
theorem dL_ship_444 : decode cL_ship 444 = .ok (.iload 4, 2) := by decide +kernel
theorem dL_ship_446 : decode cL_ship 446 = .ok (.invokestatic 18, 3) := by decide +kernel
theorem dL_ship_449 : decode cL_ship 449 = .ok (.istore 7, 2) := by decide +kernel
theorem dL_ship_451 : decode cL_ship 451 = .ok (.aload_n 1, 1) := by decide +kernel
theorem dL_ship_452 : decode cL_ship 452 = .ok (.iload 7, 2) := by decide +kernel
theorem dL_ship_454 : decode cL_ship 454 = .ok (.iconst 3, 1) := by decide +kernel
theorem dL_ship_455 : decode cL_ship 455 = .ok (.invokevirtual 54, 3) := by decide +kernel
theorem dL_ship_458 : decode cL_ship 458 = .ok (.ifCond .ne 10, 3) := by decide +kernel
theorem dL_ship_461 : decode cL_ship 461 = .ok (.aload_n 1, 1) := by decide +kernel
theorem dL_ship_462 : decode cL_ship 462 = .ok (.iload 7, 2) := by decide +kernel
theorem dL_ship_464 : decode cL_ship 464 = .ok (.invokevirtual 57, 3) := by decide +kernel
theorem dL_ship_467 : decode cL_ship 467 = .ok (.pop, 1) := by decide +kernel
theorem dL_ship_468 : decode cL_ship 468 = .ok (.iinc 5 (-1), 3) := by decide +kernel
theorem dL_ship_471 : decode cL_ship 471 = .ok (.goto (-55), 3) := by decide +kernel
theorem dL_ship_474 : decode cL_ship 474 = .ok (.iconst 0, 1) := by decide +kernel
theorem dL_ship_475 : decode cL_ship 475 = .ok (.istore 5, 2) := by decide +kernel
theorem dL_ship_477 : decode cL_ship 477 = .ok (.iload 5, 2) := by decide +kernel
theorem dL_ship_479 : decode cL_ship 479 = .ok (.iload 4, 2) := by decide +kernel
theorem dL_ship_481 : decode cL_ship 481 = .ok (.if_icmp .ge 44, 3) := by decide +kernel
theorem dL_ship_484 : decode cL_ship 484 = .ok (.aload_n 1, 1) := by decide +kernel
theorem dL_ship_485 : decode cL_ship 485 = .ok (.iload 5, 2) := by decide +kernel
theorem dL_ship_487 : decode cL_ship 487 = .ok (.iconst 3, 1) := by decide +kernel
theorem dL_ship_488 : decode cL_ship 488 = .ok (.invokevirtual 54, 3) := by decide +kernel
theorem dL_ship_491 : decode cL_ship 491 = .ok (.ifCond .ne 28, 3) := by decide +kernel
theorem dL_ship_494 : decode cL_ship 494 = .ok (.aload_n 0, 1) := by decide +kernel
theorem dL_ship_495 : decode cL_ship 495 = .ok (.bipush 15, 2) := by decide +kernel
theorem dL_ship_497 : decode cL_ship 497 = .ok (.invokestatic 12, 3) := by decide +kernel
theorem dL_ship_500 : decode cL_ship 500 = .ok (.iconst 2, 1) := by decide +kernel
theorem dL_ship_501 : decode cL_ship 501 = .ok (.iload 5, 2) := by decide +kernel
theorem dL_ship_503 : decode cL_ship 503 = .ok (.imul, 1) := by decide +kernel
theorem dL_ship_504 : decode cL_ship 504 = .ok (.ishr, 1) := by decide +kernel
theorem dL_ship_505 : decode cL_ship 505 = .ok (.iconst 5, 1) := by decide +kernel
theorem dL_ship_506 : decode cL_ship 506 = .ok (.invokestatic 18, 3) := by decide +kernel
theorem dL_ship_509 : decode cL_ship 509 = .ok (.ifCond .ne 10, 3) := by decide +kernel
theorem dL_ship_512 : decode cL_ship 512 = .ok (.aload_n 1, 1) := by decide +kernel
theorem dL_ship_513 : decode cL_ship 513 = .ok (.iload 5, 2) := by decide +kernel
theorem dL_ship_515 : decode cL_ship 515 = .ok (.invokevirtual 60, 3) := by decide +kernel
theorem dL_ship_518 : decode cL_ship 518 = .ok (.pop, 1) := by decide +kernel
theorem dL_ship_519 : decode cL_ship 519 = .ok (.iinc 5 1, 3) := by decide +kernel
theorem dL_ship_522 : decode cL_ship 522 = .ok (.goto (-45), 3) := by decide +kernel
theorem dL_ship_525 : decode cL_ship 525 = .ok (.aload_n 0, 1) := by decide +kernel
theorem dL_ship_526 : decode cL_ship 526 = .ok (.bipush 11, 2) := by decide +kernel
theorem dL_ship_528 : decode cL_ship 528 = .ok (.invokestatic 12, 3) := by decide +kernel
theorem dL_ship_531 : decode cL_ship 531 = .ok (.iconst 4, 1) := by decide +kernel
theorem dL_ship_532 : decode cL_ship 532 = .ok (.ishr, 1) := by decide +kernel
theorem dL_ship_533 : decode cL_ship 533 = .ok (.iconst 4, 1) := by decide +kernel
theorem dL_ship_534 : decode cL_ship 534 = .ok (.invokestatic 18, 3) := by decide +kernel
theorem dL_ship_537 : decode cL_ship 537 = .ok (.ifCond .ne 23, 3) := by decide +kernel
theorem dL_ship_540 : decode cL_ship 540 = .ok (.aload_n 1, 1) := by decide +kernel
theorem dL_ship_541 : decode cL_ship 541 = .ok (.iconst 1, 1) := by decide +kernel
theorem dL_ship_542 : decode cL_ship 542 = .ok (.aload_n 0, 1) := by decide +kernel
theorem dL_ship_543 : decode cL_ship 543 = .ok (.bipush 11, 2) := by decide +kernel
theorem dL_ship_545 : decode cL_ship 545 = .ok (.invokestatic 12, 3) := by decide +kernel
theorem dL_ship_548 : decode cL_ship 548 = .ok (.bipush 6, 2) := by decide +kernel
theorem dL_ship_550 : decode cL_ship 550 = .ok (.ishr, 1) := by decide +kernel
theorem dL_ship_551 : decode cL_ship 551 = .ok (.iconst 5, 1) := by decide +kernel
theorem dL_ship_552 : decode cL_ship 552 = .ok (.invokestatic 18, 3) := by decide +kernel
theorem dL_ship_555 : decode cL_ship 555 = .ok (.iadd, 1) := by decide +kernel
theorem dL_ship_556 : decode cL_ship 556 = .ok (.invokevirtual 63, 3) := by decide +kernel
theorem dL_ship_559 : decode cL_ship 559 = .ok (.pop, 1) := by decide +kernel
theorem dL_ship_560 : decode cL_ship 560 = .ok (.aload_n 1, 1) := by decide +kernel
theorem dL_ship_561 : decode cL_ship 561 = .ok (.areturn, 1) := by decide +kernel
set_option maxRecDepth 20000 in
theorem ggL_law_L_ship_c0 : GoodIn wsL_law [.codeWith yL_ship cL_ship 9 (some (.object "BottleShip")) [(153, 177, 180, 38)]] := goodIn_r _ [8] (by decide +kernel) (by decide +kernel)
set_option maxRecDepth 20000 in
theorem ggL_law_L_ship_wsL_ship_r1 : GoodIn wsL_law wsL_ship_r1 := goodIn_r wsL_ship_r1 [9, 10, 11, 12, 13, 14, 2, 15, 16, 17, 18, 19, 20, 21, 22, 23, 24, 25, 26, 27, 28, 29, 30, 31] (by decide +kernel) (by decide +kernel)
set_option maxRecDepth 20000 in
theorem ggL_law_L_ship_wsL_ship_r2 : GoodIn wsL_law wsL_ship_r2 := goodIn_r wsL_ship_r2 [32, 33, 34, 35, 36, 37, 4, 38, 39, 40, 41, 42, 43, 44, 45, 46, 47, 48, 49, 50, 51, 52, 53, 54] (by decide +kernel) (by decide +kernel)
set_option maxRecDepth 20000 in
theorem ggL_law_L_ship_wsL_ship_r3 : GoodIn wsL_law wsL_ship_r3 := goodIn_r wsL_ship_r3 [55, 56, 57, 58, 59, 60, 61, 62, 63, 64, 65, 66, 67, 68, 69, 70, 71, 72, 73, 74, 7, 75, 76, 77] (by decide +kernel) (by decide +kernel)
set_option maxRecDepth 20000 in
theorem ggL_law_L_ship_wsL_ship_r4 : GoodIn wsL_law wsL_ship_r4 := goodIn_r wsL_ship_r4 [78, 79, 80, 81, 82, 83, 84, 85, 86, 87, 88, 89, 90, 91, 92, 93, 94, 95, 96, 97, 98, 99, 100, 101] (by decide +kernel) (by decide +kernel)
set_option maxRecDepth 20000 in
theorem ggL_law_L_ship_wsL_ship_r5 : GoodIn wsL_law wsL_ship_r5 := goodIn_r wsL_ship_r5 [102, 103, 104, 105, 106, 107, 108, 109, 110, 111, 112, 113, 114, 115, 116, 117, 118, 119, 120, 121, 122, 123, 124, 125] (by decide +kernel) (by decide +kernel)
set_option maxRecDepth 20000 in
theorem ggL_law_L_ship_wsL_ship_r6 : GoodIn wsL_law wsL_ship_r6 := goodIn_r wsL_ship_r6 [126, 127, 128, 129, 130, 131, 132, 133, 134, 135, 136, 137, 138, 139, 140, 141, 142, 143, 144, 145, 146, 147, 148, 149] (by decide +kernel) (by decide +kernel)
set_option maxRecDepth 20000 in
theorem ggL_law_L_ship_wsL_ship_r7 : GoodIn wsL_law wsL_ship_r7 := goodIn_r wsL_ship_r7 [150, 151, 152, 153, 154, 155, 156, 157, 1, 3, 158, 159, 160, 161, 162, 163, 164, 165, 166, 167, 168, 169, 170, 171] (by decide +kernel) (by decide +kernel)
set_option maxRecDepth 20000 in
theorem ggL_law_L_ship_wsL_ship_r8 : GoodIn wsL_law wsL_ship_r8 := goodIn_r wsL_ship_r8 [172, 173, 174, 175, 176, 177, 178, 179, 180, 181, 182, 183, 184, 185, 186, 187, 188, 189, 190, 191, 192, 193, 194, 195] (by decide +kernel) (by decide +kernel)
set_option maxRecDepth 20000 in
theorem ggL_law_L_ship_wsL_ship_r9 : GoodIn wsL_law wsL_ship_r9 := goodIn_r wsL_ship_r9 [196, 197, 198, 199, 200, 201, 202, 203, 204, 205, 206, 207, 208, 209, 210, 211, 212, 213, 214, 215, 216, 217, 218, 219] (by decide +kernel) (by decide +kernel)
set_option maxRecDepth 20000 in
theorem ggL_law_L_ship_wsL_ship_r10 : GoodIn wsL_law wsL_ship_r10 := goodIn_r wsL_ship_r10 [220, 221, 222, 223, 224, 225, 226, 227, 228, 229, 230, 231, 232, 233, 234, 235, 236, 237, 238, 239, 240, 241, 242, 243] (by decide +kernel) (by decide +kernel)
set_option maxRecDepth 20000 in
theorem ggL_law_L_ship_wsL_ship_r11 : GoodIn wsL_law wsL_ship_r11 := goodIn_r wsL_ship_r11 [244, 245, 246, 247, 248, 249, 250, 251, 252, 253, 254, 255, 256, 257, 258, 259, 260, 261, 262, 263, 264, 265, 266, 267] (by decide +kernel) (by decide +kernel)
set_option maxRecDepth 20000 in
theorem ggL_law_L_ship_wsL_ship_r12 : GoodIn wsL_law wsL_ship_r12 := goodIn_r wsL_ship_r12 [268] (by decide +kernel) (by decide +kernel)
set_option maxRecDepth 20000 in
theorem ggL_law_L_ship_wsX50 : GoodIn wsL_law wsX50 := goodIn_r wsX50 [371, 372, 373, 374, 375, 376, 377, 378, 379, 380, 381, 382, 383, 384] (by decide +kernel) (by decide +kernel)
set_option maxRecDepth 20000 in
theorem ggL_law_L_ship_wsX00 : GoodIn wsL_law wsX00 := goodIn_r wsX00 [385, 386, 387, 388] (by decide +kernel) (by decide +kernel)
set_option maxRecDepth 20000 in
theorem ggL_law_L_ship_wsX20 : GoodIn wsL_law wsX20 := goodIn_r wsX20 [389, 390, 391] (by decide +kernel) (by decide +kernel)
set_option maxRecDepth 20000 in
theorem ggL_law_L_ship_wsX40 : GoodIn wsL_law wsX40 := goodIn_r wsX40 [392, 393, 394, 395, 396, 397] (by decide +kernel) (by decide +kernel)
set_option maxRecDepth 20000 in
theorem ggL_law_L_ship_wsX30 : GoodIn wsL_law wsX30 := goodIn_r wsX30 [398, 399, 400, 401] (by decide +kernel) (by decide +kernel)
set_option maxRecDepth 20000 in
theorem ggL_law_L_ship_wsX10 : GoodIn wsL_law wsX10 := goodIn_r wsX10 [402, 403, 404, 405, 406, 407] (by decide +kernel) (by decide +kernel)
theorem goodIn_cons {big b : List Cond} {c : Cond} (hc : GoodIn big [c]) (hb : GoodIn big b) : GoodIn big (c :: b) := fun w h => (List.mem_cons.mp h).elim (fun e => hc w (List.mem_cons.mpr (Or.inl e))) (hb w)
set_option maxRecDepth 20000 in
theorem ggL_law_L_ship : GoodIn wsL_law wsL_ship := goodIn_ca (goodIn_ca (goodIn_ca (goodIn_cons ggL_law_L_ship_c0 (goodIn_app (goodIn_app (goodIn_app (goodIn_app (goodIn_app (goodIn_app (goodIn_app ggL_law_L_ship_wsL_ship_r1 (goodIn_app ggL_law_L_ship_wsL_ship_r2 (goodIn_app ggL_law_L_ship_wsL_ship_r3 (goodIn_app ggL_law_L_ship_wsL_ship_r4 (goodIn_app ggL_law_L_ship_wsL_ship_r5 (goodIn_app ggL_law_L_ship_wsL_ship_r6 (goodIn_app ggL_law_L_ship_wsL_ship_r7 (goodIn_app ggL_law_L_ship_wsL_ship_r8 (goodIn_app ggL_law_L_ship_wsL_ship_r9 (goodIn_app ggL_law_L_ship_wsL_ship_r10 (goodIn_app ggL_law_L_ship_wsL_ship_r11 (ggL_law_L_ship_wsL_ship_r12)))))))))))) ggL_law_L_ship_wsX50) ggL_law_L_ship_wsX00) ggL_law_L_ship_wsX20) ggL_law_L_ship_wsX40) ggL_law_L_ship_wsX30) ggL_law_L_ship_wsX10)) (goodIn_sub (fun _ h => List.mem_append_left _ (List.mem_append_left _ (List.mem_append_right _ h))) (by decide +kernel))) (goodIn_sub (fun _ h => List.mem_append_left _ (List.mem_append_right _ h)) (by decide +kernel))) (goodIn_sub (fun _ h => List.mem_append_right _ h) (by decide +kernel))
set_option maxRecDepth 20000 in
theorem gL_law_L_ship : GoodIn wsL_law (va_wsS RL 66 yL_ship wsL_ship) := goodIn_app (goodIn_of _ (by decide +kernel)) ggL_law_L_ship
set_option maxRecDepth 20000 in
theorem ggL_law_L_cell : GoodIn wsL_law wsL_cell := goodIn_r _ [75, 76] (by decide +kernel) (by decide +kernel)
set_option maxRecDepth 20000 in
theorem gL_law_L_cell : GoodIn wsL_law (va_wsS RL 12 yL_cell wsL_cell) := goodIn_app (goodIn_of _ (by decide +kernel)) ggL_law_L_cell
set_option maxRecDepth 20000 in
theorem ggL_law_X5_count : GoodIn wsL_law wsX5_count := goodIn_ca (goodIn_r _ [118, 119, 120, 121, 101, 122, 123, 124, 125, 126, 127, 12, 128, 38, 129, 130, 131, 132, 33, 133, 371, 372, 373, 374, 375, 376, 377, 378, 379, 380, 381, 382, 383, 384, 402, 403, 404, 405, 406, 407] (by decide +kernel) (by decide +kernel)) (goodIn_sub (fun _ h => List.mem_append_right _ h) (by decide +kernel))
set_option maxRecDepth 20000 in
theorem gL_law_X5_count : GoodIn wsL_law (wsV RL 40 RX5 yX5_count wsX5_count) := goodIn_app (goodIn_of _ (by decide +kernel)) ggL_law_X5_count
set_option maxRecDepth 20000 in
theorem ggL_law_L_below : GoodIn wsL_law wsL_below := goodIn_r _ [79, 80] (by decide +kernel) (by decide +kernel)
set_option maxRecDepth 20000 in
theorem gL_law_L_below : GoodIn wsL_law (va_wsS RL 18 yL_below wsL_below) := goodIn_app (goodIn_of _ (by decide +kernel)) ggL_law_L_below
set_option maxRecDepth 20000 in
theorem ggL_law_X5_digest : GoodIn wsL_law wsX5_digest := goodIn_ca (goodIn_r _ [272, 273, 274, 29, 25, 101, 31, 122, 275, 116, 117, 12, 118, 119, 120, 121, 123, 124, 125, 126, 127, 128, 38, 129, 130, 131, 132, 33, 133, 276, 277, 278, 279, 89, 167, 168, 169, 170, 104, 171, 1, 2, 3, 172, 173, 174, 42, 175, 176, 69, 177, 178, 179, 180, 181, 103, 182, 183, 184, 185, 186, 191, 192, 193, 194, 102, 109, 195, 196, 197, 198, 163, 164, 165, 166, 90, 187, 188, 189, 190, 92, 93, 91, 280, 281, 282, 24, 283, 284, 48, 49, 50, 51, 285, 286, 287, 28, 288, 289, 55, 56, 57, 290, 291, 292, 293, 110, 138, 140, 141, 142, 143, 228, 229, 230, 231, 232, 233, 234, 235, 148, 265, 266, 267, 268, 294, 295, 296, 297, 298, 299, 200, 201, 202, 149, 150, 203, 204, 205, 206, 207, 208, 209, 210, 211, 212, 213, 44, 214, 215, 156, 157, 158, 155, 14, 15, 371, 372, 373, 374, 375, 376, 377, 378, 379, 380, 381, 382, 383, 384, 402, 403, 404, 405, 406, 407, 389, 390, 391, 398, 399, 400, 401, 385, 386, 387, 388] (by decide +kernel) (by decide +kernel)) (goodIn_sub (fun _ h => List.mem_append_right _ h) (by decide +kernel))
set_option maxRecDepth 20000 in
theorem gL_law_X5_digest : GoodIn wsL_law (wsV RL 73 RX5 yX5_digest wsX5_digest) := goodIn_app (goodIn_of _ (by decide +kernel)) ggL_law_X5_digest
set_option maxRecDepth 20000 in
theorem ggL_law_X5_fewest : GoodIn wsL_law wsX5_fewest := goodIn_r _ [303, 37, 304, 305, 306, 307, 12, 308, 101, 309, 310, 38, 311, 312, 313, 314, 315, 316, 122, 33, 148, 133, 228, 229, 230, 231, 232, 233, 234, 235, 236, 237, 238, 239, 150, 211, 212, 213, 44, 214, 215, 156, 157, 1, 2, 3, 158, 155, 14, 15, 240, 241, 242, 243, 149, 317, 318, 36, 319, 320, 321, 322, 323, 64, 65, 324, 63, 325, 326, 327, 328, 329, 330, 331, 332, 333, 334, 335, 39, 40, 89, 336, 337, 338, 244, 245, 246, 187, 188, 189, 190, 25, 92, 93, 91, 191, 192, 193, 194, 29, 102, 31, 109, 171, 195, 196, 197, 42, 198, 186, 178, 179, 180, 181, 103, 182, 183, 184, 185, 339, 340, 341, 342, 343, 371, 372, 373, 374, 375, 376, 377, 378, 379, 380, 381, 382, 383, 384, 392, 393, 394, 395, 396, 397, 402, 403, 404, 405, 406, 407, 385, 386, 387, 388, 389, 390, 391, 398, 399, 400, 401] (by decide +kernel) (by decide +kernel)
set_option maxRecDepth 20000 in
theorem gL_law_X5_fewest : GoodIn wsL_law (wsV RL 77 RX5 yX5_fewest wsX5_fewest) := goodIn_app (goodIn_of _ (by decide +kernel)) ggL_law_X5_fewest
set_option maxRecDepth 20000 in
theorem ggL_law_X5_first : GoodIn wsL_law wsX5_first := goodIn_r _ [347, 37, 348, 305, 306, 307, 12, 308, 101, 309, 310, 38, 311, 312, 313, 314, 315, 316, 122, 33, 148, 133, 228, 229, 230, 231, 232, 233, 234, 235, 236, 237, 238, 239, 150, 211, 212, 213, 44, 214, 215, 156, 157, 1, 2, 3, 158, 155, 14, 15, 240, 241, 242, 243, 149, 317, 318, 36, 319, 320, 321, 322, 323, 64, 65, 324, 63, 325, 326, 327, 328, 329, 330, 331, 332, 333, 334, 335, 39, 40, 89, 336, 337, 338, 244, 245, 246, 187, 188, 189, 190, 25, 92, 93, 91, 191, 192, 193, 194, 29, 102, 31, 109, 171, 195, 196, 197, 42, 198, 186, 178, 179, 180, 181, 103, 182, 183, 184, 185, 339, 340, 341, 342, 343, 371, 372, 373, 374, 375, 376, 377, 378, 379, 380, 381, 382, 383, 384, 392, 393, 394, 395, 396, 397, 402, 403, 404, 405, 406, 407, 385, 386, 387, 388, 389, 390, 391, 398, 399, 400, 401] (by decide +kernel) (by decide +kernel)
set_option maxRecDepth 20000 in
theorem gL_law_X5_first : GoodIn wsL_law (wsV RL 81 RX5 yX5_first wsX5_first) := goodIn_app (goodIn_of _ (by decide +kernel)) ggL_law_X5_first
set_option maxRecDepth 20000 in
theorem ggL_law_X5_falls : GoodIn wsL_law wsX5_falls := goodIn_r _ [352, 101, 171, 1, 2, 3, 353, 354, 355, 12, 356, 38, 261, 262, 263, 264, 31, 138, 228, 229, 230, 231, 232, 233, 234, 235, 122, 33, 148, 133, 265, 266, 267, 268, 371, 372, 373, 374, 375, 376, 377, 378, 379, 380, 381, 382, 383, 384, 398, 399, 400, 401, 402, 403, 404, 405, 406, 407] (by decide +kernel) (by decide +kernel)
set_option maxRecDepth 20000 in
theorem gL_law_X5_falls : GoodIn wsL_law (wsV RL 84 RX5 yX5_falls wsX5_falls) := goodIn_app (goodIn_of _ (by decide +kernel)) ggL_law_X5_falls
set_option maxRecDepth 20000 in
theorem ggL_law_X5_mast : GoodIn wsL_law wsX5_mast := goodIn_ca (goodIn_r _ [293, 119, 120, 31, 109, 110, 38, 138, 140, 141, 142, 12, 143, 101, 182, 183, 184, 42, 185, 186, 195, 196, 197, 198, 228, 229, 230, 231, 232, 233, 234, 235, 122, 33, 148, 133, 265, 266, 267, 268, 371, 372, 373, 374, 375, 376, 377, 378, 379, 380, 381, 382, 383, 384, 398, 399, 400, 401, 402, 403, 404, 405, 406, 407] (by decide +kernel) (by decide +kernel)) (goodIn_sub (fun _ h => List.mem_append_right _ h) (by decide +kernel))
set_option maxRecDepth 20000 in
theorem gL_law_X5_mast : GoodIn wsL_law (wsV RL 87 RX5 yX5_mast wsX5_mast) := goodIn_app (goodIn_of _ (by decide +kernel)) ggL_law_X5_mast
set_option maxRecDepth 20000 in
theorem ggL_law_X5_least : GoodIn wsL_law wsX5_least := goodIn_ca (goodIn_r _ [361, 119, 120, 38, 37, 311, 312, 40, 260, 14, 2, 15, 140, 141, 142, 12, 143, 101, 305, 306, 307, 308, 309, 310, 313, 314, 315, 316, 122, 33, 148, 133, 228, 229, 230, 231, 232, 233, 234, 235, 236, 237, 238, 239, 150, 211, 212, 213, 44, 214, 215, 156, 157, 1, 3, 158, 155, 240, 241, 242, 243, 149, 317, 318, 36, 319, 320, 321, 322, 323, 64, 65, 324, 63, 325, 326, 327, 328, 329, 330, 331, 332, 333, 334, 335, 39, 89, 336, 337, 338, 244, 245, 246, 187, 188, 189, 190, 25, 92, 93, 91, 191, 192, 193, 194, 29, 102, 31, 109, 171, 195, 196, 197, 42, 198, 186, 178, 179, 180, 181, 103, 182, 183, 184, 185, 339, 340, 341, 342, 343, 371, 372, 373, 374, 375, 376, 377, 378, 379, 380, 381, 382, 383, 384, 392, 393, 394, 395, 396, 397, 402, 403, 404, 405, 406, 407, 385, 386, 387, 388, 389, 390, 391, 398, 399, 400, 401] (by decide +kernel) (by decide +kernel)) (goodIn_sub (fun _ h => List.mem_append_right _ h) (by decide +kernel))
set_option maxRecDepth 20000 in
theorem gL_law_X5_least : GoodIn wsL_law (wsV RL 90 RX5 yX5_least wsX5_least) := goodIn_app (goodIn_of _ (by decide +kernel)) ggL_law_X5_least
set_option maxRecDepth 20000 in
theorem ggL_law_X5_thread : GoodIn wsL_law wsX5_thread := goodIn_ca (goodIn_r _ [202, 119, 120, 33, 148, 149, 150, 133, 203, 204, 205, 12, 206, 122, 207, 208, 209, 210, 211, 212, 213, 44, 214, 215, 156, 157, 1, 2, 3, 158, 155, 14, 15, 371, 372, 373, 374, 375, 376, 377, 378, 379, 380, 381, 382, 383, 384, 402, 403, 404, 405, 406, 407] (by decide +kernel) (by decide +kernel)) (goodIn_sub (fun _ h => List.mem_append_right _ h) (by decide +kernel))
set_option maxRecDepth 20000 in
theorem gL_law_X5_thread : GoodIn wsL_law (wsV RL 54 RX5 yX5_thread wsX5_thread) := goodIn_app (goodIn_of _ (by decide +kernel)) ggL_law_X5_thread
set_option maxRecDepth 20000 in
theorem ggL_law_X5_cross : GoodIn wsL_law wsX5_cross := goodIn_ca (goodIn_r _ [365, 119, 120, 33, 203, 204, 205, 12, 206, 122, 211, 212, 213, 44, 214, 215, 156, 157, 1, 2, 3, 158, 155, 14, 15, 371, 372, 373, 374, 375, 376, 377, 378, 379, 380, 381, 382, 383, 384, 402, 403, 404, 405, 406, 407] (by decide +kernel) (by decide +kernel)) (goodIn_sub (fun _ h => List.mem_append_right _ h) (by decide +kernel))
set_option maxRecDepth 20000 in
theorem gL_law_X5_cross : GoodIn wsL_law (wsV RL 93 RX5 yX5_cross wsX5_cross) := goodIn_app (goodIn_of _ (by decide +kernel)) ggL_law_X5_cross
set_option maxRecDepth 20000 in
theorem ggL_law_X5_ship : GoodIn wsL_law wsX5_ship := goodIn_ca (goodIn_r _ [279, 119, 120, 38, 89, 167, 168, 169, 12, 170, 29, 104, 101, 31, 171, 1, 2, 3, 172, 173, 174, 42, 175, 176, 69, 177, 178, 179, 180, 181, 103, 182, 183, 184, 185, 186, 191, 192, 193, 194, 102, 109, 195, 196, 197, 198, 163, 164, 165, 166, 25, 90, 187, 188, 189, 190, 92, 93, 91, 371, 372, 373, 374, 375, 376, 377, 378, 379, 380, 381, 382, 383, 384, 389, 390, 391, 398, 399, 400, 401, 385, 386, 387, 388] (by decide +kernel) (by decide +kernel)) (goodIn_sub (fun _ h => List.mem_append_right _ h) (by decide +kernel))
set_option maxRecDepth 20000 in
theorem gL_law_X5_ship : GoodIn wsL_law (wsV RL 97 RX5 yX5_ship wsX5_ship) := goodIn_app (goodIn_of _ (by decide +kernel)) ggL_law_X5_ship
set_option maxRecDepth 20000 in
theorem ggL_law_X5_pull : GoodIn wsL_law wsX5_pull := goodIn_ca (goodIn_ca (goodIn_r _ [219, 119, 120, 87, 88, 33, 133, 124, 123, 148, 38, 40, 220, 221, 222, 223, 203, 204, 205, 12, 206, 122, 224, 225, 226, 227, 89, 228, 229, 230, 231, 232, 233, 234, 235, 236, 237, 238, 239, 150, 211, 212, 213, 44, 214, 215, 156, 157, 1, 2, 3, 158, 155, 14, 15, 240, 241, 242, 243, 149, 244, 245, 246, 187, 188, 189, 190, 25, 92, 93, 91, 191, 192, 193, 194, 29, 102, 101, 31, 109, 171, 195, 196, 197, 42, 198, 186, 178, 179, 180, 181, 103, 182, 183, 184, 185, 247, 248, 249, 250, 251, 371, 372, 373, 374, 375, 376, 377, 378, 379, 380, 381, 382, 383, 384, 402, 403, 404, 405, 406, 407, 385, 386, 387, 388, 389, 390, 391, 398, 399, 400, 401] (by decide +kernel) (by decide +kernel)) (goodIn_sub (fun _ h => List.mem_append_right _ h) (by decide +kernel))) (goodIn_sub (fun _ h => List.mem_append_left _ (List.mem_append_right _ h)) (by decide +kernel))
set_option maxRecDepth 20000 in
theorem gL_law_X5_pull : GoodIn wsL_law (wsV RL 57 RX5 yX5_pull wsX5_pull) := goodIn_app (goodIn_of _ (by decide +kernel)) ggL_law_X5_pull
set_option maxRecDepth 20000 in
theorem ggL_law_X5_glue : GoodIn wsL_law wsX5_glue := goodIn_ca (goodIn_ca (goodIn_r _ [255, 119, 120, 87, 88, 33, 133, 203, 204, 205, 12, 206, 122, 371, 372, 373, 374, 375, 376, 377, 378, 379, 380, 381, 382, 383, 384, 402, 403, 404, 405, 406, 407] (by decide +kernel) (by decide +kernel)) (goodIn_sub (fun _ h => List.mem_append_right _ h) (by decide +kernel))) (goodIn_sub (fun _ h => List.mem_append_left _ (List.mem_append_right _ h)) (by decide +kernel))
set_option maxRecDepth 20000 in
theorem gL_law_X5_glue : GoodIn wsL_law (wsV RL 60 RX5 yX5_glue wsX5_glue) := goodIn_app (goodIn_of _ (by decide +kernel)) ggL_law_X5_glue
set_option maxRecDepth 20000 in
theorem ggL_law_X5_enter : GoodIn wsL_law wsX5_enter := goodIn_r _ [162, 89, 38, 163, 164, 165, 12, 166, 25, 90, 167, 168, 169, 170, 29, 104, 101, 31, 171, 1, 2, 3, 172, 173, 174, 42, 175, 176, 69, 177, 178, 179, 180, 181, 103, 182, 183, 184, 185, 186, 187, 188, 189, 190, 92, 93, 91, 191, 192, 193, 194, 102, 109, 195, 196, 197, 198, 371, 372, 373, 374, 375, 376, 377, 378, 379, 380, 381, 382, 383, 384, 385, 386, 387, 388, 389, 390, 391, 398, 399, 400, 401] (by decide +kernel) (by decide +kernel)
set_option maxRecDepth 20000 in
theorem gL_law_X5_enter : GoodIn wsL_law (wsV RL 50 RX5 yX5_enter wsX5_enter) := goodIn_app (goodIn_of _ (by decide +kernel)) ggL_law_X5_enter
set_option maxRecDepth 20000 in
theorem ggL_law_X5_leave : GoodIn wsL_law wsX5_leave := goodIn_r _ [370, 89, 163, 164, 165, 12, 166, 25, 90, 38, 167, 168, 169, 170, 29, 104, 101, 31, 171, 1, 2, 3, 172, 173, 174, 42, 175, 176, 69, 177, 178, 179, 180, 181, 103, 182, 183, 184, 185, 186, 371, 372, 373, 374, 375, 376, 377, 378, 379, 380, 381, 382, 383, 384, 385, 386, 387, 388, 389, 390, 391, 398, 399, 400, 401] (by decide +kernel) (by decide +kernel)
set_option maxRecDepth 20000 in
theorem gL_law_X5_leave : GoodIn wsL_law (wsV RL 99 RX5 yX5_leave wsX5_leave) := goodIn_app (goodIn_of _ (by decide +kernel)) ggL_law_X5_leave
set_option maxRecDepth 20000 in
theorem ggL_law_X5_pass : GoodIn wsL_law wsX5_pass := goodIn_ca (goodIn_r _ [259, 85, 86, 101, 38, 260, 14, 2, 15, 121, 94, 95, 12, 96, 125, 126, 127, 128, 261, 262, 263, 264, 31, 138, 228, 229, 230, 231, 232, 233, 234, 235, 122, 33, 148, 133, 265, 266, 267, 268, 371, 372, 373, 374, 375, 376, 377, 378, 379, 380, 381, 382, 383, 384, 398, 399, 400, 401, 402, 403, 404, 405, 406, 407] (by decide +kernel) (by decide +kernel)) (goodIn_sub (fun _ h => List.mem_append_left _ (List.mem_append_left _ (List.mem_append_right _ h))) (by decide +kernel))
set_option maxRecDepth 20000 in
theorem gL_law_X5_pass : GoodIn wsL_law (wsV RL 63 RX5 yX5_pass wsX5_pass) := goodIn_app (goodIn_of _ (by decide +kernel)) ggL_law_X5_pass
theorem dL_law_0 : decode cL_law 0 = .ok (.aload_n 0, 1) := by decide +kernel
theorem dL_law_1 : decode cL_law 1 = .ok (.invokestatic 66, 3) := by decide +kernel
theorem dL_law_4 : decode cL_law 4 = .ok (.astore_n 1, 1) := by decide +kernel
theorem dL_law_5 : decode cL_law 5 = .ok (.iconst 0, 1) := by decide +kernel
theorem dL_law_6 : decode cL_law 6 = .ok (.istore_n 2, 1) := by decide +kernel
theorem dL_law_7 : decode cL_law 7 = .ok (.iload_n 2, 1) := by decide +kernel
theorem dL_law_8 : decode cL_law 8 = .ok (.bipush 40, 2) := by decide +kernel
theorem dL_law_10 : decode cL_law 10 = .ok (.if_icmp .ge 1276, 3) := by decide +kernel
theorem dL_law_13 : decode cL_law 13 = .ok (.aload_n 0, 1) := by decide +kernel
theorem dL_law_14 : decode cL_law 14 = .ok (.iload_n 2, 1) := by decide +kernel
theorem dL_law_15 : decode cL_law 15 = .ok (.bipush 16, 2) := by decide +kernel
theorem dL_law_17 : decode cL_law 17 = .ok (.irem, 1) := by decide +kernel
theorem dL_law_18 : decode cL_law 18 = .ok (.invokestatic 12, 3) := by decide +kernel
theorem dL_law_21 : decode cL_law 21 = .ok (.iload_n 2, 1) := by decide +kernel
theorem dL_law_22 : decode cL_law 22 = .ok (.bipush 16, 2) := by decide +kernel
theorem dL_law_24 : decode cL_law 24 = .ok (.idiv, 1) := by decide +kernel
theorem dL_law_25 : decode cL_law 25 = .ok (.bipush 6, 2) := by decide +kernel
theorem dL_law_27 : decode cL_law 27 = .ok (.imul, 1) := by decide +kernel
theorem dL_law_28 : decode cL_law 28 = .ok (.ishr, 1) := by decide +kernel
theorem dL_law_29 : decode cL_law 29 = .ok (.istore_n 3, 1) := by decide +kernel
theorem dL_law_30 : decode cL_law 30 = .ok (.aload_n 1, 1) := by decide +kernel
theorem dL_law_31 : decode cL_law 31 = .ok (.iconst 1, 1) := by decide +kernel
theorem dL_law_32 : decode cL_law 32 = .ok (.invokevirtual 40, 3) := by decide +kernel
theorem dL_law_35 : decode cL_law 35 = .ok (.istore 4, 2) := by decide +kernel
theorem dL_law_37 : decode cL_law 37 = .ok (.aload_n 1, 1) := by decide +kernel
theorem dL_law_38 : decode cL_law 38 = .ok (.iconst 3, 1) := by decide +kernel
theorem dL_law_39 : decode cL_law 39 = .ok (.invokevirtual 40, 3) := by decide +kernel
theorem dL_law_42 : decode cL_law 42 = .ok (.istore 5, 2) := by decide +kernel
theorem dL_law_44 : decode cL_law 44 = .ok (.iload_n 3, 1) := by decide +kernel
theorem dL_law_45 : decode cL_law 45 = .ok (.iconst 3, 1) := by decide +kernel
theorem dL_law_46 : decode cL_law 46 = .ok (.ishr, 1) := by decide +kernel
theorem dL_law_47 : decode cL_law 47 = .ok (.iconst 1, 1) := by decide +kernel
theorem dL_law_48 : decode cL_law 48 = .ok (.iload 5, 2) := by decide +kernel
theorem dL_law_50 : decode cL_law 50 = .ok (.invokestatic 70, 3) := by decide +kernel
theorem dL_law_53 : decode cL_law 53 = .ok (.invokestatic 18, 3) := by decide +kernel
theorem dL_law_56 : decode cL_law 56 = .ok (.istore 6, 2) := by decide +kernel
theorem dL_law_58 : decode cL_law 58 = .ok (.iload_n 3, 1) := by decide +kernel
theorem dL_law_59 : decode cL_law 59 = .ok (.iconst 5, 1) := by decide +kernel
theorem dL_law_60 : decode cL_law 60 = .ok (.ishr, 1) := by decide +kernel
theorem dL_law_61 : decode cL_law 61 = .ok (.iconst 1, 1) := by decide +kernel
theorem dL_law_62 : decode cL_law 62 = .ok (.iload 4, 2) := by decide +kernel
theorem dL_law_64 : decode cL_law 64 = .ok (.invokestatic 70, 3) := by decide +kernel
theorem dL_law_67 : decode cL_law 67 = .ok (.invokestatic 18, 3) := by decide +kernel
theorem dL_law_70 : decode cL_law 70 = .ok (.istore 7, 2) := by decide +kernel
theorem dL_law_72 : decode cL_law 72 = .ok (.aload_n 1, 1) := by decide +kernel
theorem dL_law_73 : decode cL_law 73 = .ok (.invokevirtual 73, 3) := by decide +kernel
theorem dL_law_76 : decode cL_law 76 = .ok (.lstore 8, 2) := by decide +kernel
theorem dL_law_78 : decode cL_law 78 = .ok (.aload_n 1, 1) := by decide +kernel
theorem dL_law_79 : decode cL_law 79 = .ok (.invokevirtual 77, 3) := by decide +kernel
theorem dL_law_82 : decode cL_law 82 = .ok (.istore 10, 2) := by decide +kernel
theorem dL_law_84 : decode cL_law 84 = .ok (.aload_n 1, 1) := by decide +kernel
theorem dL_law_85 : decode cL_law 85 = .ok (.invokevirtual 81, 3) := by decide +kernel
theorem dL_law_88 : decode cL_law 88 = .ok (.istore 11, 2) := by decide +kernel
theorem dL_law_90 : decode cL_law 90 = .ok (.aload_n 1, 1) := by decide +kernel
theorem dL_law_91 : decode cL_law 91 = .ok (.invokevirtual 84, 3) := by decide +kernel
theorem dL_law_94 : decode cL_law 94 = .ok (.istore 12, 2) := by decide +kernel
theorem dL_law_96 : decode cL_law 96 = .ok (.iload 4, 2) := by decide +kernel
theorem dL_law_98 : decode cL_law 98 = .ok (.newarray .int, 2) := by decide +kernel
theorem dL_law_100 : decode cL_law 100 = .ok (.astore 13, 2) := by decide +kernel
theorem dL_law_102 : decode cL_law 102 = .ok (.iload 4, 2) := by decide +kernel
theorem dL_law_104 : decode cL_law 104 = .ok (.newarray .int, 2) := by decide +kernel
theorem dL_law_106 : decode cL_law 106 = .ok (.astore 14, 2) := by decide +kernel
theorem dL_law_108 : decode cL_law 108 = .ok (.iconst 0, 1) := by decide +kernel
theorem dL_law_109 : decode cL_law 109 = .ok (.istore 15, 2) := by decide +kernel
theorem dL_law_111 : decode cL_law 111 = .ok (.iconst 0, 1) := by decide +kernel
theorem dL_law_112 : decode cL_law 112 = .ok (.istore 16, 2) := by decide +kernel
theorem dL_law_114 : decode cL_law 114 = .ok (.iconst 0, 1) := by decide +kernel
theorem dL_law_115 : decode cL_law 115 = .ok (.istore 17, 2) := by decide +kernel
theorem dL_law_117 : decode cL_law 117 = .ok (.iload 17, 2) := by decide +kernel
theorem dL_law_119 : decode cL_law 119 = .ok (.iload 4, 2) := by decide +kernel
theorem dL_law_121 : decode cL_law 121 = .ok (.if_icmp .ge 166, 3) := by decide +kernel
theorem dL_law_124 : decode cL_law 124 = .ok (.aload 13, 2) := by decide +kernel
theorem dL_law_126 : decode cL_law 126 = .ok (.iload 17, 2) := by decide +kernel
