theorem dL_glue_19 : decode cL_glue 19 = .ok (.ireturn, 1) := by decide +kernel
set_option maxRecDepth 20000 in
theorem ggL_cross_X5_cross : GoodIn wsL_cross wsX5_cross := goodIn_ca (goodIn_r _ [6, 7, 8, 9, 10, 11, 12, 5, 13, 14, 15, 16, 17, 18, 19, 20, 21, 22, 23, 24, 25, 26, 27, 28, 29, 30, 31, 32, 33, 34, 35, 36, 37, 38, 39, 40, 41, 42, 43, 44, 45, 46, 47, 48, 49] (by decide +kernel) (by decide +kernel)) (goodIn_sub (fun _ h => List.mem_cons_of_mem _ (List.mem_append_right _ h)) (by decide +kernel))
set_option maxRecDepth 20000 in
theorem gL_cross_X5_cross : GoodIn wsL_cross (wsV RL 40 RX5 yX5_cross wsX5_cross) := goodIn_app (goodIn_of _ (by decide +kernel)) ggL_cross_X5_cross
theorem dL_cross_0 : decode cL_cross 0 = .ok (.aload_n 3, 1) := by decide +kernel
theorem dL_cross_1 : decode cL_cross 1 = .ok (.iconst 0, 1) := by decide +kernel
theorem dL_cross_2 : decode cL_cross 2 = .ok (.aload_n 0, 1) := by decide +kernel
theorem dL_cross_3 : decode cL_cross 3 = .ok (.iload_n 1, 1) := by decide +kernel
theorem dL_cross_4 : decode cL_cross 4 = .ok (.iload_n 2, 1) := by decide +kernel
theorem dL_cross_5 : decode cL_cross 5 = .ok (.invokevirtual 40, 3) := by decide +kernel
theorem dL_cross_8 : decode cL_cross 8 = .ok (.ifCond .eq 7, 3) := by decide +kernel
theorem dL_cross_11 : decode cL_cross 11 = .ok (.lconst 1, 1) := by decide +kernel
theorem dL_cross_12 : decode cL_cross 12 = .ok (.goto 4, 3) := by decide +kernel
theorem dL_cross_15 : decode cL_cross 15 = .ok (.lconst 0, 1) := by decide +kernel
theorem dL_cross_16 : decode cL_cross 16 = .ok (.lastore, 1) := by decide +kernel
theorem dL_cross_17 : decode cL_cross 17 = .ok (.goto 7, 3) := by decide +kernel
theorem dL_cross_20 : decode cL_cross 20 = .ok (.astore 4, 2) := by decide +kernel
theorem dL_cross_22 : decode cL_cross 22 = .ok (.iconst 1, 1) := by decide +kernel
theorem dL_cross_23 : decode cL_cross 23 = .ok (.ireturn, 1) := by decide +kernel
theorem dL_cross_24 : decode cL_cross 24 = .ok (.iconst 0, 1) := by decide +kernel
theorem dL_cross_25 : decode cL_cross 25 = .ok (.ireturn, 1) := by decide +kernel
set_option maxRecDepth 20000 in
theorem ggL_mast_X5_mast : GoodIn wsL_mast wsX5_mast := goodIn_ca (goodIn_r _ [6, 7, 8, 9, 10, 11, 12, 13, 14, 15, 16, 5, 17, 18, 19, 20, 21, 22, 23, 24, 25, 26, 27, 28, 29, 30, 31, 32, 33, 34, 35, 36, 37, 38, 39, 40, 41, 42, 43, 44, 45, 46, 47, 48, 49, 50, 51, 52, 53, 54, 55, 56, 57, 58, 59, 60, 61, 62, 63, 64, 65, 66, 67, 68] (by decide +kernel) (by decide +kernel)) (goodIn_sub (fun _ h => List.mem_cons_of_mem _ (List.mem_append_right _ h)) (by decide +kernel))
set_option maxRecDepth 20000 in
theorem gL_mast_X5_mast : GoodIn wsL_mast (wsV RL 44 RX5 yX5_mast wsX5_mast) := goodIn_app (goodIn_of _ (by decide +kernel)) ggL_mast_X5_mast
theorem dL_mast_0 : decode cL_mast 0 = .ok (.aload_n 3, 1) := by decide +kernel
theorem dL_mast_1 : decode cL_mast 1 = .ok (.iconst 0, 1) := by decide +kernel
theorem dL_mast_2 : decode cL_mast 2 = .ok (.aload_n 0, 1) := by decide +kernel
theorem dL_mast_3 : decode cL_mast 3 = .ok (.iload_n 1, 1) := by decide +kernel
theorem dL_mast_4 : decode cL_mast 4 = .ok (.iload_n 2, 1) := by decide +kernel
theorem dL_mast_5 : decode cL_mast 5 = .ok (.invokevirtual 44, 3) := by decide +kernel
theorem dL_mast_8 : decode cL_mast 8 = .ok (.i2l, 1) := by decide +kernel
theorem dL_mast_9 : decode cL_mast 9 = .ok (.lastore, 1) := by decide +kernel
theorem dL_mast_10 : decode cL_mast 10 = .ok (.goto 7, 3) := by decide +kernel
theorem dL_mast_13 : decode cL_mast 13 = .ok (.astore 4, 2) := by decide +kernel
theorem dL_mast_15 : decode cL_mast 15 = .ok (.iconst 1, 1) := by decide +kernel
theorem dL_mast_16 : decode cL_mast 16 = .ok (.ireturn, 1) := by decide +kernel
theorem dL_mast_17 : decode cL_mast 17 = .ok (.iconst 0, 1) := by decide +kernel
theorem dL_mast_18 : decode cL_mast 18 = .ok (.ireturn, 1) := by decide +kernel
set_option maxRecDepth 20000 in
theorem ggL_thread_X5_thread : GoodIn wsL_thread wsX5_thread := goodIn_ca (goodIn_r _ [6, 7, 8, 9, 10, 11, 12, 13, 14, 15, 16, 5, 17, 18, 19, 20, 21, 22, 23, 24, 25, 26, 27, 28, 29, 30, 31, 32, 33, 34, 35, 36, 37, 38, 39, 40, 41, 42, 43, 44, 45, 46, 47, 48, 49, 50, 51, 52, 53, 54, 55, 56, 57] (by decide +kernel) (by decide +kernel)) (goodIn_sub (fun _ h => List.mem_cons_of_mem _ (List.mem_append_right _ h)) (by decide +kernel))
set_option maxRecDepth 20000 in
theorem gL_thread_X5_thread : GoodIn wsL_thread (wsV RL 47 RX5 yX5_thread wsX5_thread) := goodIn_app (goodIn_of _ (by decide +kernel)) ggL_thread_X5_thread
theorem dL_thread_0 : decode cL_thread 0 = .ok (.aload_n 3, 1) := by decide +kernel
theorem dL_thread_1 : decode cL_thread 1 = .ok (.iconst 0, 1) := by decide +kernel
theorem dL_thread_2 : decode cL_thread 2 = .ok (.aload_n 0, 1) := by decide +kernel
theorem dL_thread_3 : decode cL_thread 3 = .ok (.iload_n 1, 1) := by decide +kernel
theorem dL_thread_4 : decode cL_thread 4 = .ok (.iload_n 2, 1) := by decide +kernel
theorem dL_thread_5 : decode cL_thread 5 = .ok (.invokevirtual 47, 3) := by decide +kernel
theorem dL_thread_8 : decode cL_thread 8 = .ok (.i2l, 1) := by decide +kernel
theorem dL_thread_9 : decode cL_thread 9 = .ok (.lastore, 1) := by decide +kernel
theorem dL_thread_10 : decode cL_thread 10 = .ok (.goto 7, 3) := by decide +kernel
theorem dL_thread_13 : decode cL_thread 13 = .ok (.astore 4, 2) := by decide +kernel
theorem dL_thread_15 : decode cL_thread 15 = .ok (.iconst 1, 1) := by decide +kernel
theorem dL_thread_16 : decode cL_thread 16 = .ok (.ireturn, 1) := by decide +kernel
theorem dL_thread_17 : decode cL_thread 17 = .ok (.iconst 0, 1) := by decide +kernel
theorem dL_thread_18 : decode cL_thread 18 = .ok (.ireturn, 1) := by decide +kernel
set_option maxRecDepth 20000 in
theorem ggL_ship_X5_ship : GoodIn wsL_ship wsX5_ship := goodIn_ca (goodIn_r _ [6, 7, 8, 9, 10, 11, 12, 13, 5, 14, 15, 16, 17, 18, 19, 20, 21, 22, 23, 24, 25, 26, 27, 28, 29, 30, 31, 32, 33, 34, 35, 36, 37, 38, 39, 40, 41, 42, 43, 44, 45, 46, 47, 48, 49, 50, 51, 52, 53, 54, 55, 56, 57, 58, 59, 60, 61, 62, 63, 64, 65, 66, 67, 68, 69, 70, 71, 72, 73, 74, 75, 76, 77, 78, 79, 80, 81, 82, 83, 84, 85, 86, 87, 88] (by decide +kernel) (by decide +kernel)) (goodIn_sub (fun _ h => List.mem_cons_of_mem _ (List.mem_append_right _ h)) (by decide +kernel))
set_option maxRecDepth 20000 in
theorem gL_ship_X5_ship : GoodIn wsL_ship (wsV RL 50 RX5 yX5_ship wsX5_ship) := goodIn_app (goodIn_of _ (by decide +kernel)) ggL_ship_X5_ship
theorem dL_ship_0 : decode cL_ship 0 = .ok (.aload_n 2, 1) := by decide +kernel
theorem dL_ship_1 : decode cL_ship 1 = .ok (.iconst 0, 1) := by decide +kernel
theorem dL_ship_2 : decode cL_ship 2 = .ok (.aload_n 0, 1) := by decide +kernel
theorem dL_ship_3 : decode cL_ship 3 = .ok (.iload_n 1, 1) := by decide +kernel
theorem dL_ship_4 : decode cL_ship 4 = .ok (.invokevirtual 50, 3) := by decide +kernel
theorem dL_ship_7 : decode cL_ship 7 = .ok (.i2l, 1) := by decide +kernel
theorem dL_ship_8 : decode cL_ship 8 = .ok (.lastore, 1) := by decide +kernel
theorem dL_ship_9 : decode cL_ship 9 = .ok (.goto 6, 3) := by decide +kernel
theorem dL_ship_12 : decode cL_ship 12 = .ok (.astore_n 3, 1) := by decide +kernel
theorem dL_ship_13 : decode cL_ship 13 = .ok (.iconst 1, 1) := by decide +kernel
theorem dL_ship_14 : decode cL_ship 14 = .ok (.ireturn, 1) := by decide +kernel
theorem dL_ship_15 : decode cL_ship 15 = .ok (.iconst 0, 1) := by decide +kernel
theorem dL_ship_16 : decode cL_ship 16 = .ok (.ireturn, 1) := by decide +kernel
set_option maxRecDepth 20000 in
theorem ggL_count_X5_count : GoodIn wsL_count wsX5_count := goodIn_ca (goodIn_r _ [6, 7, 8, 9, 10, 11, 12, 13, 14, 15, 16, 5, 17, 18, 19, 20, 21, 22, 23, 24, 25, 26, 27, 28, 29, 30, 31, 32, 33, 34, 35, 36, 37, 38, 39, 40, 41, 42, 43, 44] (by decide +kernel) (by decide +kernel)) (goodIn_sub (fun _ h => List.mem_cons_of_mem _ (List.mem_append_right _ h)) (by decide +kernel))
set_option maxRecDepth 20000 in
theorem gL_count_X5_count : GoodIn wsL_count (wsV RL 53 RX5 yX5_count wsX5_count) := goodIn_app (goodIn_of _ (by decide +kernel)) ggL_count_X5_count
theorem dL_count_0 : decode cL_count 0 = .ok (.aload_n 2, 1) := by decide +kernel
theorem dL_count_1 : decode cL_count 1 = .ok (.iconst 0, 1) := by decide +kernel
theorem dL_count_2 : decode cL_count 2 = .ok (.aload_n 0, 1) := by decide +kernel
theorem dL_count_3 : decode cL_count 3 = .ok (.iload_n 1, 1) := by decide +kernel
theorem dL_count_4 : decode cL_count 4 = .ok (.invokevirtual 53, 3) := by decide +kernel
theorem dL_count_7 : decode cL_count 7 = .ok (.i2l, 1) := by decide +kernel
theorem dL_count_8 : decode cL_count 8 = .ok (.lastore, 1) := by decide +kernel
theorem dL_count_9 : decode cL_count 9 = .ok (.goto 6, 3) := by decide +kernel
theorem dL_count_12 : decode cL_count 12 = .ok (.astore_n 3, 1) := by decide +kernel
theorem dL_count_13 : decode cL_count 13 = .ok (.iconst 1, 1) := by decide +kernel
theorem dL_count_14 : decode cL_count 14 = .ok (.ireturn, 1) := by decide +kernel
theorem dL_count_15 : decode cL_count 15 = .ok (.iconst 0, 1) := by decide +kernel
theorem dL_count_16 : decode cL_count 16 = .ok (.ireturn, 1) := by decide +kernel
set_option maxRecDepth 20000 in
theorem ggL_pass_X5_pass : GoodIn wsL_pass wsX5_pass := goodIn_ca (goodIn_r _ [6, 7, 8, 9, 10, 11, 12, 13, 14, 15, 16, 17, 5, 18, 19, 20, 21, 22, 23, 24, 25, 26, 27, 28, 29, 30, 31, 32, 33, 34, 35, 36, 37, 38, 39, 40, 41, 42, 43, 44, 45, 46, 47, 48, 49, 50, 51, 52, 53, 54, 55, 56, 57, 58, 59, 60, 61, 62, 63, 64, 65, 66, 67, 68] (by decide +kernel) (by decide +kernel)) (goodIn_sub (fun _ h => List.mem_cons_of_mem _ (List.mem_append_right _ h)) (by decide +kernel))
set_option maxRecDepth 20000 in
theorem gL_pass_X5_pass : GoodIn wsL_pass (wsV RL 56 RX5 yX5_pass wsX5_pass) := goodIn_app (goodIn_of _ (by decide +kernel)) ggL_pass_X5_pass
theorem dL_pass_0 : decode cL_pass 0 = .ok (.aload_n 2, 1) := by decide +kernel
theorem dL_pass_1 : decode cL_pass 1 = .ok (.iconst 0, 1) := by decide +kernel
theorem dL_pass_2 : decode cL_pass 2 = .ok (.aload_n 0, 1) := by decide +kernel
theorem dL_pass_3 : decode cL_pass 3 = .ok (.iload_n 1, 1) := by decide +kernel
theorem dL_pass_4 : decode cL_pass 4 = .ok (.invokevirtual 56, 3) := by decide +kernel
theorem dL_pass_7 : decode cL_pass 7 = .ok (.i2l, 1) := by decide +kernel
theorem dL_pass_8 : decode cL_pass 8 = .ok (.lastore, 1) := by decide +kernel
theorem dL_pass_9 : decode cL_pass 9 = .ok (.goto 6, 3) := by decide +kernel
theorem dL_pass_12 : decode cL_pass 12 = .ok (.astore_n 3, 1) := by decide +kernel
theorem dL_pass_13 : decode cL_pass 13 = .ok (.iconst 1, 1) := by decide +kernel
theorem dL_pass_14 : decode cL_pass 14 = .ok (.ireturn, 1) := by decide +kernel
theorem dL_pass_15 : decode cL_pass 15 = .ok (.iconst 0, 1) := by decide +kernel
theorem dL_pass_16 : decode cL_pass 16 = .ok (.ireturn, 1) := by decide +kernel
set_option maxRecDepth 20000 in
theorem ggL_least_X5_least : GoodIn wsL_least wsX5_least := goodIn_ca (goodIn_r _ [6, 7, 8, 9, 10, 11, 12, 13, 14, 15, 16, 17, 18, 19, 20, 5, 21, 22, 23, 24, 25, 26, 27, 28, 29, 30, 31, 32, 33, 34, 35, 36, 37, 38, 39, 40, 41, 42, 43, 44, 45, 46, 47, 48, 49, 50, 51, 52, 53, 54, 55, 56, 57, 58, 59, 60, 61, 62, 63, 64, 65, 66, 67, 68, 69, 70, 71, 72, 73, 74, 75, 76, 77, 78, 79, 80, 81, 82, 83, 84, 85, 86, 87, 88, 89, 90, 91, 92, 93, 94, 95, 96, 97, 98, 99, 100, 101, 102, 103, 104, 105, 106, 107, 108, 109, 110, 111, 112, 113, 114, 115, 116, 117, 118, 119, 120, 121, 122, 123, 124, 125, 126, 127, 128, 129, 130, 131, 132, 133, 134, 135, 136, 137, 138, 139, 140, 141, 142, 143, 144, 145, 146, 147, 148, 149, 150, 151, 152, 153, 154, 155, 156, 157, 158, 159, 160, 161, 162, 163, 164, 165, 166, 167, 168, 169, 170, 171] (by decide +kernel) (by decide +kernel)) (goodIn_sub (fun _ h => List.mem_cons_of_mem _ (List.mem_append_right _ h)) (by decide +kernel))
set_option maxRecDepth 20000 in
theorem gL_least_X5_least : GoodIn wsL_least (wsV RL 59 RX5 yX5_least wsX5_least) := goodIn_app (goodIn_of _ (by decide +kernel)) ggL_least_X5_least
theorem dL_least_0 : decode cL_least 0 = .ok (.aload_n 2, 1) := by decide +kernel
theorem dL_least_1 : decode cL_least 1 = .ok (.iconst 0, 1) := by decide +kernel
theorem dL_least_2 : decode cL_least 2 = .ok (.aload_n 0, 1) := by decide +kernel
theorem dL_least_3 : decode cL_least 3 = .ok (.iload_n 1, 1) := by decide +kernel
theorem dL_least_4 : decode cL_least 4 = .ok (.invokevirtual 59, 3) := by decide +kernel
theorem dL_least_7 : decode cL_least 7 = .ok (.i2l, 1) := by decide +kernel
theorem dL_least_8 : decode cL_least 8 = .ok (.lastore, 1) := by decide +kernel
theorem dL_least_9 : decode cL_least 9 = .ok (.goto 6, 3) := by decide +kernel
theorem dL_least_12 : decode cL_least 12 = .ok (.astore_n 3, 1) := by decide +kernel
theorem dL_least_13 : decode cL_least 13 = .ok (.iconst 1, 1) := by decide +kernel
theorem dL_least_14 : decode cL_least 14 = .ok (.ireturn, 1) := by decide +kernel
theorem dL_least_15 : decode cL_least 15 = .ok (.iconst 0, 1) := by decide +kernel
theorem dL_least_16 : decode cL_least 16 = .ok (.ireturn, 1) := by decide +kernel
set_option maxRecDepth 20000 in
theorem ggL_law_X5_init : GoodIn wsL_law wsX5_init := goodIn_r _ [9, 10, 11, 12, 13, 14, 15, 16, 17, 18, 19, 20, 21, 22, 23, 24, 25, 26, 27, 28, 29, 30, 31, 32, 33, 34, 35, 36, 37, 38, 39, 40, 41, 42, 43, 44, 45, 46, 47, 48, 49, 50, 51, 52, 53, 54, 55, 56, 57, 58, 59, 60, 61, 62, 63, 64, 671, 672, 673, 674, 632, 633, 634, 635, 636, 637, 638, 639, 640, 641, 642, 643, 644, 645, 675, 676, 677, 678, 679, 680, 681, 682, 683, 684, 685, 686, 687, 688, 689, 690, 691, 692, 693] (by decide +kernel) (by decide +kernel)
set_option maxRecDepth 20000 in
theorem gL_law_X5_init : GoodIn wsL_law (wsX5_init) := ggL_law_X5_init
set_option maxRecDepth 20000 in
theorem ggL_law_X6_init : GoodIn wsL_law wsX6_init := goodIn_r _ [67, 68, 11, 12, 69, 70, 71, 72, 73, 74, 29, 75, 76, 77, 78, 79, 80, 81, 82, 83, 84, 646, 647, 648, 649, 650, 651, 652, 653, 654, 655, 656, 657, 658, 659, 660, 661, 662, 663, 664, 665, 666, 667, 668, 669, 670] (by decide +kernel) (by decide +kernel)
set_option maxRecDepth 20000 in
theorem gL_law_X6_init : GoodIn wsL_law (wsX6_init) := ggL_law_X6_init
set_option maxRecDepth 20000 in
theorem ggL_law_L_setBottle : GoodIn wsL_law wsL_setBottle := goodIn_ca (goodIn_ca (goodIn_r _ [88, 89, 90, 91, 92, 93, 2, 94, 95, 96, 97, 98, 99, 16, 100, 101, 102, 103, 104, 105, 106, 632, 633, 634, 635, 636, 637, 638, 639, 640, 641, 642, 643, 644, 645, 671, 672, 673, 674] (by decide +kernel) (by decide +kernel)) (goodIn_sub (fun _ h => List.mem_append_left _ (List.mem_append_left _ (List.mem_append_right _ h))) (by decide +kernel))) (goodIn_sub (fun _ h => List.mem_append_left _ (List.mem_append_right _ h)) (by decide +kernel))
set_option maxRecDepth 20000 in
theorem gL_law_L_setBottle : GoodIn wsL_law (va_wsS RL 66 yL_setBottle wsL_setBottle) := goodIn_app (goodIn_of _ (by decide +kernel)) ggL_law_L_setBottle
set_option maxRecDepth 20000 in
theorem ggL_law_X6_setBottle : GoodIn wsL_law wsX6_setBottle := goodIn_r _ [110, 111, 112, 69, 70, 71, 113, 114, 115, 5, 116, 117, 118, 119, 120, 646, 647, 648, 649, 650, 651, 652, 653, 654, 655, 656, 657, 658, 659, 660, 661, 662, 663, 664, 665, 666, 667, 668, 669, 670] (by decide +kernel) (by decide +kernel)
set_option maxRecDepth 20000 in
theorem gL_law_X6_setBottle : GoodIn wsL_law (wsV RL 71 RX6 yX6_setBottle wsX6_setBottle) := goodIn_app (goodIn_of _ (by decide +kernel)) ggL_law_X6_setBottle
set_option maxRecDepth 20000 in
theorem ggL_law_X6_thrown : GoodIn wsL_law wsX6_thrown := goodIn_r _ [124, 111, 646, 647, 648, 649, 650, 651, 652, 653, 654, 655, 656, 657, 658, 659, 660, 661, 662, 663, 664, 665, 666, 667, 668, 669, 670] (by decide +kernel) (by decide +kernel)
set_option maxRecDepth 20000 in
theorem gL_law_X6_thrown : GoodIn wsL_law (wsV RL 72 RX6 yX6_thrown wsX6_thrown) := goodIn_app (goodIn_of _ (by decide +kernel)) ggL_law_X6_thrown
set_option maxRecDepth 20000 in
theorem ggL_law_L_setHull : GoodIn wsL_law wsL_setHull := goodIn_ca (goodIn_ca (goodIn_r _ [127, 89, 90, 128, 129, 130, 2, 131, 95, 96, 97, 98, 132, 99, 20, 133, 134, 135, 104, 105, 106, 632, 633, 634, 635, 636, 637, 638, 639, 640, 641, 642, 643, 644, 645, 675, 676, 677] (by decide +kernel) (by decide +kernel)) (goodIn_sub (fun _ h => List.mem_append_left _ (List.mem_append_left _ (List.mem_append_right _ h))) (by decide +kernel))) (goodIn_sub (fun _ h => List.mem_append_left _ (List.mem_append_right _ h)) (by decide +kernel))
set_option maxRecDepth 20000 in
theorem gL_law_L_setHull : GoodIn wsL_law (va_wsS RL 76 yL_setHull wsL_setHull) := goodIn_app (goodIn_of _ (by decide +kernel)) ggL_law_L_setHull
set_option maxRecDepth 20000 in
theorem ggL_law_X6_setHull : GoodIn wsL_law wsX6_setHull := goodIn_r _ [139, 111, 140, 112, 72, 73, 74, 114, 115, 5, 116, 117, 118, 119, 120, 646, 647, 648, 649, 650, 651, 652, 653, 654, 655, 656, 657, 658, 659, 660, 661, 662, 663, 664, 665, 666, 667, 668, 669, 670] (by decide +kernel) (by decide +kernel)
set_option maxRecDepth 20000 in
theorem gL_law_X6_setHull : GoodIn wsL_law (wsV RL 79 RX6 yX6_setHull wsX6_setHull) := goodIn_app (goodIn_of _ (by decide +kernel)) ggL_law_X6_setHull
set_option maxRecDepth 20000 in
theorem ggL_law_L_step : GoodIn wsL_law wsL_step := goodIn_ca (goodIn_ca (goodIn_r _ [143, 89, 90, 144, 145, 146, 2, 147, 95, 96, 97, 98, 20, 133, 99, 132, 22, 148, 149, 30, 104, 105, 106, 150, 151, 152, 153, 632, 633, 634, 635, 636, 637, 638, 639, 640, 641, 642, 643, 644, 645, 675, 676, 677, 684, 685, 686, 687] (by decide +kernel) (by decide +kernel)) (goodIn_sub (fun _ h => List.mem_append_left _ (List.mem_append_left _ (List.mem_append_right _ h))) (by decide +kernel))) (goodIn_sub (fun _ h => List.mem_append_left _ (List.mem_append_right _ h)) (by decide +kernel))
set_option maxRecDepth 20000 in
theorem gL_law_L_step : GoodIn wsL_law (va_wsS RL 80 yL_step wsL_step) := goodIn_app (goodIn_of _ (by decide +kernel)) ggL_law_L_step
set_option maxRecDepth 20000 in
theorem ggL_law_X6_step : GoodIn wsL_law wsX6_step := goodIn_r _ [157, 111, 72, 112, 140, 75, 76, 158, 114, 115, 5, 116, 117, 118, 119, 120, 159, 160, 161, 646, 647, 648, 649, 650, 651, 652, 653, 654, 655, 656, 657, 658, 659, 660, 661, 662, 663, 664, 665, 666, 667, 668, 669, 670] (by decide +kernel) (by decide +kernel)
set_option maxRecDepth 20000 in
theorem gL_law_X6_step : GoodIn wsL_law (wsV RL 83 RX6 yX6_step wsX6_step) := goodIn_app (goodIn_of _ (by decide +kernel)) ggL_law_X6_step
set_option maxRecDepth 20000 in
theorem ggL_law_L_yard : GoodIn wsL_law wsL_yard := goodIn_ca (goodIn_ca (goodIn_ca (goodIn_r _ [164, 165, 89, 90, 166, 167, 168, 2, 169, 170, 171, 95, 96, 97, 98, 22, 99, 172, 173, 174, 175, 176, 177, 132, 104, 105, 106, 632, 633, 634, 635, 636, 637, 638, 639, 640, 641, 642, 643, 644, 645, 684, 685, 686, 687] (by decide +kernel) (by decide +kernel)) (goodIn_sub (fun _ h => List.mem_append_right _ h) (by decide +kernel))) (goodIn_sub (fun _ h => List.mem_append_left _ (List.mem_append_left _ (List.mem_append_right _ h))) (by decide +kernel))) (goodIn_sub (fun _ h => List.mem_append_left _ (List.mem_append_right _ h)) (by decide +kernel))
set_option maxRecDepth 20000 in
theorem gL_law_L_yard : GoodIn wsL_law (va_wsS RL 84 yL_yard wsL_yard) := goodIn_app (goodIn_of _ (by decide +kernel)) ggL_law_L_yard
set_option maxRecDepth 20000 in
theorem ggL_law_X6_yard : GoodIn wsL_law wsX6_yard := goodIn_r _ [181, 111, 112, 77, 78, 182, 183, 184, 5, 185, 140, 114, 115, 116, 117, 118, 119, 120, 646, 647, 648, 649, 650, 651, 652, 653, 654, 655, 656, 657, 658, 659, 660, 661, 662, 663, 664, 665, 666, 667, 668, 669, 670] (by decide +kernel) (by decide +kernel)
set_option maxRecDepth 20000 in
theorem gL_law_X6_yard : GoodIn wsL_law (wsV RL 86 RX6 yX6_yard wsX6_yard) := goodIn_app (goodIn_of _ (by decide +kernel)) ggL_law_X6_yard
set_option maxRecDepth 20000 in
theorem ggL_law_L_lead : GoodIn wsL_law wsL_lead := goodIn_ca (goodIn_ca (goodIn_ca (goodIn_r _ [188, 165, 89, 90, 189, 190, 191, 2, 192, 170, 171, 95, 96, 97, 98, 193, 24, 194, 195, 196, 22, 148, 174, 175, 176, 177, 132, 104, 105, 106, 197, 198, 199, 36, 200, 201, 202, 203, 204, 205, 206, 207, 208, 209, 632, 633, 634, 635, 636, 637, 638, 639, 640, 641, 642, 643, 644, 645, 688, 689, 690, 691, 692, 693, 684, 685, 686, 687] (by decide +kernel) (by decide +kernel)) (goodIn_sub (fun _ h => List.mem_append_right _ h) (by decide +kernel))) (goodIn_sub (fun _ h => List.mem_append_left _ (List.mem_append_left _ (List.mem_append_right _ h))) (by decide +kernel))) (goodIn_sub (fun _ h => List.mem_append_left _ (List.mem_append_right _ h)) (by decide +kernel))
set_option maxRecDepth 20000 in
theorem gL_law_L_lead : GoodIn wsL_law (va_wsS RL 87 yL_lead wsL_lead) := goodIn_app (goodIn_of _ (by decide +kernel)) ggL_law_L_lead
set_option maxRecDepth 20000 in
theorem ggL_law_X6_lead : GoodIn wsL_law wsX6_lead := goodIn_r _ [213, 111, 214, 79, 80, 81, 182, 183, 184, 5, 185, 140, 114, 115, 116, 117, 118, 119, 120, 646, 647, 648, 649, 650, 651, 652, 653, 654, 655, 656, 657, 658, 659, 660, 661, 662, 663, 664, 665, 666, 667, 668, 669, 670] (by decide +kernel) (by decide +kernel)
set_option maxRecDepth 20000 in
theorem gL_law_X6_lead : GoodIn wsL_law (wsV RL 89 RX6 yX6_lead wsX6_lead) := goodIn_app (goodIn_of _ (by decide +kernel)) ggL_law_X6_lead
set_option maxRecDepth 20000 in
theorem ggL_law_X5_enter : GoodIn wsL_law wsX5_enter := goodIn_r _ [218, 99, 30, 219, 220, 221, 2, 222, 16, 100, 223, 224, 225, 226, 20, 135, 132, 22, 227, 207, 203, 208, 228, 229, 230, 34, 231, 232, 61, 233, 234, 235, 236, 237, 134, 238, 239, 240, 241, 242, 243, 244, 245, 246, 102, 103, 101, 247, 248, 249, 250, 133, 148, 251, 252, 253, 254, 632, 633, 634, 635, 636, 637, 638, 639, 640, 641, 642, 643, 644, 645, 671, 672, 673, 674, 675, 676, 677, 684, 685, 686, 687] (by decide +kernel) (by decide +kernel)
set_option maxRecDepth 20000 in
theorem gL_law_X5_enter : GoodIn wsL_law (wsV RL 90 RX5 yX5_enter wsX5_enter) := goodIn_app (goodIn_of _ (by decide +kernel)) ggL_law_X5_enter
set_option maxRecDepth 20000 in
theorem ggL_law_X6_enter : GoodIn wsL_law wsX6_enter := goodIn_r _ [258, 111, 112, 158, 259, 260, 261, 5, 262, 69, 263, 264, 265, 266, 74, 140, 77, 78, 267, 207, 203, 208, 268, 269, 270, 159, 160, 161, 271, 272, 273, 274, 73, 275, 276, 277, 278, 76, 279, 280, 281, 282, 71, 113, 70, 283, 284, 285, 286, 72, 75, 287, 288, 289, 290, 646, 647, 648, 649, 650, 651, 652, 653, 654, 655, 656, 657, 658, 659, 660, 661, 662, 663, 664, 665, 666, 667, 668, 669, 670] (by decide +kernel) (by decide +kernel)
set_option maxRecDepth 20000 in
theorem gL_law_X6_enter : GoodIn wsL_law (wsV RL 94 RX6 yX6_enter wsX6_enter) := goodIn_app (goodIn_of _ (by decide +kernel)) ggL_law_X6_enter
set_option maxRecDepth 20000 in
theorem ggL_law_X5_leave : GoodIn wsL_law wsX5_leave := goodIn_r _ [294, 99, 219, 220, 221, 2, 222, 16, 100, 30, 223, 224, 225, 226, 20, 135, 132, 22, 227, 207, 203, 208, 228, 229, 230, 34, 231, 232, 61, 233, 234, 235, 236, 237, 134, 238, 239, 240, 241, 242, 632, 633, 634, 635, 636, 637, 638, 639, 640, 641, 642, 643, 644, 645, 671, 672, 673, 674, 675, 676, 677, 684, 685, 686, 687] (by decide +kernel) (by decide +kernel)
set_option maxRecDepth 20000 in
theorem gL_law_X5_leave : GoodIn wsL_law (wsV RL 95 RX5 yX5_leave wsX5_leave) := goodIn_app (goodIn_of _ (by decide +kernel)) ggL_law_X5_leave
set_option maxRecDepth 20000 in
theorem ggL_law_X6_leave : GoodIn wsL_law wsX6_leave := goodIn_r _ [298, 111, 112, 259, 260, 261, 5, 262, 158, 69, 263, 264, 265, 266, 74, 140, 77, 78, 267, 207, 203, 208, 268, 269, 270, 159, 160, 161, 271, 272, 273, 274, 73, 275, 276, 277, 278, 76, 646, 647, 648, 649, 650, 651, 652, 653, 654, 655, 656, 657, 658, 659, 660, 661, 662, 663, 664, 665, 666, 667, 668, 669, 670] (by decide +kernel) (by decide +kernel)
set_option maxRecDepth 20000 in
theorem gL_law_X6_leave : GoodIn wsL_law (wsV RL 98 RX6 yX6_leave wsX6_leave) := goodIn_app (goodIn_of _ (by decide +kernel)) ggL_law_X6_leave
set_option maxRecDepth 20000 in
theorem ggL_law_L_pull : GoodIn wsL_law wsL_pull := goodIn_ca (goodIn_ca (goodIn_r _ [301, 165, 90, 302, 303, 304, 2, 305, 170, 171, 97, 98, 24, 306, 307, 308, 194, 30, 32, 309, 310, 311, 312, 313, 314, 315, 316, 193, 317, 318, 319, 320, 99, 321, 322, 323, 324, 325, 326, 327, 328, 329, 330, 331, 332, 196, 333, 334, 335, 36, 336, 337, 205, 206, 207, 203, 208, 209, 201, 202, 204, 338, 339, 340, 341, 195, 342, 343, 344, 243, 244, 245, 246, 16, 102, 103, 101, 247, 248, 249, 250, 20, 133, 132, 22, 148, 227, 251, 252, 253, 34, 254, 242, 234, 235, 236, 237, 134, 238, 239, 240, 241, 345, 346, 347, 348, 349, 632, 633, 634, 635, 636, 637, 638, 639, 640, 641, 642, 643, 644, 645, 688, 689, 690, 691, 692, 693, 671, 672, 673, 674, 675, 676, 677, 684, 685, 686, 687] (by decide +kernel) (by decide +kernel)) (goodIn_sub (fun _ h => List.mem_append_right _ h) (by decide +kernel))) (goodIn_sub (fun _ h => List.mem_append_left _ (List.mem_append_right _ h)) (by decide +kernel))
set_option maxRecDepth 20000 in
theorem gL_law_L_pull : GoodIn wsL_law (va_wsS RL 99 yL_pull wsL_pull) := goodIn_app (goodIn_of _ (by decide +kernel)) ggL_law_L_pull
set_option maxRecDepth 20000 in
theorem ggL_law_X6_pull : GoodIn wsL_law wsX6_pull := goodIn_r _ [353, 111, 82, 158, 354, 79, 355, 81, 356, 357, 358, 5, 359, 214, 114, 115, 116, 117, 118, 119, 120, 360, 361, 362, 363, 140, 112, 268, 269, 270, 159, 160, 161, 364, 365, 366, 367, 368, 369, 370, 371, 80, 372, 202, 203, 204, 267, 207, 208, 373, 374, 375, 376, 75, 377, 378, 379, 380, 279, 280, 281, 282, 71, 113, 70, 283, 284, 285, 286, 72, 287, 288, 289, 290, 76, 271, 272, 273, 274, 73, 275, 276, 277, 278, 646, 647, 648, 649, 650, 651, 652, 653, 654, 655, 656, 657, 658, 659, 660, 661, 662, 663, 664, 665, 666, 667, 668, 669, 670] (by decide +kernel) (by decide +kernel)
set_option maxRecDepth 20000 in
theorem gL_law_X6_pull : GoodIn wsL_law (wsV RL 102 RX6 yX6_pull wsX6_pull) := goodIn_app (goodIn_of _ (by decide +kernel)) ggL_law_X6_pull
set_option maxRecDepth 20000 in
theorem ggL_law_L_glue : GoodIn wsL_law wsL_glue := goodIn_ca (goodIn_ca (goodIn_r _ [383, 165, 90, 384, 385, 386, 2, 387, 170, 171, 97, 98, 24, 306, 313, 314, 315, 316, 193, 632, 633, 634, 635, 636, 637, 638, 639, 640, 641, 642, 643, 644, 645, 688, 689, 690, 691, 692, 693] (by decide +kernel) (by decide +kernel)) (goodIn_sub (fun _ h => List.mem_append_right _ h) (by decide +kernel))) (goodIn_sub (fun _ h => List.mem_append_left _ (List.mem_append_right _ h)) (by decide +kernel))
set_option maxRecDepth 20000 in
theorem gL_law_L_glue : GoodIn wsL_law (va_wsS RL 103 yL_glue wsL_glue) := goodIn_app (goodIn_of _ (by decide +kernel)) ggL_law_L_glue
set_option maxRecDepth 20000 in
theorem ggL_law_X6_glue : GoodIn wsL_law wsX6_glue := goodIn_r _ [391, 111, 82, 356, 357, 358, 5, 359, 214, 114, 115, 116, 117, 118, 119, 120, 646, 647, 648, 649, 650, 651, 652, 653, 654, 655, 656, 657, 658, 659, 660, 661, 662, 663, 664, 665, 666, 667, 668, 669, 670] (by decide +kernel) (by decide +kernel)
set_option maxRecDepth 20000 in
theorem gL_law_X6_glue : GoodIn wsL_law (wsV RL 105 RX6 yX6_glue wsX6_glue) := goodIn_app (goodIn_of _ (by decide +kernel)) ggL_law_X6_glue
set_option maxRecDepth 20000 in
theorem ggL_law_L_cross : GoodIn wsL_law wsL_cross := goodIn_ca (goodIn_r _ [394, 165, 395, 396, 397, 2, 398, 170, 171, 24, 313, 314, 315, 316, 193, 333, 334, 335, 36, 336, 337, 205, 206, 207, 203, 208, 209, 201, 202, 204, 632, 633, 634, 635, 636, 637, 638, 639, 640, 641, 642, 643, 644, 645, 688, 689, 690, 691, 692, 693] (by decide +kernel) (by decide +kernel)) (goodIn_sub (fun _ h => List.mem_append_right _ h) (by decide +kernel))
set_option maxRecDepth 20000 in
theorem gL_law_L_cross : GoodIn wsL_law (va_wsS RL 106 yL_cross wsL_cross) := goodIn_app (goodIn_of _ (by decide +kernel)) ggL_law_L_cross
set_option maxRecDepth 20000 in
theorem ggL_law_X6_cross : GoodIn wsL_law wsX6_cross := goodIn_r _ [402, 111, 356, 357, 358, 5, 359, 214, 114, 115, 116, 117, 118, 119, 120, 368, 369, 370, 371, 82, 79, 80, 372, 202, 203, 204, 267, 207, 208, 373, 374, 375, 376, 75, 646, 647, 648, 649, 650, 651, 652, 653, 654, 655, 656, 657, 658, 659, 660, 661, 662, 663, 664, 665, 666, 667, 668, 669, 670] (by decide +kernel) (by decide +kernel)
set_option maxRecDepth 20000 in
theorem gL_law_X6_cross : GoodIn wsL_law (wsV RL 108 RX6 yX6_cross wsX6_cross) := goodIn_app (goodIn_of _ (by decide +kernel)) ggL_law_X6_cross
set_option maxRecDepth 20000 in
theorem ggL_law_L_mast : GoodIn wsL_law wsL_mast := goodIn_ca (goodIn_r _ [405, 165, 406, 407, 408, 2, 409, 170, 171, 22, 148, 149, 30, 172, 174, 175, 176, 177, 132, 238, 239, 240, 34, 241, 242, 251, 252, 253, 254, 321, 322, 323, 324, 325, 326, 327, 328, 193, 24, 194, 306, 410, 411, 412, 413, 632, 633, 634, 635, 636, 637, 638, 639, 640, 641, 642, 643, 644, 645, 684, 685, 686, 687, 688, 689, 690, 691, 692, 693] (by decide +kernel) (by decide +kernel)) (goodIn_sub (fun _ h => List.mem_append_right _ h) (by decide +kernel))
set_option maxRecDepth 20000 in
theorem gL_law_L_mast : GoodIn wsL_law (va_wsS RL 109 yL_mast wsL_mast) := goodIn_app (goodIn_of _ (by decide +kernel)) ggL_law_L_mast
set_option maxRecDepth 20000 in
theorem ggL_law_X6_mast : GoodIn wsL_law wsX6_mast := goodIn_r _ [417, 111, 182, 183, 184, 5, 185, 140, 114, 115, 116, 418, 419, 420, 421, 29, 75, 76, 158, 77, 268, 269, 270, 159, 160, 161, 275, 276, 277, 278, 287, 288, 289, 290, 364, 365, 366, 367, 214, 79, 82, 422, 423, 424, 425, 117, 118, 119, 120, 646, 647, 648, 649, 650, 651, 652, 653, 654, 655, 656, 657, 658, 659, 660, 661, 662, 663, 664, 665, 666, 667, 668, 669, 670] (by decide +kernel) (by decide +kernel)
set_option maxRecDepth 20000 in
theorem gL_law_X6_mast : GoodIn wsL_law (wsV RL 111 RX6 yX6_mast wsX6_mast) := goodIn_app (goodIn_of _ (by decide +kernel)) ggL_law_X6_mast
set_option maxRecDepth 20000 in
theorem ggL_law_L_thread : GoodIn wsL_law wsL_thread := goodIn_ca (goodIn_r _ [428, 165, 429, 430, 431, 2, 432, 170, 171, 24, 194, 195, 196, 306, 313, 314, 315, 316, 193, 433, 434, 435, 436, 333, 334, 335, 36, 336, 337, 205, 206, 207, 203, 208, 209, 201, 202, 204, 632, 633, 634, 635, 636, 637, 638, 639, 640, 641, 642, 643, 644, 645, 688, 689, 690, 691, 692, 693] (by decide +kernel) (by decide +kernel)) (goodIn_sub (fun _ h => List.mem_append_right _ h) (by decide +kernel))
set_option maxRecDepth 20000 in
theorem gL_law_L_thread : GoodIn wsL_law (va_wsS RL 112 yL_thread wsL_thread) := goodIn_app (goodIn_of _ (by decide +kernel)) ggL_law_L_thread
set_option maxRecDepth 20000 in
theorem ggL_law_X6_thread : GoodIn wsL_law wsX6_thread := goodIn_r _ [440, 111, 356, 357, 358, 5, 359, 214, 114, 115, 116, 441, 442, 443, 444, 29, 79, 80, 81, 82, 368, 369, 370, 371, 372, 202, 203, 204, 267, 207, 208, 373, 374, 375, 376, 75, 117, 118, 119, 120, 646, 647, 648, 649, 650, 651, 652, 653, 654, 655, 656, 657, 658, 659, 660, 661, 662, 663, 664, 665, 666, 667, 668, 669, 670] (by decide +kernel) (by decide +kernel)
set_option maxRecDepth 20000 in
theorem gL_law_X6_thread : GoodIn wsL_law (wsV RL 114 RX6 yX6_thread wsX6_thread) := goodIn_app (goodIn_of _ (by decide +kernel)) ggL_law_X6_thread
set_option maxRecDepth 20000 in
theorem ggL_law_L_ship : GoodIn wsL_law wsL_ship := goodIn_ca (goodIn_r _ [447, 165, 448, 449, 450, 2, 451, 170, 171, 30, 99, 223, 224, 225, 226, 20, 135, 132, 22, 227, 207, 203, 208, 228, 229, 230, 34, 231, 232, 61, 233, 234, 235, 236, 237, 134, 238, 239, 240, 241, 242, 247, 248, 249, 250, 133, 148, 251, 252, 253, 254, 219, 220, 221, 222, 16, 100, 243, 244, 245, 246, 102, 103, 101, 632, 633, 634, 635, 636, 637, 638, 639, 640, 641, 642, 643, 644, 645, 675, 676, 677, 684, 685, 686, 687, 671, 672, 673, 674] (by decide +kernel) (by decide +kernel)) (goodIn_sub (fun _ h => List.mem_append_right _ h) (by decide +kernel))
set_option maxRecDepth 20000 in
theorem gL_law_L_ship : GoodIn wsL_law (va_wsS RL 115 yL_ship wsL_ship) := goodIn_app (goodIn_of _ (by decide +kernel)) ggL_law_L_ship
set_option maxRecDepth 20000 in
theorem ggL_law_X6_ship : GoodIn wsL_law wsX6_ship := goodIn_r _ [455, 111, 114, 115, 5, 116, 456, 457, 458, 459, 29, 158, 112, 263, 264, 265, 266, 74, 140, 77, 78, 267, 207, 203, 208, 268, 269, 270, 159, 160, 161, 271, 272, 273, 274, 73, 275, 276, 277, 278, 76, 283, 284, 285, 286, 72, 75, 287, 288, 289, 290, 259, 260, 261, 262, 69, 279, 280, 281, 282, 71, 113, 70, 117, 118, 119, 120, 646, 647, 648, 649, 650, 651, 652, 653, 654, 655, 656, 657, 658, 659, 660, 661, 662, 663, 664, 665, 666, 667, 668, 669, 670] (by decide +kernel) (by decide +kernel)
set_option maxRecDepth 20000 in
theorem gL_law_X6_ship : GoodIn wsL_law (wsV RL 117 RX6 yX6_ship wsX6_ship) := goodIn_app (goodIn_of _ (by decide +kernel)) ggL_law_X6_ship
set_option maxRecDepth 20000 in
theorem ggL_law_L_count : GoodIn wsL_law wsL_count := goodIn_ca (goodIn_r _ [462, 165, 463, 464, 465, 2, 466, 170, 171, 467, 132, 193, 308, 307, 468, 469, 470, 471, 30, 472, 473, 474, 475, 24, 306, 632, 633, 634, 635, 636, 637, 638, 639, 640, 641, 642, 643, 644, 645, 688, 689, 690, 691, 692, 693] (by decide +kernel) (by decide +kernel)) (goodIn_sub (fun _ h => List.mem_append_right _ h) (by decide +kernel))
set_option maxRecDepth 20000 in
theorem gL_law_L_count : GoodIn wsL_law (va_wsS RL 118 yL_count wsL_count) := goodIn_app (goodIn_of _ (by decide +kernel)) ggL_law_L_count
set_option maxRecDepth 20000 in
theorem ggL_law_X6_count : GoodIn wsL_law wsX6_count := goodIn_r _ [479, 111, 114, 115, 5, 116, 480, 481, 482, 483, 140, 158, 214, 82, 29, 484, 354, 355, 268, 269, 270, 159, 160, 161, 117, 118, 119, 120, 646, 647, 648, 649, 650, 651, 652, 653, 654, 655, 656, 657, 658, 659, 660, 661, 662, 663, 664, 665, 666, 667, 668, 669, 670] (by decide +kernel) (by decide +kernel)
set_option maxRecDepth 20000 in
theorem gL_law_X6_count : GoodIn wsL_law (wsV RL 120 RX6 yX6_count wsX6_count) := goodIn_app (goodIn_of _ (by decide +kernel)) ggL_law_X6_count
set_option maxRecDepth 20000 in
theorem ggL_law_L_pass : GoodIn wsL_law wsL_pass := goodIn_ca (goodIn_r _ [487, 89, 488, 489, 490, 2, 491, 95, 96, 132, 30, 492, 202, 203, 204, 467, 104, 105, 106, 468, 469, 470, 471, 493, 494, 495, 496, 22, 172, 321, 322, 323, 324, 325, 326, 327, 328, 193, 24, 194, 306, 410, 411, 412, 413, 632, 633, 634, 635, 636, 637, 638, 639, 640, 641, 642, 643, 644, 645, 684, 685, 686, 687, 688, 689, 690, 691, 692, 693] (by decide +kernel) (by decide +kernel)) (goodIn_sub (fun _ h => List.mem_append_left _ (List.mem_append_left _ (List.mem_append_right _ h))) (by decide +kernel))
set_option maxRecDepth 20000 in
theorem gL_law_L_pass : GoodIn wsL_law (va_wsS RL 121 yL_pass wsL_pass) := goodIn_app (goodIn_of _ (by decide +kernel)) ggL_law_L_pass
set_option maxRecDepth 20000 in
theorem ggL_law_X6_pass : GoodIn wsL_law wsX6_pass := goodIn_r _ [500, 111, 158, 484, 114, 115, 5, 116, 117, 118, 119, 120, 501, 502, 503, 504, 140, 268, 269, 270, 159, 160, 161, 505, 506, 507, 508, 77, 372, 202, 203, 204, 364, 365, 366, 367, 214, 79, 82, 422, 423, 424, 425, 646, 647, 648, 649, 650, 651, 652, 653, 654, 655, 656, 657, 658, 659, 660, 661, 662, 663, 664, 665, 666, 667, 668, 669, 670] (by decide +kernel) (by decide +kernel)
set_option maxRecDepth 20000 in
theorem gL_law_X6_pass : GoodIn wsL_law (wsV RL 123 RX6 yX6_pass wsX6_pass) := goodIn_app (goodIn_of _ (by decide +kernel)) ggL_law_X6_pass
set_option maxRecDepth 20000 in
theorem ggL_law_X5_fewest : GoodIn wsL_law wsX5_fewest := goodIn_r _ [512, 28, 513, 514, 515, 516, 2, 517, 132, 518, 519, 30, 520, 521, 522, 523, 524, 525, 193, 24, 194, 306, 321, 322, 323, 324, 325, 326, 327, 328, 329, 330, 331, 332, 196, 333, 334, 335, 36, 336, 337, 205, 206, 207, 203, 208, 209, 201, 202, 204, 338, 339, 340, 341, 195, 526, 527, 27, 528, 529, 530, 531, 532, 56, 57, 533, 55, 534, 535, 536, 537, 538, 539, 540, 541, 542, 543, 544, 31, 32, 99, 545, 546, 547, 342, 343, 344, 243, 244, 245, 246, 16, 102, 103, 101, 247, 248, 249, 250, 20, 133, 22, 148, 227, 251, 252, 253, 34, 254, 242, 234, 235, 236, 237, 134, 238, 239, 240, 241, 548, 549, 550, 551, 552, 632, 633, 634, 635, 636, 637, 638, 639, 640, 641, 642, 643, 644, 645, 678, 679, 680, 681, 682, 683, 688, 689, 690, 691, 692, 693, 671, 672, 673, 674, 675, 676, 677, 684, 685, 686, 687] (by decide +kernel) (by decide +kernel)
set_option maxRecDepth 20000 in
theorem gL_law_X5_fewest : GoodIn wsL_law (wsV RL 124 RX5 yX5_fewest wsX5_fewest) := goodIn_app (goodIn_of _ (by decide +kernel)) ggL_law_X5_fewest
set_option maxRecDepth 20000 in
theorem ggL_law_X6_fewest : GoodIn wsL_law wsX6_fewest := goodIn_r _ [556, 111, 158, 83, 557, 558, 559, 5, 560, 84, 214, 82, 360, 361, 362, 363, 79, 81, 140, 112, 268, 269, 270, 159, 160, 161, 364, 365, 366, 367, 368, 369, 370, 371, 80, 372, 202, 203, 204, 267, 207, 208, 373, 374, 375, 376, 75, 377, 378, 379, 380, 279, 280, 281, 282, 71, 113, 70, 283, 284, 285, 286, 72, 287, 288, 289, 290, 76, 271, 272, 273, 274, 73, 275, 276, 277, 278, 646, 647, 648, 649, 650, 651, 652, 653, 654, 655, 656, 657, 658, 659, 660, 661, 662, 663, 664, 665, 666, 667, 668, 669, 670] (by decide +kernel) (by decide +kernel)
set_option maxRecDepth 20000 in
theorem gL_law_X6_fewest : GoodIn wsL_law (wsV RL 127 RX6 yX6_fewest wsX6_fewest) := goodIn_app (goodIn_of _ (by decide +kernel)) ggL_law_X6_fewest
set_option maxRecDepth 20000 in
theorem ggL_law_X5_first : GoodIn wsL_law wsX5_first := goodIn_r _ [564, 28, 565, 514, 515, 516, 2, 517, 132, 518, 519, 30, 520, 521, 522, 523, 524, 525, 193, 24, 194, 306, 321, 322, 323, 324, 325, 326, 327, 328, 329, 330, 331, 332, 196, 333, 334, 335, 36, 336, 337, 205, 206, 207, 203, 208, 209, 201, 202, 204, 338, 339, 340, 341, 195, 526, 527, 27, 528, 529, 530, 531, 532, 56, 57, 533, 55, 534, 535, 536, 537, 538, 539, 540, 541, 542, 543, 544, 31, 32, 99, 545, 546, 547, 342, 343, 344, 243, 244, 245, 246, 16, 102, 103, 101, 247, 248, 249, 250, 20, 133, 22, 148, 227, 251, 252, 253, 34, 254, 242, 234, 235, 236, 237, 134, 238, 239, 240, 241, 548, 549, 550, 551, 552, 632, 633, 634, 635, 636, 637, 638, 639, 640, 641, 642, 643, 644, 645, 678, 679, 680, 681, 682, 683, 688, 689, 690, 691, 692, 693, 671, 672, 673, 674, 675, 676, 677, 684, 685, 686, 687] (by decide +kernel) (by decide +kernel)
set_option maxRecDepth 20000 in
theorem gL_law_X5_first : GoodIn wsL_law (wsV RL 128 RX5 yX5_first wsX5_first) := goodIn_app (goodIn_of _ (by decide +kernel)) ggL_law_X5_first
set_option maxRecDepth 20000 in
theorem ggL_law_X6_first : GoodIn wsL_law wsX6_first := goodIn_r _ [569, 111, 158, 83, 214, 82, 557, 558, 559, 5, 560, 84, 360, 361, 362, 363, 79, 81, 140, 112, 268, 269, 270, 159, 160, 161, 364, 365, 366, 367, 368, 369, 370, 371, 80, 372, 202, 203, 204, 267, 207, 208, 373, 374, 375, 376, 75, 377, 378, 379, 380, 279, 280, 281, 282, 71, 113, 70, 283, 284, 285, 286, 72, 287, 288, 289, 290, 76, 271, 272, 273, 274, 73, 275, 276, 277, 278, 646, 647, 648, 649, 650, 651, 652, 653, 654, 655, 656, 657, 658, 659, 660, 661, 662, 663, 664, 665, 666, 667, 668, 669, 670] (by decide +kernel) (by decide +kernel)
set_option maxRecDepth 20000 in
theorem gL_law_X6_first : GoodIn wsL_law (wsV RL 131 RX6 yX6_first wsX6_first) := goodIn_app (goodIn_of _ (by decide +kernel)) ggL_law_X6_first
set_option maxRecDepth 20000 in
theorem ggL_law_L_least : GoodIn wsL_law wsL_least := goodIn_ca (goodIn_r _ [572, 165, 573, 574, 575, 2, 576, 170, 171, 30, 28, 520, 521, 32, 492, 202, 203, 204, 174, 175, 176, 177, 132, 514, 515, 516, 517, 518, 519, 522, 523, 524, 525, 193, 24, 194, 306, 321, 322, 323, 324, 325, 326, 327, 328, 329, 330, 331, 332, 196, 333, 334, 335, 36, 336, 337, 205, 206, 207, 208, 209, 201, 338, 339, 340, 341, 195, 526, 527, 27, 528, 529, 530, 531, 532, 56, 57, 533, 55, 534, 535, 536, 537, 538, 539, 540, 541, 542, 543, 544, 31, 99, 545, 546, 547, 342, 343, 344, 243, 244, 245, 246, 16, 102, 103, 101, 247, 248, 249, 250, 20, 133, 22, 148, 227, 251, 252, 253, 34, 254, 242, 234, 235, 236, 237, 134, 238, 239, 240, 241, 548, 549, 550, 551, 552, 632, 633, 634, 635, 636, 637, 638, 639, 640, 641, 642, 643, 644, 645, 678, 679, 680, 681, 682, 683, 688, 689, 690, 691, 692, 693, 671, 672, 673, 674, 675, 676, 677, 684, 685, 686, 687] (by decide +kernel) (by decide +kernel)) (goodIn_sub (fun _ h => List.mem_append_right _ h) (by decide +kernel))
set_option maxRecDepth 20000 in
theorem gL_law_L_least : GoodIn wsL_law (va_wsS RL 132 yL_least wsL_least) := goodIn_app (goodIn_of _ (by decide +kernel)) ggL_law_L_least
set_option maxRecDepth 20000 in
theorem ggL_law_X6_least : GoodIn wsL_law wsX6_least := goodIn_r _ [580, 111, 158, 84, 372, 202, 203, 204, 182, 183, 184, 5, 185, 140, 114, 115, 116, 117, 118, 119, 120, 557, 558, 559, 560, 83, 214, 82, 360, 361, 362, 363, 79, 81, 112, 268, 269, 270, 159, 160, 161, 364, 365, 366, 367, 368, 369, 370, 371, 80, 267, 207, 208, 373, 374, 375, 376, 75, 377, 378, 379, 380, 279, 280, 281, 282, 71, 113, 70, 283, 284, 285, 286, 72, 287, 288, 289, 290, 76, 271, 272, 273, 274, 73, 275, 276, 277, 278, 646, 647, 648, 649, 650, 651, 652, 653, 654, 655, 656, 657, 658, 659, 660, 661, 662, 663, 664, 665, 666, 667, 668, 669, 670] (by decide +kernel) (by decide +kernel)
set_option maxRecDepth 20000 in
theorem gL_law_X6_least : GoodIn wsL_law (wsV RL 134 RX6 yX6_least wsX6_least) := goodIn_app (goodIn_of _ (by decide +kernel)) ggL_law_X6_least
set_option maxRecDepth 20000 in
theorem ggL_law_X5_falls : GoodIn wsL_law wsX5_falls := goodIn_r _ [584, 132, 227, 207, 203, 208, 585, 586, 587, 2, 588, 30, 493, 494, 495, 496, 22, 172, 321, 322, 323, 324, 325, 326, 327, 328, 193, 24, 194, 306, 410, 411, 412, 413, 632, 633, 634, 635, 636, 637, 638, 639, 640, 641, 642, 643, 644, 645, 684, 685, 686, 687, 688, 689, 690, 691, 692, 693] (by decide +kernel) (by decide +kernel)
set_option maxRecDepth 20000 in
theorem gL_law_X5_falls : GoodIn wsL_law (wsV RL 135 RX5 yX5_falls wsX5_falls) := goodIn_app (goodIn_of _ (by decide +kernel)) ggL_law_X5_falls
set_option maxRecDepth 20000 in
theorem ggL_law_X6_falls : GoodIn wsL_law wsX6_falls := goodIn_r _ [592, 111, 158, 140, 501, 502, 503, 5, 504, 268, 269, 270, 159, 160, 161, 505, 506, 507, 508, 77, 372, 202, 203, 204, 364, 365, 366, 367, 214, 79, 82, 422, 423, 424, 425, 646, 647, 648, 649, 650, 651, 652, 653, 654, 655, 656, 657, 658, 659, 660, 661, 662, 663, 664, 665, 666, 667, 668, 669, 670] (by decide +kernel) (by decide +kernel)
set_option maxRecDepth 20000 in
theorem gL_law_X6_falls : GoodIn wsL_law (wsV RL 138 RX6 yX6_falls wsX6_falls) := goodIn_app (goodIn_of _ (by decide +kernel)) ggL_law_X6_falls
set_option maxRecDepth 20000 in
theorem ggL_law_X5_mean : GoodIn wsL_law wsX5_mean := goodIn_r _ [596, 132, 30, 632, 633, 634, 635, 636, 637, 638, 639, 640, 641, 642, 643, 644, 645] (by decide +kernel) (by decide +kernel)
set_option maxRecDepth 20000 in
theorem gL_law_X5_mean : GoodIn wsL_law (wsV RL 139 RX5 yX5_mean wsX5_mean) := goodIn_app (goodIn_of _ (by decide +kernel)) ggL_law_X5_mean
set_option maxRecDepth 20000 in
theorem ggL_law_X6_mean : GoodIn wsL_law wsX6_mean := goodIn_r _ [600, 111, 140, 158, 268, 269, 5, 270, 159, 160, 161, 646, 647, 648, 649, 650, 651, 652, 653, 654, 655, 656, 657, 658, 659, 660, 661, 662, 663, 664, 665, 666, 667, 668, 669, 670] (by decide +kernel) (by decide +kernel)
set_option maxRecDepth 20000 in
theorem gL_law_X6_mean : GoodIn wsL_law (wsV RL 143 RX6 yX6_mean wsX6_mean) := goodIn_app (goodIn_of _ (by decide +kernel)) ggL_law_X6_mean
set_option maxRecDepth 20000 in
theorem ggL_law_X5_digest : GoodIn wsL_law wsX5_digest := goodIn_ca (goodIn_r _ [604, 605, 606, 20, 16, 132, 22, 193, 607, 464, 465, 2, 466, 170, 171, 467, 308, 307, 468, 469, 470, 471, 30, 472, 473, 474, 475, 24, 306, 608, 449, 450, 451, 99, 223, 224, 225, 226, 135, 227, 207, 203, 208, 228, 229, 230, 34, 231, 232, 61, 233, 234, 235, 236, 237, 134, 238, 239, 240, 241, 242, 247, 248, 249, 250, 133, 148, 251, 252, 253, 254, 219, 220, 221, 222, 100, 243, 244, 245, 246, 102, 103, 101, 609, 610, 611, 15, 612, 613, 40, 41, 42, 43, 614, 615, 616, 19, 617, 618, 47, 48, 49, 619, 407, 408, 409, 149, 172, 174, 175, 176, 177, 321, 322, 323, 324, 325, 326, 327, 328, 194, 410, 411, 412, 413, 620, 621, 622, 623, 624, 625, 430, 431, 432, 195, 196, 313, 314, 315, 316, 433, 434, 435, 436, 333, 334, 335, 36, 336, 337, 205, 206, 209, 201, 202, 204, 632, 633, 634, 635, 636, 637, 638, 639, 640, 641, 642, 643, 644, 645, 688, 689, 690, 691, 692, 693, 675, 676, 677, 684, 685, 686, 687, 671, 672, 673, 674] (by decide +kernel) (by decide +kernel)) (goodIn_sub (fun _ h => List.mem_append_right _ h) (by decide +kernel))
set_option maxRecDepth 20000 in
theorem gL_law_X5_digest : GoodIn wsL_law (wsV RL 144 RX5 yX5_digest wsX5_digest) := goodIn_app (goodIn_of _ (by decide +kernel)) ggL_law_X5_digest
set_option maxRecDepth 20000 in
theorem ggL_law_X6_digest : GoodIn wsL_law wsX6_digest := goodIn_r _ [629, 111, 630, 631, 29, 69, 70, 71, 113, 72, 73, 74, 140, 77, 78, 214, 480, 481, 482, 5, 483, 158, 82, 484, 354, 355, 268, 269, 270, 159, 160, 161, 456, 457, 458, 459, 112, 263, 264, 265, 266, 267, 207, 203, 208, 271, 272, 273, 274, 275, 276, 277, 278, 76, 283, 284, 285, 286, 75, 287, 288, 289, 290, 259, 260, 261, 262, 279, 280, 281, 282, 418, 419, 420, 421, 364, 365, 366, 367, 79, 422, 423, 424, 425, 441, 442, 443, 444, 80, 81, 368, 369, 370, 371, 372, 202, 204, 373, 374, 375, 376, 646, 647, 648, 649, 650, 651, 652, 653, 654, 655, 656, 657, 658, 659, 660, 661, 662, 663, 664, 665, 666, 667, 668, 669, 670] (by decide +kernel) (by decide +kernel)
set_option maxRecDepth 20000 in
theorem gL_law_X6_digest : GoodIn wsL_law (wsV RL 148 RX6 yX6_digest wsX6_digest) := goodIn_app (goodIn_of _ (by decide +kernel)) ggL_law_X6_digest
theorem dL_law_0 : decode cL_law 0 = .ok (.new 8, 3) := by decide +kernel
theorem dL_law_3 : decode cL_law 3 = .ok (.dup, 1) := by decide +kernel
theorem dL_law_4 : decode cL_law 4 = .ok (.invokespecial 62, 3) := by decide +kernel
theorem dL_law_7 : decode cL_law 7 = .ok (.astore_n 1, 1) := by decide +kernel
theorem dL_law_8 : decode cL_law 8 = .ok (.new 63, 3) := by decide +kernel
theorem dL_law_11 : decode cL_law 11 = .ok (.dup, 1) := by decide +kernel
theorem dL_law_12 : decode cL_law 12 = .ok (.invokespecial 65, 3) := by decide +kernel
theorem dL_law_15 : decode cL_law 15 = .ok (.astore_n 2, 1) := by decide +kernel
theorem dL_law_16 : decode cL_law 16 = .ok (.iconst 1, 1) := by decide +kernel
theorem dL_law_17 : decode cL_law 17 = .ok (.newarray .long, 2) := by decide +kernel
theorem dL_law_19 : decode cL_law 19 = .ok (.astore_n 3, 1) := by decide +kernel
theorem dL_law_20 : decode cL_law 20 = .ok (.iconst 0, 1) := by decide +kernel
theorem dL_law_21 : decode cL_law 21 = .ok (.istore 4, 2) := by decide +kernel
theorem dL_law_23 : decode cL_law 23 = .ok (.iload 4, 2) := by decide +kernel
theorem dL_law_25 : decode cL_law 25 = .ok (.aload_n 0, 1) := by decide +kernel
theorem dL_law_26 : decode cL_law 26 = .ok (.arraylength, 1) := by decide +kernel
theorem dL_law_27 : decode cL_law 27 = .ok (.iconst 5, 1) := by decide +kernel
theorem dL_law_28 : decode cL_law 28 = .ok (.isub, 1) := by decide +kernel
theorem dL_law_29 : decode cL_law 29 = .ok (.if_icmp .gt 1168, 3) := by decide +kernel
theorem dL_law_32 : decode cL_law 32 = .ok (.aload_n 0, 1) := by decide +kernel
theorem dL_law_33 : decode cL_law 33 = .ok (.iload 4, 2) := by decide +kernel
theorem dL_law_35 : decode cL_law 35 = .ok (.iaload, 1) := by decide +kernel
theorem dL_law_36 : decode cL_law 36 = .ok (.bipush 31, 2) := by decide +kernel
theorem dL_law_38 : decode cL_law 38 = .ok (.iand, 1) := by decide +kernel
theorem dL_law_39 : decode cL_law 39 = .ok (.tableswitch 1152 0 20 #[97, 189, 269, 337, 405, 485, 498, 511, 567, 623, 698, 766, 834, 890, 946, 1002, 1015, 1028, 1084, 1097, 1138], 97) := by decide +kernel
theorem dL_law_136 : decode cL_law 136 = .ok (.aload_n 1, 1) := by decide +kernel
theorem dL_law_137 : decode cL_law 137 = .ok (.aload_n 0, 1) := by decide +kernel
theorem dL_law_138 : decode cL_law 138 = .ok (.iload 4, 2) := by decide +kernel
theorem dL_law_140 : decode cL_law 140 = .ok (.iconst 1, 1) := by decide +kernel
theorem dL_law_141 : decode cL_law 141 = .ok (.iadd, 1) := by decide +kernel
theorem dL_law_142 : decode cL_law 142 = .ok (.iaload, 1) := by decide +kernel
theorem dL_law_143 : decode cL_law 143 = .ok (.aload_n 0, 1) := by decide +kernel
theorem dL_law_144 : decode cL_law 144 = .ok (.iload 4, 2) := by decide +kernel
theorem dL_law_146 : decode cL_law 146 = .ok (.iconst 2, 1) := by decide +kernel
theorem dL_law_147 : decode cL_law 147 = .ok (.iadd, 1) := by decide +kernel
theorem dL_law_148 : decode cL_law 148 = .ok (.iaload, 1) := by decide +kernel
theorem dL_law_149 : decode cL_law 149 = .ok (.aload_n 0, 1) := by decide +kernel
theorem dL_law_150 : decode cL_law 150 = .ok (.iload 4, 2) := by decide +kernel
theorem dL_law_152 : decode cL_law 152 = .ok (.iconst 3, 1) := by decide +kernel
theorem dL_law_153 : decode cL_law 153 = .ok (.iadd, 1) := by decide +kernel
theorem dL_law_154 : decode cL_law 154 = .ok (.iaload, 1) := by decide +kernel
theorem dL_law_155 : decode cL_law 155 = .ok (.aload_n 0, 1) := by decide +kernel
theorem dL_law_156 : decode cL_law 156 = .ok (.iload 4, 2) := by decide +kernel
theorem dL_law_158 : decode cL_law 158 = .ok (.iconst 4, 1) := by decide +kernel
theorem dL_law_159 : decode cL_law 159 = .ok (.iadd, 1) := by decide +kernel
theorem dL_law_160 : decode cL_law 160 = .ok (.iaload, 1) := by decide +kernel
theorem dL_law_161 : decode cL_law 161 = .ok (.aload_n 3, 1) := by decide +kernel
theorem dL_law_162 : decode cL_law 162 = .ok (.invokestatic 66, 3) := by decide +kernel
theorem dL_law_165 : decode cL_law 165 = .ok (.istore 5, 2) := by decide +kernel
theorem dL_law_167 : decode cL_law 167 = .ok (.aload_n 2, 1) := by decide +kernel
theorem dL_law_168 : decode cL_law 168 = .ok (.aload_n 0, 1) := by decide +kernel
theorem dL_law_169 : decode cL_law 169 = .ok (.iload 4, 2) := by decide +kernel
theorem dL_law_171 : decode cL_law 171 = .ok (.iconst 1, 1) := by decide +kernel
theorem dL_law_172 : decode cL_law 172 = .ok (.iadd, 1) := by decide +kernel
theorem dL_law_173 : decode cL_law 173 = .ok (.iaload, 1) := by decide +kernel
theorem dL_law_174 : decode cL_law 174 = .ok (.aload_n 0, 1) := by decide +kernel
theorem dL_law_175 : decode cL_law 175 = .ok (.iload 4, 2) := by decide +kernel
theorem dL_law_177 : decode cL_law 177 = .ok (.iconst 2, 1) := by decide +kernel
theorem dL_law_178 : decode cL_law 178 = .ok (.iadd, 1) := by decide +kernel
theorem dL_law_179 : decode cL_law 179 = .ok (.iaload, 1) := by decide +kernel
theorem dL_law_180 : decode cL_law 180 = .ok (.aload_n 0, 1) := by decide +kernel
theorem dL_law_181 : decode cL_law 181 = .ok (.iload 4, 2) := by decide +kernel
theorem dL_law_183 : decode cL_law 183 = .ok (.iconst 3, 1) := by decide +kernel
theorem dL_law_184 : decode cL_law 184 = .ok (.iadd, 1) := by decide +kernel
theorem dL_law_185 : decode cL_law 185 = .ok (.iaload, 1) := by decide +kernel
theorem dL_law_186 : decode cL_law 186 = .ok (.aload_n 0, 1) := by decide +kernel
theorem dL_law_187 : decode cL_law 187 = .ok (.iload 4, 2) := by decide +kernel
theorem dL_law_189 : decode cL_law 189 = .ok (.iconst 4, 1) := by decide +kernel
theorem dL_law_190 : decode cL_law 190 = .ok (.iadd, 1) := by decide +kernel
theorem dL_law_191 : decode cL_law 191 = .ok (.iaload, 1) := by decide +kernel
theorem dL_law_192 : decode cL_law 192 = .ok (.invokevirtual 71, 3) := by decide +kernel
theorem dL_law_195 : decode cL_law 195 = .ok (.istore 6, 2) := by decide +kernel
theorem dL_law_197 : decode cL_law 197 = .ok (.aload_n 2, 1) := by decide +kernel
theorem dL_law_198 : decode cL_law 198 = .ok (.invokevirtual 72, 3) := by decide +kernel
theorem dL_law_201 : decode cL_law 201 = .ok (.iload 5, 2) := by decide +kernel
theorem dL_law_203 : decode cL_law 203 = .ok (.if_icmp .eq 5, 3) := by decide +kernel
theorem dL_law_206 : decode cL_law 206 = .ok (.iconst 0, 1) := by decide +kernel
theorem dL_law_207 : decode cL_law 207 = .ok (.ireturn, 1) := by decide +kernel
theorem dL_law_208 : decode cL_law 208 = .ok (.iload 5, 2) := by decide +kernel
theorem dL_law_210 : decode cL_law 210 = .ok (.ifCond .ne 15, 3) := by decide +kernel
theorem dL_law_213 : decode cL_law 213 = .ok (.aload_n 3, 1) := by decide +kernel
theorem dL_law_214 : decode cL_law 214 = .ok (.iconst 0, 1) := by decide +kernel
theorem dL_law_215 : decode cL_law 215 = .ok (.laload, 1) := by decide +kernel
theorem dL_law_216 : decode cL_law 216 = .ok (.iload 6, 2) := by decide +kernel
theorem dL_law_218 : decode cL_law 218 = .ok (.i2l, 1) := by decide +kernel
theorem dL_law_219 : decode cL_law 219 = .ok (.lcmp, 1) := by decide +kernel
theorem dL_law_220 : decode cL_law 220 = .ok (.ifCond .eq 5, 3) := by decide +kernel
theorem dL_law_223 : decode cL_law 223 = .ok (.iconst 0, 1) := by decide +kernel
theorem dL_law_224 : decode cL_law 224 = .ok (.ireturn, 1) := by decide +kernel
theorem dL_law_225 : decode cL_law 225 = .ok (.goto 966, 3) := by decide +kernel
theorem dL_law_228 : decode cL_law 228 = .ok (.aload_n 1, 1) := by decide +kernel
theorem dL_law_229 : decode cL_law 229 = .ok (.aload_n 0, 1) := by decide +kernel
theorem dL_law_230 : decode cL_law 230 = .ok (.iload 4, 2) := by decide +kernel
theorem dL_law_232 : decode cL_law 232 = .ok (.iconst 1, 1) := by decide +kernel
theorem dL_law_233 : decode cL_law 233 = .ok (.iadd, 1) := by decide +kernel
theorem dL_law_234 : decode cL_law 234 = .ok (.iaload, 1) := by decide +kernel
theorem dL_law_235 : decode cL_law 235 = .ok (.aload_n 0, 1) := by decide +kernel
theorem dL_law_236 : decode cL_law 236 = .ok (.iload 4, 2) := by decide +kernel
theorem dL_law_238 : decode cL_law 238 = .ok (.iconst 2, 1) := by decide +kernel
theorem dL_law_239 : decode cL_law 239 = .ok (.iadd, 1) := by decide +kernel
theorem dL_law_240 : decode cL_law 240 = .ok (.iaload, 1) := by decide +kernel
theorem dL_law_241 : decode cL_law 241 = .ok (.aload_n 0, 1) := by decide +kernel
theorem dL_law_242 : decode cL_law 242 = .ok (.iload 4, 2) := by decide +kernel
theorem dL_law_244 : decode cL_law 244 = .ok (.iconst 3, 1) := by decide +kernel
theorem dL_law_245 : decode cL_law 245 = .ok (.iadd, 1) := by decide +kernel
theorem dL_law_246 : decode cL_law 246 = .ok (.iaload, 1) := by decide +kernel
theorem dL_law_247 : decode cL_law 247 = .ok (.aload_n 3, 1) := by decide +kernel
theorem dL_law_248 : decode cL_law 248 = .ok (.invokestatic 76, 3) := by decide +kernel
theorem dL_law_251 : decode cL_law 251 = .ok (.istore 5, 2) := by decide +kernel
theorem dL_law_253 : decode cL_law 253 = .ok (.aload_n 2, 1) := by decide +kernel
theorem dL_law_254 : decode cL_law 254 = .ok (.aload_n 0, 1) := by decide +kernel
theorem dL_law_255 : decode cL_law 255 = .ok (.iload 4, 2) := by decide +kernel
theorem dL_law_257 : decode cL_law 257 = .ok (.iconst 1, 1) := by decide +kernel
theorem dL_law_258 : decode cL_law 258 = .ok (.iadd, 1) := by decide +kernel
theorem dL_law_259 : decode cL_law 259 = .ok (.iaload, 1) := by decide +kernel
theorem dL_law_260 : decode cL_law 260 = .ok (.aload_n 0, 1) := by decide +kernel
theorem dL_law_261 : decode cL_law 261 = .ok (.iload 4, 2) := by decide +kernel
theorem dL_law_263 : decode cL_law 263 = .ok (.iconst 2, 1) := by decide +kernel
theorem dL_law_264 : decode cL_law 264 = .ok (.iadd, 1) := by decide +kernel
theorem dL_law_265 : decode cL_law 265 = .ok (.iaload, 1) := by decide +kernel
theorem dL_law_266 : decode cL_law 266 = .ok (.aload_n 0, 1) := by decide +kernel
theorem dL_law_267 : decode cL_law 267 = .ok (.iload 4, 2) := by decide +kernel
theorem dL_law_269 : decode cL_law 269 = .ok (.iconst 3, 1) := by decide +kernel
theorem dL_law_270 : decode cL_law 270 = .ok (.iadd, 1) := by decide +kernel
theorem dL_law_271 : decode cL_law 271 = .ok (.iaload, 1) := by decide +kernel
theorem dL_law_272 : decode cL_law 272 = .ok (.invokevirtual 79, 3) := by decide +kernel
theorem dL_law_275 : decode cL_law 275 = .ok (.istore 6, 2) := by decide +kernel
theorem dL_law_277 : decode cL_law 277 = .ok (.aload_n 2, 1) := by decide +kernel
theorem dL_law_278 : decode cL_law 278 = .ok (.invokevirtual 72, 3) := by decide +kernel
theorem dL_law_281 : decode cL_law 281 = .ok (.iload 5, 2) := by decide +kernel
theorem dL_law_283 : decode cL_law 283 = .ok (.if_icmp .eq 5, 3) := by decide +kernel
theorem dL_law_286 : decode cL_law 286 = .ok (.iconst 0, 1) := by decide +kernel
theorem dL_law_287 : decode cL_law 287 = .ok (.ireturn, 1) := by decide +kernel
theorem dL_law_288 : decode cL_law 288 = .ok (.iload 5, 2) := by decide +kernel
theorem dL_law_290 : decode cL_law 290 = .ok (.ifCond .ne 15, 3) := by decide +kernel
theorem dL_law_293 : decode cL_law 293 = .ok (.aload_n 3, 1) := by decide +kernel
theorem dL_law_294 : decode cL_law 294 = .ok (.iconst 0, 1) := by decide +kernel
theorem dL_law_295 : decode cL_law 295 = .ok (.laload, 1) := by decide +kernel
theorem dL_law_296 : decode cL_law 296 = .ok (.iload 6, 2) := by decide +kernel
theorem dL_law_298 : decode cL_law 298 = .ok (.i2l, 1) := by decide +kernel
theorem dL_law_299 : decode cL_law 299 = .ok (.lcmp, 1) := by decide +kernel
theorem dL_law_300 : decode cL_law 300 = .ok (.ifCond .eq 5, 3) := by decide +kernel
theorem dL_law_303 : decode cL_law 303 = .ok (.iconst 0, 1) := by decide +kernel
theorem dL_law_304 : decode cL_law 304 = .ok (.ireturn, 1) := by decide +kernel
theorem dL_law_305 : decode cL_law 305 = .ok (.goto 886, 3) := by decide +kernel
theorem dL_law_308 : decode cL_law 308 = .ok (.aload_n 1, 1) := by decide +kernel
theorem dL_law_309 : decode cL_law 309 = .ok (.aload_n 0, 1) := by decide +kernel
theorem dL_law_310 : decode cL_law 310 = .ok (.iload 4, 2) := by decide +kernel
theorem dL_law_312 : decode cL_law 312 = .ok (.iconst 1, 1) := by decide +kernel
theorem dL_law_313 : decode cL_law 313 = .ok (.iadd, 1) := by decide +kernel
theorem dL_law_314 : decode cL_law 314 = .ok (.iaload, 1) := by decide +kernel
theorem dL_law_315 : decode cL_law 315 = .ok (.aload_n 0, 1) := by decide +kernel
theorem dL_law_316 : decode cL_law 316 = .ok (.iload 4, 2) := by decide +kernel
theorem dL_law_318 : decode cL_law 318 = .ok (.iconst 2, 1) := by decide +kernel
theorem dL_law_319 : decode cL_law 319 = .ok (.iadd, 1) := by decide +kernel
theorem dL_law_320 : decode cL_law 320 = .ok (.iaload, 1) := by decide +kernel
theorem dL_law_321 : decode cL_law 321 = .ok (.aload_n 3, 1) := by decide +kernel
theorem dL_law_322 : decode cL_law 322 = .ok (.invokestatic 80, 3) := by decide +kernel
theorem dL_law_325 : decode cL_law 325 = .ok (.istore 5, 2) := by decide +kernel
theorem dL_law_327 : decode cL_law 327 = .ok (.aload_n 2, 1) := by decide +kernel
theorem dL_law_328 : decode cL_law 328 = .ok (.aload_n 0, 1) := by decide +kernel
theorem dL_law_329 : decode cL_law 329 = .ok (.iload 4, 2) := by decide +kernel
theorem dL_law_331 : decode cL_law 331 = .ok (.iconst 1, 1) := by decide +kernel
theorem dL_law_332 : decode cL_law 332 = .ok (.iadd, 1) := by decide +kernel
theorem dL_law_333 : decode cL_law 333 = .ok (.iaload, 1) := by decide +kernel
theorem dL_law_334 : decode cL_law 334 = .ok (.aload_n 0, 1) := by decide +kernel
theorem dL_law_335 : decode cL_law 335 = .ok (.iload 4, 2) := by decide +kernel
theorem dL_law_337 : decode cL_law 337 = .ok (.iconst 2, 1) := by decide +kernel
theorem dL_law_338 : decode cL_law 338 = .ok (.iadd, 1) := by decide +kernel
theorem dL_law_339 : decode cL_law 339 = .ok (.iaload, 1) := by decide +kernel
theorem dL_law_340 : decode cL_law 340 = .ok (.invokevirtual 83, 3) := by decide +kernel
theorem dL_law_343 : decode cL_law 343 = .ok (.istore 6, 2) := by decide +kernel
theorem dL_law_345 : decode cL_law 345 = .ok (.aload_n 2, 1) := by decide +kernel
theorem dL_law_346 : decode cL_law 346 = .ok (.invokevirtual 72, 3) := by decide +kernel
theorem dL_law_349 : decode cL_law 349 = .ok (.iload 5, 2) := by decide +kernel
theorem dL_law_351 : decode cL_law 351 = .ok (.if_icmp .eq 5, 3) := by decide +kernel
theorem dL_law_354 : decode cL_law 354 = .ok (.iconst 0, 1) := by decide +kernel
theorem dL_law_355 : decode cL_law 355 = .ok (.ireturn, 1) := by decide +kernel
theorem dL_law_356 : decode cL_law 356 = .ok (.iload 5, 2) := by decide +kernel
theorem dL_law_358 : decode cL_law 358 = .ok (.ifCond .ne 15, 3) := by decide +kernel
theorem dL_law_361 : decode cL_law 361 = .ok (.aload_n 3, 1) := by decide +kernel
theorem dL_law_362 : decode cL_law 362 = .ok (.iconst 0, 1) := by decide +kernel
theorem dL_law_363 : decode cL_law 363 = .ok (.laload, 1) := by decide +kernel
theorem dL_law_364 : decode cL_law 364 = .ok (.iload 6, 2) := by decide +kernel
theorem dL_law_366 : decode cL_law 366 = .ok (.i2l, 1) := by decide +kernel
theorem dL_law_367 : decode cL_law 367 = .ok (.lcmp, 1) := by decide +kernel
theorem dL_law_368 : decode cL_law 368 = .ok (.ifCond .eq 5, 3) := by decide +kernel
theorem dL_law_371 : decode cL_law 371 = .ok (.iconst 0, 1) := by decide +kernel
theorem dL_law_372 : decode cL_law 372 = .ok (.ireturn, 1) := by decide +kernel
theorem dL_law_373 : decode cL_law 373 = .ok (.goto 818, 3) := by decide +kernel
theorem dL_law_376 : decode cL_law 376 = .ok (.aload_n 1, 1) := by decide +kernel
theorem dL_law_377 : decode cL_law 377 = .ok (.aload_n 0, 1) := by decide +kernel
theorem dL_law_378 : decode cL_law 378 = .ok (.iload 4, 2) := by decide +kernel
theorem dL_law_380 : decode cL_law 380 = .ok (.iconst 1, 1) := by decide +kernel
theorem dL_law_381 : decode cL_law 381 = .ok (.iadd, 1) := by decide +kernel
theorem dL_law_382 : decode cL_law 382 = .ok (.iaload, 1) := by decide +kernel
theorem dL_law_383 : decode cL_law 383 = .ok (.aload_n 0, 1) := by decide +kernel
theorem dL_law_384 : decode cL_law 384 = .ok (.iload 4, 2) := by decide +kernel
theorem dL_law_386 : decode cL_law 386 = .ok (.iconst 2, 1) := by decide +kernel
theorem dL_law_387 : decode cL_law 387 = .ok (.iadd, 1) := by decide +kernel
theorem dL_law_388 : decode cL_law 388 = .ok (.iaload, 1) := by decide +kernel
theorem dL_law_389 : decode cL_law 389 = .ok (.aload_n 3, 1) := by decide +kernel
theorem dL_law_390 : decode cL_law 390 = .ok (.invokestatic 84, 3) := by decide +kernel
theorem dL_law_393 : decode cL_law 393 = .ok (.istore 5, 2) := by decide +kernel
theorem dL_law_395 : decode cL_law 395 = .ok (.aload_n 2, 1) := by decide +kernel
theorem dL_law_396 : decode cL_law 396 = .ok (.aload_n 0, 1) := by decide +kernel
theorem dL_law_397 : decode cL_law 397 = .ok (.iload 4, 2) := by decide +kernel
theorem dL_law_399 : decode cL_law 399 = .ok (.iconst 1, 1) := by decide +kernel
theorem dL_law_400 : decode cL_law 400 = .ok (.iadd, 1) := by decide +kernel
theorem dL_law_401 : decode cL_law 401 = .ok (.iaload, 1) := by decide +kernel
theorem dL_law_402 : decode cL_law 402 = .ok (.aload_n 0, 1) := by decide +kernel
theorem dL_law_403 : decode cL_law 403 = .ok (.iload 4, 2) := by decide +kernel
theorem dL_law_405 : decode cL_law 405 = .ok (.iconst 2, 1) := by decide +kernel
theorem dL_law_406 : decode cL_law 406 = .ok (.iadd, 1) := by decide +kernel
theorem dL_law_407 : decode cL_law 407 = .ok (.iaload, 1) := by decide +kernel
theorem dL_law_408 : decode cL_law 408 = .ok (.invokevirtual 86, 3) := by decide +kernel
theorem dL_law_411 : decode cL_law 411 = .ok (.istore 6, 2) := by decide +kernel
theorem dL_law_413 : decode cL_law 413 = .ok (.aload_n 2, 1) := by decide +kernel
theorem dL_law_414 : decode cL_law 414 = .ok (.invokevirtual 72, 3) := by decide +kernel
theorem dL_law_417 : decode cL_law 417 = .ok (.iload 5, 2) := by decide +kernel
theorem dL_law_419 : decode cL_law 419 = .ok (.if_icmp .eq 5, 3) := by decide +kernel
theorem dL_law_422 : decode cL_law 422 = .ok (.iconst 0, 1) := by decide +kernel
theorem dL_law_423 : decode cL_law 423 = .ok (.ireturn, 1) := by decide +kernel
theorem dL_law_424 : decode cL_law 424 = .ok (.iload 5, 2) := by decide +kernel
theorem dL_law_426 : decode cL_law 426 = .ok (.ifCond .ne 15, 3) := by decide +kernel
theorem dL_law_429 : decode cL_law 429 = .ok (.aload_n 3, 1) := by decide +kernel
theorem dL_law_430 : decode cL_law 430 = .ok (.iconst 0, 1) := by decide +kernel
theorem dL_law_431 : decode cL_law 431 = .ok (.laload, 1) := by decide +kernel
theorem dL_law_432 : decode cL_law 432 = .ok (.iload 6, 2) := by decide +kernel
theorem dL_law_434 : decode cL_law 434 = .ok (.i2l, 1) := by decide +kernel
theorem dL_law_435 : decode cL_law 435 = .ok (.lcmp, 1) := by decide +kernel
theorem dL_law_436 : decode cL_law 436 = .ok (.ifCond .eq 5, 3) := by decide +kernel
theorem dL_law_439 : decode cL_law 439 = .ok (.iconst 0, 1) := by decide +kernel
theorem dL_law_440 : decode cL_law 440 = .ok (.ireturn, 1) := by decide +kernel
theorem dL_law_441 : decode cL_law 441 = .ok (.goto 750, 3) := by decide +kernel
theorem dL_law_444 : decode cL_law 444 = .ok (.aload_n 1, 1) := by decide +kernel
theorem dL_law_445 : decode cL_law 445 = .ok (.aload_n 0, 1) := by decide +kernel
theorem dL_law_446 : decode cL_law 446 = .ok (.iload 4, 2) := by decide +kernel
theorem dL_law_448 : decode cL_law 448 = .ok (.iconst 1, 1) := by decide +kernel
theorem dL_law_449 : decode cL_law 449 = .ok (.iadd, 1) := by decide +kernel
theorem dL_law_450 : decode cL_law 450 = .ok (.iaload, 1) := by decide +kernel
theorem dL_law_451 : decode cL_law 451 = .ok (.aload_n 0, 1) := by decide +kernel
theorem dL_law_452 : decode cL_law 452 = .ok (.iload 4, 2) := by decide +kernel
theorem dL_law_454 : decode cL_law 454 = .ok (.iconst 2, 1) := by decide +kernel
theorem dL_law_455 : decode cL_law 455 = .ok (.iadd, 1) := by decide +kernel
theorem dL_law_456 : decode cL_law 456 = .ok (.iaload, 1) := by decide +kernel
theorem dL_law_457 : decode cL_law 457 = .ok (.aload_n 0, 1) := by decide +kernel
theorem dL_law_458 : decode cL_law 458 = .ok (.iload 4, 2) := by decide +kernel
theorem dL_law_460 : decode cL_law 460 = .ok (.iconst 3, 1) := by decide +kernel
theorem dL_law_461 : decode cL_law 461 = .ok (.iadd, 1) := by decide +kernel
theorem dL_law_462 : decode cL_law 462 = .ok (.iaload, 1) := by decide +kernel
theorem dL_law_463 : decode cL_law 463 = .ok (.aload_n 3, 1) := by decide +kernel
theorem dL_law_464 : decode cL_law 464 = .ok (.invokestatic 87, 3) := by decide +kernel
theorem dL_law_467 : decode cL_law 467 = .ok (.istore 5, 2) := by decide +kernel
theorem dL_law_469 : decode cL_law 469 = .ok (.aload_n 2, 1) := by decide +kernel
theorem dL_law_470 : decode cL_law 470 = .ok (.aload_n 0, 1) := by decide +kernel
theorem dL_law_471 : decode cL_law 471 = .ok (.iload 4, 2) := by decide +kernel
theorem dL_law_473 : decode cL_law 473 = .ok (.iconst 1, 1) := by decide +kernel
theorem dL_law_474 : decode cL_law 474 = .ok (.iadd, 1) := by decide +kernel
theorem dL_law_475 : decode cL_law 475 = .ok (.iaload, 1) := by decide +kernel
theorem dL_law_476 : decode cL_law 476 = .ok (.aload_n 0, 1) := by decide +kernel
theorem dL_law_477 : decode cL_law 477 = .ok (.iload 4, 2) := by decide +kernel
theorem dL_law_479 : decode cL_law 479 = .ok (.iconst 2, 1) := by decide +kernel
theorem dL_law_480 : decode cL_law 480 = .ok (.iadd, 1) := by decide +kernel
theorem dL_law_481 : decode cL_law 481 = .ok (.iaload, 1) := by decide +kernel
theorem dL_law_482 : decode cL_law 482 = .ok (.aload_n 0, 1) := by decide +kernel
theorem dL_law_483 : decode cL_law 483 = .ok (.iload 4, 2) := by decide +kernel
theorem dL_law_485 : decode cL_law 485 = .ok (.iconst 3, 1) := by decide +kernel
theorem dL_law_486 : decode cL_law 486 = .ok (.iadd, 1) := by decide +kernel
theorem dL_law_487 : decode cL_law 487 = .ok (.iaload, 1) := by decide +kernel
theorem dL_law_488 : decode cL_law 488 = .ok (.invokevirtual 89, 3) := by decide +kernel
theorem dL_law_491 : decode cL_law 491 = .ok (.istore 6, 2) := by decide +kernel
theorem dL_law_493 : decode cL_law 493 = .ok (.aload_n 2, 1) := by decide +kernel
theorem dL_law_494 : decode cL_law 494 = .ok (.invokevirtual 72, 3) := by decide +kernel
theorem dL_law_497 : decode cL_law 497 = .ok (.iload 5, 2) := by decide +kernel
theorem dL_law_499 : decode cL_law 499 = .ok (.if_icmp .eq 5, 3) := by decide +kernel
theorem dL_law_502 : decode cL_law 502 = .ok (.iconst 0, 1) := by decide +kernel
theorem dL_law_503 : decode cL_law 503 = .ok (.ireturn, 1) := by decide +kernel
theorem dL_law_504 : decode cL_law 504 = .ok (.iload 5, 2) := by decide +kernel
theorem dL_law_506 : decode cL_law 506 = .ok (.ifCond .ne 15, 3) := by decide +kernel
theorem dL_law_509 : decode cL_law 509 = .ok (.aload_n 3, 1) := by decide +kernel
theorem dL_law_510 : decode cL_law 510 = .ok (.iconst 0, 1) := by decide +kernel
theorem dL_law_511 : decode cL_law 511 = .ok (.laload, 1) := by decide +kernel
theorem dL_law_512 : decode cL_law 512 = .ok (.iload 6, 2) := by decide +kernel
theorem dL_law_514 : decode cL_law 514 = .ok (.i2l, 1) := by decide +kernel
theorem dL_law_515 : decode cL_law 515 = .ok (.lcmp, 1) := by decide +kernel
theorem dL_law_516 : decode cL_law 516 = .ok (.ifCond .eq 5, 3) := by decide +kernel
theorem dL_law_519 : decode cL_law 519 = .ok (.iconst 0, 1) := by decide +kernel
theorem dL_law_520 : decode cL_law 520 = .ok (.ireturn, 1) := by decide +kernel
theorem dL_law_521 : decode cL_law 521 = .ok (.goto 670, 3) := by decide +kernel
theorem dL_law_524 : decode cL_law 524 = .ok (.aload_n 1, 1) := by decide +kernel
theorem dL_law_525 : decode cL_law 525 = .ok (.invokevirtual 90, 3) := by decide +kernel
theorem dL_law_528 : decode cL_law 528 = .ok (.aload_n 2, 1) := by decide +kernel
theorem dL_law_529 : decode cL_law 529 = .ok (.invokevirtual 94, 3) := by decide +kernel
theorem dL_law_532 : decode cL_law 532 = .ok (.if_icmp .eq 659, 3) := by decide +kernel
theorem dL_law_535 : decode cL_law 535 = .ok (.iconst 0, 1) := by decide +kernel
theorem dL_law_536 : decode cL_law 536 = .ok (.ireturn, 1) := by decide +kernel
theorem dL_law_537 : decode cL_law 537 = .ok (.aload_n 1, 1) := by decide +kernel
theorem dL_law_538 : decode cL_law 538 = .ok (.invokevirtual 95, 3) := by decide +kernel
theorem dL_law_541 : decode cL_law 541 = .ok (.aload_n 2, 1) := by decide +kernel
theorem dL_law_542 : decode cL_law 542 = .ok (.invokevirtual 98, 3) := by decide +kernel
theorem dL_law_545 : decode cL_law 545 = .ok (.if_icmp .eq 646, 3) := by decide +kernel
theorem dL_law_548 : decode cL_law 548 = .ok (.iconst 0, 1) := by decide +kernel
theorem dL_law_549 : decode cL_law 549 = .ok (.ireturn, 1) := by decide +kernel
theorem dL_law_550 : decode cL_law 550 = .ok (.aload_n 1, 1) := by decide +kernel
theorem dL_law_551 : decode cL_law 551 = .ok (.aload_n 0, 1) := by decide +kernel
theorem dL_law_552 : decode cL_law 552 = .ok (.iload 4, 2) := by decide +kernel
theorem dL_law_554 : decode cL_law 554 = .ok (.iconst 1, 1) := by decide +kernel
theorem dL_law_555 : decode cL_law 555 = .ok (.iadd, 1) := by decide +kernel
theorem dL_law_556 : decode cL_law 556 = .ok (.iaload, 1) := by decide +kernel
theorem dL_law_557 : decode cL_law 557 = .ok (.aload_n 3, 1) := by decide +kernel
theorem dL_law_558 : decode cL_law 558 = .ok (.invokestatic 99, 3) := by decide +kernel
theorem dL_law_561 : decode cL_law 561 = .ok (.istore 5, 2) := by decide +kernel
theorem dL_law_563 : decode cL_law 563 = .ok (.aload_n 2, 1) := by decide +kernel
theorem dL_law_564 : decode cL_law 564 = .ok (.aload_n 0, 1) := by decide +kernel
theorem dL_law_565 : decode cL_law 565 = .ok (.iload 4, 2) := by decide +kernel
theorem dL_law_567 : decode cL_law 567 = .ok (.iconst 1, 1) := by decide +kernel
theorem dL_law_568 : decode cL_law 568 = .ok (.iadd, 1) := by decide +kernel
theorem dL_law_569 : decode cL_law 569 = .ok (.iaload, 1) := by decide +kernel
theorem dL_law_570 : decode cL_law 570 = .ok (.invokevirtual 102, 3) := by decide +kernel
theorem dL_law_573 : decode cL_law 573 = .ok (.istore 6, 2) := by decide +kernel
theorem dL_law_575 : decode cL_law 575 = .ok (.aload_n 2, 1) := by decide +kernel
theorem dL_law_576 : decode cL_law 576 = .ok (.invokevirtual 72, 3) := by decide +kernel
theorem dL_law_579 : decode cL_law 579 = .ok (.iload 5, 2) := by decide +kernel
theorem dL_law_581 : decode cL_law 581 = .ok (.if_icmp .eq 5, 3) := by decide +kernel
theorem dL_law_584 : decode cL_law 584 = .ok (.iconst 0, 1) := by decide +kernel
theorem dL_law_585 : decode cL_law 585 = .ok (.ireturn, 1) := by decide +kernel
theorem dL_law_586 : decode cL_law 586 = .ok (.iload 5, 2) := by decide +kernel
theorem dL_law_588 : decode cL_law 588 = .ok (.ifCond .ne 15, 3) := by decide +kernel
theorem dL_law_591 : decode cL_law 591 = .ok (.aload_n 3, 1) := by decide +kernel
theorem dL_law_592 : decode cL_law 592 = .ok (.iconst 0, 1) := by decide +kernel
theorem dL_law_593 : decode cL_law 593 = .ok (.laload, 1) := by decide +kernel
theorem dL_law_594 : decode cL_law 594 = .ok (.iload 6, 2) := by decide +kernel
theorem dL_law_596 : decode cL_law 596 = .ok (.i2l, 1) := by decide +kernel
theorem dL_law_597 : decode cL_law 597 = .ok (.lcmp, 1) := by decide +kernel
theorem dL_law_598 : decode cL_law 598 = .ok (.ifCond .eq 5, 3) := by decide +kernel
theorem dL_law_601 : decode cL_law 601 = .ok (.iconst 0, 1) := by decide +kernel
theorem dL_law_602 : decode cL_law 602 = .ok (.ireturn, 1) := by decide +kernel
theorem dL_law_603 : decode cL_law 603 = .ok (.goto 588, 3) := by decide +kernel
theorem dL_law_606 : decode cL_law 606 = .ok (.aload_n 1, 1) := by decide +kernel
theorem dL_law_607 : decode cL_law 607 = .ok (.aload_n 0, 1) := by decide +kernel
theorem dL_law_608 : decode cL_law 608 = .ok (.iload 4, 2) := by decide +kernel
theorem dL_law_610 : decode cL_law 610 = .ok (.iconst 1, 1) := by decide +kernel
theorem dL_law_611 : decode cL_law 611 = .ok (.iadd, 1) := by decide +kernel
theorem dL_law_612 : decode cL_law 612 = .ok (.iaload, 1) := by decide +kernel
theorem dL_law_613 : decode cL_law 613 = .ok (.aload_n 3, 1) := by decide +kernel
theorem dL_law_614 : decode cL_law 614 = .ok (.invokestatic 103, 3) := by decide +kernel
theorem dL_law_617 : decode cL_law 617 = .ok (.istore 5, 2) := by decide +kernel
theorem dL_law_619 : decode cL_law 619 = .ok (.aload_n 2, 1) := by decide +kernel
theorem dL_law_620 : decode cL_law 620 = .ok (.aload_n 0, 1) := by decide +kernel
theorem dL_law_621 : decode cL_law 621 = .ok (.iload 4, 2) := by decide +kernel
theorem dL_law_623 : decode cL_law 623 = .ok (.iconst 1, 1) := by decide +kernel
theorem dL_law_624 : decode cL_law 624 = .ok (.iadd, 1) := by decide +kernel
theorem dL_law_625 : decode cL_law 625 = .ok (.iaload, 1) := by decide +kernel
theorem dL_law_626 : decode cL_law 626 = .ok (.invokevirtual 105, 3) := by decide +kernel
theorem dL_law_629 : decode cL_law 629 = .ok (.istore 6, 2) := by decide +kernel
theorem dL_law_631 : decode cL_law 631 = .ok (.aload_n 2, 1) := by decide +kernel
theorem dL_law_632 : decode cL_law 632 = .ok (.invokevirtual 72, 3) := by decide +kernel
theorem dL_law_635 : decode cL_law 635 = .ok (.iload 5, 2) := by decide +kernel
theorem dL_law_637 : decode cL_law 637 = .ok (.if_icmp .eq 5, 3) := by decide +kernel
theorem dL_law_640 : decode cL_law 640 = .ok (.iconst 0, 1) := by decide +kernel
theorem dL_law_641 : decode cL_law 641 = .ok (.ireturn, 1) := by decide +kernel
theorem dL_law_642 : decode cL_law 642 = .ok (.iload 5, 2) := by decide +kernel
theorem dL_law_644 : decode cL_law 644 = .ok (.ifCond .ne 15, 3) := by decide +kernel
theorem dL_law_647 : decode cL_law 647 = .ok (.aload_n 3, 1) := by decide +kernel
theorem dL_law_648 : decode cL_law 648 = .ok (.iconst 0, 1) := by decide +kernel
theorem dL_law_649 : decode cL_law 649 = .ok (.laload, 1) := by decide +kernel
theorem dL_law_650 : decode cL_law 650 = .ok (.iload 6, 2) := by decide +kernel
theorem dL_law_652 : decode cL_law 652 = .ok (.i2l, 1) := by decide +kernel
theorem dL_law_653 : decode cL_law 653 = .ok (.lcmp, 1) := by decide +kernel
theorem dL_law_654 : decode cL_law 654 = .ok (.ifCond .eq 5, 3) := by decide +kernel
theorem dL_law_657 : decode cL_law 657 = .ok (.iconst 0, 1) := by decide +kernel
theorem dL_law_658 : decode cL_law 658 = .ok (.ireturn, 1) := by decide +kernel
theorem dL_law_659 : decode cL_law 659 = .ok (.goto 532, 3) := by decide +kernel
theorem dL_law_662 : decode cL_law 662 = .ok (.aload_n 1, 1) := by decide +kernel
theorem dL_law_663 : decode cL_law 663 = .ok (.aload_n 0, 1) := by decide +kernel
theorem dL_law_664 : decode cL_law 664 = .ok (.iload 4, 2) := by decide +kernel
theorem dL_law_666 : decode cL_law 666 = .ok (.iconst 1, 1) := by decide +kernel
theorem dL_law_667 : decode cL_law 667 = .ok (.iadd, 1) := by decide +kernel
theorem dL_law_668 : decode cL_law 668 = .ok (.iaload, 1) := by decide +kernel
theorem dL_law_669 : decode cL_law 669 = .ok (.aload_n 0, 1) := by decide +kernel
theorem dL_law_670 : decode cL_law 670 = .ok (.iload 4, 2) := by decide +kernel
theorem dL_law_672 : decode cL_law 672 = .ok (.iconst 2, 1) := by decide +kernel
theorem dL_law_673 : decode cL_law 673 = .ok (.iadd, 1) := by decide +kernel
theorem dL_law_674 : decode cL_law 674 = .ok (.iaload, 1) := by decide +kernel
theorem dL_law_675 : decode cL_law 675 = .ok (.aload_n 3, 1) := by decide +kernel
theorem dL_law_676 : decode cL_law 676 = .ok (.invokestatic 106, 3) := by decide +kernel
theorem dL_law_679 : decode cL_law 679 = .ok (.istore 5, 2) := by decide +kernel
theorem dL_law_681 : decode cL_law 681 = .ok (.aload_n 2, 1) := by decide +kernel
theorem dL_law_682 : decode cL_law 682 = .ok (.aload_n 0, 1) := by decide +kernel
theorem dL_law_683 : decode cL_law 683 = .ok (.iload 4, 2) := by decide +kernel
theorem dL_law_685 : decode cL_law 685 = .ok (.iconst 1, 1) := by decide +kernel
theorem dL_law_686 : decode cL_law 686 = .ok (.iadd, 1) := by decide +kernel
theorem dL_law_687 : decode cL_law 687 = .ok (.iaload, 1) := by decide +kernel
