theorem dX5_pass_54 : decode cX5_pass 54 = .ok (.getfield 42, 3) := by decide +kernel
theorem dX5_pass_57 : decode cX5_pass 57 = .ok (.iload_n 3, 1) := by decide +kernel
theorem dX5_pass_58 : decode cX5_pass 58 = .ok (.bipush 9, 2) := by decide +kernel
theorem dX5_pass_60 : decode cX5_pass 60 = .ok (.aload_n 0, 1) := by decide +kernel
theorem dX5_pass_61 : decode cX5_pass 61 = .ok (.getfield 42, 3) := by decide +kernel
theorem dX5_pass_64 : decode cX5_pass 64 = .ok (.iload_n 3, 1) := by decide +kernel
theorem dX5_pass_65 : decode cX5_pass 65 = .ok (.iaload, 1) := by decide +kernel
theorem dX5_pass_66 : decode cX5_pass 66 = .ok (.iload 4, 2) := by decide +kernel
theorem dX5_pass_68 : decode cX5_pass 68 = .ok (.iadd, 1) := by decide +kernel
theorem dX5_pass_69 : decode cX5_pass 69 = .ok (.invokestatic 248, 3) := by decide +kernel
theorem dX5_pass_72 : decode cX5_pass 72 = .ok (.iastore, 1) := by decide +kernel
theorem dX5_pass_73 : decode cX5_pass 73 = .ok (.iinc 5 1, 3) := by decide +kernel
theorem dX5_pass_76 : decode cX5_pass 76 = .ok (.goto (-29), 3) := by decide +kernel
theorem dX5_pass_79 : decode cX5_pass 79 = .ok (.iinc 3 1, 3) := by decide +kernel
theorem dX5_pass_82 : decode cX5_pass 82 = .ok (.goto (-53), 3) := by decide +kernel
theorem dX5_pass_85 : decode cX5_pass 85 = .ok (.aload_n 0, 1) := by decide +kernel
theorem dX5_pass_86 : decode cX5_pass 86 = .ok (.dup, 1) := by decide +kernel
theorem dX5_pass_87 : decode cX5_pass 87 = .ok (.getfield 234, 3) := by decide +kernel
theorem dX5_pass_90 : decode cX5_pass 90 = .ok (.iload_n 1, 1) := by decide +kernel
theorem dX5_pass_91 : decode cX5_pass 91 = .ok (.iadd, 1) := by decide +kernel
theorem dX5_pass_92 : decode cX5_pass 92 = .ok (.putfield 234, 3) := by decide +kernel
theorem dX5_pass_95 : decode cX5_pass 95 = .ok (.aload_n 0, 1) := by decide +kernel
theorem dX5_pass_96 : decode cX5_pass 96 = .ok (.bipush 9, 2) := by decide +kernel
theorem dX5_pass_98 : decode cX5_pass 98 = .ok (.invokevirtual 237, 3) := by decide +kernel
theorem dX5_pass_101 : decode cX5_pass 101 = .ok (.iload_n 2, 1) := by decide +kernel
theorem dX5_pass_102 : decode cX5_pass 102 = .ok (.isub, 1) := by decide +kernel
theorem dX5_pass_103 : decode cX5_pass 103 = .ok (.ireturn, 1) := by decide +kernel
set_option maxRecDepth 20000 in
theorem ggX5_fewest_X5_explore : GoodIn wsX5_fewest wsX5_explore := goodIn_r _ [7, 8, 1, 9, 10, 11, 12, 13, 14, 15, 16, 6, 17, 18, 19, 20, 21, 22, 23, 24, 25, 26, 27, 28, 29, 30, 31, 32, 33, 34, 35, 36, 37, 38, 39, 40, 41, 42, 43, 44, 45, 46, 47, 48, 49, 50, 51, 52, 53, 54, 55, 56, 57, 58, 59, 60, 61, 62, 63, 64, 65, 66, 67, 68, 69, 70, 71, 72, 73, 74, 75, 76, 77, 78, 79, 80, 81, 82, 83, 84, 85, 86, 87, 88, 89, 90, 91, 92, 93, 94, 95, 96, 97, 98, 99, 100, 101, 102, 103, 104, 105, 106, 107, 108, 109, 110, 111, 112, 113, 114, 115, 116, 117, 118, 119, 120, 121, 122, 123, 124, 125, 126, 127, 128, 129, 130, 131, 132, 133, 134, 135, 136, 137, 138, 139, 140, 141, 142, 143, 144, 145, 146, 147, 148, 149, 150, 151, 152, 153, 154, 155, 156, 157, 158, 159, 160] (by decide +kernel) (by decide +kernel)
set_option maxRecDepth 20000 in
theorem gX5_fewest_X5_explore : GoodIn wsX5_fewest (wsV RX5 254 RX5 yX5_explore wsX5_explore) := goodIn_app (goodIn_of _ (by decide +kernel)) ggX5_fewest_X5_explore
theorem dX5_fewest_0 : decode cX5_fewest 0 = .ok (.aload_n 0, 1) := by decide +kernel
theorem dX5_fewest_1 : decode cX5_fewest 1 = .ok (.invokevirtual 254, 3) := by decide +kernel
theorem dX5_fewest_4 : decode cX5_fewest 4 = .ok (.aload_n 0, 1) := by decide +kernel
theorem dX5_fewest_5 : decode cX5_fewest 5 = .ok (.getfield 38, 3) := by decide +kernel
theorem dX5_fewest_8 : decode cX5_fewest 8 = .ok (.getfield 257, 3) := by decide +kernel
theorem dX5_fewest_11 : decode cX5_fewest 11 = .ok (.iconst 0, 1) := by decide +kernel
theorem dX5_fewest_12 : decode cX5_fewest 12 = .ok (.iaload, 1) := by decide +kernel
theorem dX5_fewest_13 : decode cX5_fewest 13 = .ok (.ireturn, 1) := by decide +kernel
set_option maxRecDepth 20000 in
theorem ggX5_first_X5_explore : GoodIn wsX5_first wsX5_explore := goodIn_r _ [7, 8, 1, 9, 10, 11, 12, 13, 14, 15, 16, 6, 17, 18, 19, 20, 21, 22, 23, 24, 25, 26, 27, 28, 29, 30, 31, 32, 33, 34, 35, 36, 37, 38, 39, 40, 41, 42, 43, 44, 45, 46, 47, 48, 49, 50, 51, 52, 53, 54, 55, 56, 57, 58, 59, 60, 61, 62, 63, 64, 65, 66, 67, 68, 69, 70, 71, 72, 73, 74, 75, 76, 77, 78, 79, 80, 81, 82, 83, 84, 85, 86, 87, 88, 89, 90, 91, 92, 93, 94, 95, 96, 97, 98, 99, 100, 101, 102, 103, 104, 105, 106, 107, 108, 109, 110, 111, 112, 113, 114, 115, 116, 117, 118, 119, 120, 121, 122, 123, 124, 125, 126, 127, 128, 129, 130, 131, 132, 133, 134, 135, 136, 137, 138, 139, 140, 141, 142, 143, 144, 145, 146, 147, 148, 149, 150, 151, 152, 153, 154, 155, 156, 157, 158, 159, 160] (by decide +kernel) (by decide +kernel)
set_option maxRecDepth 20000 in
theorem gX5_first_X5_explore : GoodIn wsX5_first (wsV RX5 254 RX5 yX5_explore wsX5_explore) := goodIn_app (goodIn_of _ (by decide +kernel)) ggX5_first_X5_explore
theorem dX5_first_0 : decode cX5_first 0 = .ok (.aload_n 0, 1) := by decide +kernel
theorem dX5_first_1 : decode cX5_first 1 = .ok (.invokevirtual 254, 3) := by decide +kernel
theorem dX5_first_4 : decode cX5_first 4 = .ok (.aload_n 0, 1) := by decide +kernel
theorem dX5_first_5 : decode cX5_first 5 = .ok (.getfield 38, 3) := by decide +kernel
theorem dX5_first_8 : decode cX5_first 8 = .ok (.getfield 260, 3) := by decide +kernel
theorem dX5_first_11 : decode cX5_first 11 = .ok (.iconst 0, 1) := by decide +kernel
theorem dX5_first_12 : decode cX5_first 12 = .ok (.iaload, 1) := by decide +kernel
theorem dX5_first_13 : decode cX5_first 13 = .ok (.ireturn, 1) := by decide +kernel
set_option maxRecDepth 20000 in
theorem ggX5_least_X5_isMast : GoodIn wsX5_least wsX5_isMast := goodIn_r _ [16, 17, 130, 131, 132, 133, 134, 135, 136, 137, 138, 139, 140, 141, 142, 143] (by decide +kernel) (by decide +kernel)
set_option maxRecDepth 20000 in
theorem gX5_least_X5_isMast : GoodIn wsX5_least (wsV RX5 113 RX5 yX5_isMast wsX5_isMast) := goodIn_app (goodIn_of _ (by decide +kernel)) ggX5_least_X5_isMast
set_option maxRecDepth 20000 in
theorem ggX5_least_X5_explore : GoodIn wsX5_least wsX5_explore := goodIn_r _ [21, 17, 4, 22, 23, 3, 5, 6, 24, 25, 26, 15, 27, 28, 29, 30, 31, 32, 33, 34, 35, 36, 37, 38, 39, 40, 41, 42, 43, 44, 45, 46, 47, 48, 49, 50, 51, 52, 53, 10, 54, 55, 56, 9, 11, 57, 58, 59, 60, 61, 62, 63, 64, 65, 66, 67, 68, 69, 70, 71, 72, 73, 74, 75, 76, 77, 78, 79, 80, 81, 82, 83, 84, 85, 7, 86, 87, 88, 89, 90, 91, 92, 93, 94, 95, 96, 97, 98, 99, 100, 101, 102, 103, 104, 105, 106, 107, 108, 109, 110, 111, 112, 113, 114, 115, 116, 117, 118, 119, 120, 121, 122, 123, 124, 125, 126, 127, 128, 129, 130, 131, 132, 133, 134, 135, 136, 137, 138, 139, 140, 141, 142, 143, 144, 145, 146, 147, 148, 149, 150, 151, 152, 153, 154, 155, 156, 157, 158, 159, 160, 161, 162, 163, 164, 165, 166] (by decide +kernel) (by decide +kernel)
set_option maxRecDepth 20000 in
theorem gX5_least_X5_explore : GoodIn wsX5_least (wsV RX5 254 RX5 yX5_explore wsX5_explore) := goodIn_app (goodIn_of _ (by decide +kernel)) ggX5_least_X5_explore
set_option maxRecDepth 20000 in
theorem ggX5_least_X4_decode : GoodIn wsX5_least wsX4_decode := goodIn_r _ [89] (by decide +kernel) (by decide +kernel)
set_option maxRecDepth 20000 in
theorem gX5_least_X4_decode : GoodIn wsX5_least (va_wsS RX5 269 yX4_decode wsX4_decode) := goodIn_app (goodIn_of _ (by decide +kernel)) ggX5_least_X4_decode
theorem dX5_least_0 : decode cX5_least 0 = .ok (.aload_n 0, 1) := by decide +kernel
theorem dX5_least_1 : decode cX5_least 1 = .ok (.iload_n 1, 1) := by decide +kernel
theorem dX5_least_2 : decode cX5_least 2 = .ok (.invokevirtual 113, 3) := by decide +kernel
theorem dX5_least_5 : decode cX5_least 5 = .ok (.ifCond .ne 13, 3) := by decide +kernel
theorem dX5_least_8 : decode cX5_least 8 = .ok (.new 116, 3) := by decide +kernel
theorem dX5_least_11 : decode cX5_least 11 = .ok (.dup, 1) := by decide +kernel
theorem dX5_least_12 : decode cX5_least 12 = .ok (.ldc 118, 2) := by decide +kernel
theorem dX5_least_14 : decode cX5_least 14 = .ok (.invokespecial 120, 3) := by decide +kernel
theorem dX5_least_17 : decode cX5_least 17 = .ok (.athrow, 1) := by decide +kernel
theorem dX5_least_18 : decode cX5_least 18 = .ok (.aload_n 0, 1) := by decide +kernel
theorem dX5_least_19 : decode cX5_least 19 = .ok (.invokevirtual 254, 3) := by decide +kernel
theorem dX5_least_22 : decode cX5_least 22 = .ok (.aload_n 0, 1) := by decide +kernel
theorem dX5_least_23 : decode cX5_least 23 = .ok (.getfield 42, 3) := by decide +kernel
theorem dX5_least_26 : decode cX5_least 26 = .ok (.iload_n 1, 1) := by decide +kernel
theorem dX5_least_27 : decode cX5_least 27 = .ok (.iaload, 1) := by decide +kernel
theorem dX5_least_28 : decode cX5_least 28 = .ok (.istore_n 2, 1) := by decide +kernel
theorem dX5_least_29 : decode cX5_least 29 = .ok (.iconst 0, 1) := by decide +kernel
theorem dX5_least_30 : decode cX5_least 30 = .ok (.istore_n 3, 1) := by decide +kernel
theorem dX5_least_31 : decode cX5_least 31 = .ok (.iload_n 3, 1) := by decide +kernel
theorem dX5_least_32 : decode cX5_least 32 = .ok (.aload_n 0, 1) := by decide +kernel
theorem dX5_least_33 : decode cX5_least 33 = .ok (.getfield 38, 3) := by decide +kernel
theorem dX5_least_36 : decode cX5_least 36 = .ok (.getfield 263, 3) := by decide +kernel
theorem dX5_least_39 : decode cX5_least 39 = .ok (.if_icmp .ge 43, 3) := by decide +kernel
theorem dX5_least_42 : decode cX5_least 42 = .ok (.iload_n 3, 1) := by decide +kernel
theorem dX5_least_43 : decode cX5_least 43 = .ok (.sipush 1000, 3) := by decide +kernel
theorem dX5_least_46 : decode cX5_least 46 = .ok (.if_icmp .ge 36, 3) := by decide +kernel
theorem dX5_least_49 : decode cX5_least 49 = .ok (.aload_n 0, 1) := by decide +kernel
theorem dX5_least_50 : decode cX5_least 50 = .ok (.getfield 38, 3) := by decide +kernel
theorem dX5_least_53 : decode cX5_least 53 = .ok (.getfield 266, 3) := by decide +kernel
theorem dX5_least_56 : decode cX5_least 56 = .ok (.iload_n 3, 1) := by decide +kernel
theorem dX5_least_57 : decode cX5_least 57 = .ok (.iaload, 1) := by decide +kernel
theorem dX5_least_58 : decode cX5_least 58 = .ok (.aload_n 0, 1) := by decide +kernel
theorem dX5_least_59 : decode cX5_least 59 = .ok (.getfield 49, 3) := by decide +kernel
theorem dX5_least_62 : decode cX5_least 62 = .ok (.invokestatic 269, 3) := by decide +kernel
theorem dX5_least_65 : decode cX5_least 65 = .ok (.iload_n 2, 1) := by decide +kernel
theorem dX5_least_66 : decode cX5_least 66 = .ok (.aload_n 0, 1) := by decide +kernel
theorem dX5_least_67 : decode cX5_least 67 = .ok (.getfield 49, 3) := by decide +kernel
theorem dX5_least_70 : decode cX5_least 70 = .ok (.iload_n 1, 1) := by decide +kernel
theorem dX5_least_71 : decode cX5_least 71 = .ok (.iaload, 1) := by decide +kernel
theorem dX5_least_72 : decode cX5_least 72 = .ok (.invokestatic 248, 3) := by decide +kernel
theorem dX5_least_75 : decode cX5_least 75 = .ok (.istore_n 2, 1) := by decide +kernel
theorem dX5_least_76 : decode cX5_least 76 = .ok (.iinc 3 1, 3) := by decide +kernel
theorem dX5_least_79 : decode cX5_least 79 = .ok (.goto (-48), 3) := by decide +kernel
theorem dX5_least_82 : decode cX5_least 82 = .ok (.iload_n 2, 1) := by decide +kernel
theorem dX5_least_83 : decode cX5_least 83 = .ok (.ireturn, 1) := by decide +kernel
set_option maxRecDepth 20000 in
theorem ggX5_falls_X5_hoursUntilFlat : GoodIn wsX5_falls wsX5_hoursUntilFlat := goodIn_r _ [10, 11, 12, 13, 14, 9, 15, 16, 17, 18, 19, 20, 21, 22, 23, 24, 25, 26, 27, 28, 29, 30, 31, 32, 33, 34, 35, 36, 37, 38, 39, 40, 41, 42, 43, 44, 45, 46, 47, 48, 49, 50, 51, 52, 53, 54, 55, 56, 57] (by decide +kernel) (by decide +kernel)
set_option maxRecDepth 20000 in
theorem gX5_falls_X5_hoursUntilFlat : GoodIn wsX5_falls (wsV RX5 273 RX5 yX5_hoursUntilFlat wsX5_hoursUntilFlat) := goodIn_app (goodIn_of _ (by decide +kernel)) ggX5_falls_X5_hoursUntilFlat
theorem dX5_falls_0 : decode cX5_falls 0 = .ok (.iconst 0, 1) := by decide +kernel
theorem dX5_falls_1 : decode cX5_falls 1 = .ok (.istore_n 1, 1) := by decide +kernel
theorem dX5_falls_2 : decode cX5_falls 2 = .ok (.iconst 0, 1) := by decide +kernel
theorem dX5_falls_3 : decode cX5_falls 3 = .ok (.istore_n 2, 1) := by decide +kernel
theorem dX5_falls_4 : decode cX5_falls 4 = .ok (.iload_n 2, 1) := by decide +kernel
theorem dX5_falls_5 : decode cX5_falls 5 = .ok (.aload_n 0, 1) := by decide +kernel
theorem dX5_falls_6 : decode cX5_falls 6 = .ok (.getfield 89, 3) := by decide +kernel
theorem dX5_falls_9 : decode cX5_falls 9 = .ok (.if_icmp .ge 28, 3) := by decide +kernel
theorem dX5_falls_12 : decode cX5_falls 12 = .ok (.aload_n 0, 1) := by decide +kernel
theorem dX5_falls_13 : decode cX5_falls 13 = .ok (.iload_n 2, 1) := by decide +kernel
theorem dX5_falls_14 : decode cX5_falls 14 = .ok (.invokevirtual 273, 3) := by decide +kernel
theorem dX5_falls_17 : decode cX5_falls 17 = .ok (.istore_n 3, 1) := by decide +kernel
theorem dX5_falls_18 : decode cX5_falls 18 = .ok (.iload_n 3, 1) := by decide +kernel
theorem dX5_falls_19 : decode cX5_falls 19 = .ok (.iconst (-1), 1) := by decide +kernel
theorem dX5_falls_20 : decode cX5_falls 20 = .ok (.if_icmp .ne 5, 3) := by decide +kernel
theorem dX5_falls_23 : decode cX5_falls 23 = .ok (.iconst (-1), 1) := by decide +kernel
theorem dX5_falls_24 : decode cX5_falls 24 = .ok (.ireturn, 1) := by decide +kernel
theorem dX5_falls_25 : decode cX5_falls 25 = .ok (.iload_n 1, 1) := by decide +kernel
theorem dX5_falls_26 : decode cX5_falls 26 = .ok (.iload_n 3, 1) := by decide +kernel
theorem dX5_falls_27 : decode cX5_falls 27 = .ok (.invokestatic 276, 3) := by decide +kernel
theorem dX5_falls_30 : decode cX5_falls 30 = .ok (.istore_n 1, 1) := by decide +kernel
theorem dX5_falls_31 : decode cX5_falls 31 = .ok (.iinc 2 1, 3) := by decide +kernel
theorem dX5_falls_34 : decode cX5_falls 34 = .ok (.goto (-30), 3) := by decide +kernel
theorem dX5_falls_37 : decode cX5_falls 37 = .ok (.iload_n 1, 1) := by decide +kernel
theorem dX5_falls_38 : decode cX5_falls 38 = .ok (.ireturn, 1) := by decide +kernel
theorem dX5_mean_0 : decode cX5_mean 0 = .ok (.aload_n 0, 1) := by decide +kernel
theorem dX5_mean_1 : decode cX5_mean 1 = .ok (.getfield 89, 3) := by decide +kernel
theorem dX5_mean_4 : decode cX5_mean 4 = .ok (.ifCond .ne 5, 3) := by decide +kernel
theorem dX5_mean_7 : decode cX5_mean 7 = .ok (.dconst 0, 1) := by decide +kernel
theorem dX5_mean_8 : decode cX5_mean 8 = .ok (.dreturn, 1) := by decide +kernel
theorem dX5_mean_9 : decode cX5_mean 9 = .ok (.iconst 0, 1) := by decide +kernel
theorem dX5_mean_10 : decode cX5_mean 10 = .ok (.istore_n 1, 1) := by decide +kernel
theorem dX5_mean_11 : decode cX5_mean 11 = .ok (.iconst 0, 1) := by decide +kernel
theorem dX5_mean_12 : decode cX5_mean 12 = .ok (.istore_n 2, 1) := by decide +kernel
theorem dX5_mean_13 : decode cX5_mean 13 = .ok (.iload_n 2, 1) := by decide +kernel
theorem dX5_mean_14 : decode cX5_mean 14 = .ok (.aload_n 0, 1) := by decide +kernel
theorem dX5_mean_15 : decode cX5_mean 15 = .ok (.getfield 89, 3) := by decide +kernel
theorem dX5_mean_18 : decode cX5_mean 18 = .ok (.if_icmp .ge 18, 3) := by decide +kernel
theorem dX5_mean_21 : decode cX5_mean 21 = .ok (.iload_n 1, 1) := by decide +kernel
theorem dX5_mean_22 : decode cX5_mean 22 = .ok (.aload_n 0, 1) := by decide +kernel
theorem dX5_mean_23 : decode cX5_mean 23 = .ok (.getfield 42, 3) := by decide +kernel
theorem dX5_mean_26 : decode cX5_mean 26 = .ok (.iload_n 2, 1) := by decide +kernel
theorem dX5_mean_27 : decode cX5_mean 27 = .ok (.iaload, 1) := by decide +kernel
theorem dX5_mean_28 : decode cX5_mean 28 = .ok (.iadd, 1) := by decide +kernel
theorem dX5_mean_29 : decode cX5_mean 29 = .ok (.istore_n 1, 1) := by decide +kernel
theorem dX5_mean_30 : decode cX5_mean 30 = .ok (.iinc 2 1, 3) := by decide +kernel
theorem dX5_mean_33 : decode cX5_mean 33 = .ok (.goto (-20), 3) := by decide +kernel
theorem dX5_mean_36 : decode cX5_mean 36 = .ok (.iload_n 1, 1) := by decide +kernel
theorem dX5_mean_37 : decode cX5_mean 37 = .ok (.i2d, 1) := by decide +kernel
theorem dX5_mean_38 : decode cX5_mean 38 = .ok (.aload_n 0, 1) := by decide +kernel
theorem dX5_mean_39 : decode cX5_mean 39 = .ok (.getfield 89, 3) := by decide +kernel
theorem dX5_mean_42 : decode cX5_mean 42 = .ok (.i2d, 1) := by decide +kernel
theorem dX5_mean_43 : decode cX5_mean 43 = .ok (.ddiv, 1) := by decide +kernel
theorem dX5_mean_44 : decode cX5_mean 44 = .ok (.dreturn, 1) := by decide +kernel
set_option maxRecDepth 20000 in
theorem ggX5_digest_X5_count : GoodIn wsX5_digest wsX5_count := goodIn_ca (goodIn_r _ [12, 13, 14, 15, 5, 7, 16, 17, 18, 19, 20, 11, 21, 22, 23, 24, 25, 26, 27, 28, 156, 157, 158, 159, 160, 161, 162, 163, 164, 165, 166, 167, 168, 169, 170, 171, 172, 173, 174, 175] (by decide +kernel) (by decide +kernel)) (goodIn_sub (fun _ h => List.mem_cons_of_mem _ (List.mem_append_right _ h)) (by decide +kernel))
set_option maxRecDepth 20000 in
theorem gX5_digest_X5_count : GoodIn wsX5_digest (wsV RX5 283 RX5 yX5_count wsX5_count) := goodIn_app (goodIn_of _ (by decide +kernel)) ggX5_digest_X5_count
set_option maxRecDepth 20000 in
theorem ggX5_digest_X5_ship : GoodIn wsX5_digest wsX5_ship := goodIn_ca (goodIn_r _ [32, 13, 14, 22, 33, 34, 35, 36, 11, 37, 3, 38, 5, 6, 39, 40, 41, 42, 43, 44, 45, 46, 47, 48, 49, 50, 51, 52, 53, 54, 55, 56, 57, 58, 59, 60, 61, 62, 63, 64, 65, 66, 67, 68, 69, 70, 71, 72, 73, 74, 4, 75, 76, 77, 78, 79, 80, 81, 82, 156, 157, 158, 159, 160, 161, 162, 163, 164, 165, 166, 167, 168, 169, 176, 177, 178, 179, 180, 181, 182, 183, 184, 185, 186] (by decide +kernel) (by decide +kernel)) (goodIn_sub (fun _ h => List.mem_cons_of_mem _ (List.mem_append_right _ h)) (by decide +kernel))
set_option maxRecDepth 20000 in
theorem gX5_digest_X5_ship : GoodIn wsX5_digest (wsV RX5 286 RX5 yX5_ship wsX5_ship) := goodIn_app (goodIn_of _ (by decide +kernel)) ggX5_digest_X5_ship
set_option maxRecDepth 20000 in
theorem ggX5_digest_X0_digestOnto : GoodIn wsX5_digest wsX0_digestOnto := goodIn_r _ [87, 88, 89, 90, 91, 92, 183, 184, 185, 186] (by decide +kernel) (by decide +kernel)
set_option maxRecDepth 20000 in
theorem gX5_digest_X0_digestOnto : GoodIn wsX5_digest (wsV RX5 289 RX0 yX0_digestOnto wsX0_digestOnto) := goodIn_app (goodIn_of _ (by decide +kernel)) ggX5_digest_X0_digestOnto
set_option maxRecDepth 20000 in
theorem ggX5_digest_X2_digestOnto : GoodIn wsX5_digest wsX2_digestOnto := goodIn_r _ [97, 98, 99, 100, 101, 176, 177, 178] (by decide +kernel) (by decide +kernel)
set_option maxRecDepth 20000 in
theorem gX5_digest_X2_digestOnto : GoodIn wsX5_digest (wsV RX5 293 RX2 yX2_digestOnto wsX2_digestOnto) := goodIn_app (goodIn_of _ (by decide +kernel)) ggX5_digest_X2_digestOnto
set_option maxRecDepth 20000 in
theorem ggX5_digest_X5_mast : GoodIn wsX5_digest wsX5_mast := goodIn_ca (goodIn_r _ [105, 13, 14, 6, 66, 106, 22, 107, 108, 109, 110, 11, 111, 5, 56, 57, 58, 46, 59, 60, 67, 68, 69, 70, 112, 113, 114, 115, 116, 117, 118, 119, 7, 27, 120, 28, 121, 122, 123, 124, 156, 157, 158, 159, 160, 161, 162, 163, 164, 165, 166, 167, 168, 169, 179, 180, 181, 182, 170, 171, 172, 173, 174, 175] (by decide +kernel) (by decide +kernel)) (goodIn_sub (fun _ h => List.mem_cons_of_mem _ (List.mem_append_right _ h)) (by decide +kernel))
set_option maxRecDepth 20000 in
theorem gX5_digest_X5_mast : GoodIn wsX5_digest (wsV RX5 294 RX5 yX5_mast wsX5_mast) := goodIn_app (goodIn_of _ (by decide +kernel)) ggX5_digest_X5_mast
set_option maxRecDepth 20000 in
theorem ggX5_digest_X3_digestYardsOnto : GoodIn wsX5_digest wsX3_digestYardsOnto := goodIn_r _ [128, 48, 129, 49, 179, 180, 181, 182] (by decide +kernel) (by decide +kernel)
set_option maxRecDepth 20000 in
theorem gX5_digest_X3_digestYardsOnto : GoodIn wsX5_digest (wsV RX5 296 RX3 yX3_digestYardsOnto wsX3_digestYardsOnto) := goodIn_app (goodIn_of _ (by decide +kernel)) ggX5_digest_X3_digestYardsOnto
set_option maxRecDepth 20000 in
theorem ggX5_digest_X5_thread : GoodIn wsX5_digest wsX5_thread := goodIn_ca (goodIn_r _ [133, 13, 14, 27, 120, 134, 135, 28, 136, 137, 138, 11, 139, 7, 140, 141, 142, 143, 144, 145, 146, 147, 148, 149, 150, 151, 40, 41, 42, 152, 153, 154, 155, 156, 157, 158, 159, 160, 161, 162, 163, 164, 165, 166, 167, 168, 169, 170, 171, 172, 173, 174, 175] (by decide +kernel) (by decide +kernel)) (goodIn_sub (fun _ h => List.mem_cons_of_mem _ (List.mem_append_right _ h)) (by decide +kernel))
set_option maxRecDepth 20000 in
theorem gX5_digest_X5_thread : GoodIn wsX5_digest (wsV RX5 299 RX5 yX5_thread wsX5_thread) := goodIn_app (goodIn_of _ (by decide +kernel)) ggX5_digest_X5_thread
theorem dX5_digest_0 : decode cX5_digest 0 = .ok (.ldc2_w 279, 3) := by decide +kernel
theorem dX5_digest_3 : decode cX5_digest 3 = .ok (.lstore_n 1, 1) := by decide +kernel
theorem dX5_digest_4 : decode cX5_digest 4 = .ok (.iconst 0, 1) := by decide +kernel
theorem dX5_digest_5 : decode cX5_digest 5 = .ok (.istore_n 3, 1) := by decide +kernel
theorem dX5_digest_6 : decode cX5_digest 6 = .ok (.iload_n 3, 1) := by decide +kernel
theorem dX5_digest_7 : decode cX5_digest 7 = .ok (.bipush 8, 2) := by decide +kernel
theorem dX5_digest_9 : decode cX5_digest 9 = .ok (.if_icmp .ge 22, 3) := by decide +kernel
theorem dX5_digest_12 : decode cX5_digest 12 = .ok (.lload_n 1, 1) := by decide +kernel
theorem dX5_digest_13 : decode cX5_digest 13 = .ok (.ldc2_w 281, 3) := by decide +kernel
theorem dX5_digest_16 : decode cX5_digest 16 = .ok (.lmul, 1) := by decide +kernel
theorem dX5_digest_17 : decode cX5_digest 17 = .ok (.aload_n 0, 1) := by decide +kernel
theorem dX5_digest_18 : decode cX5_digest 18 = .ok (.iload_n 3, 1) := by decide +kernel
theorem dX5_digest_19 : decode cX5_digest 19 = .ok (.invokevirtual 283, 3) := by decide +kernel
theorem dX5_digest_22 : decode cX5_digest 22 = .ok (.i2l, 1) := by decide +kernel
theorem dX5_digest_23 : decode cX5_digest 23 = .ok (.ladd, 1) := by decide +kernel
theorem dX5_digest_24 : decode cX5_digest 24 = .ok (.lstore_n 1, 1) := by decide +kernel
theorem dX5_digest_25 : decode cX5_digest 25 = .ok (.iinc 3 1, 3) := by decide +kernel
theorem dX5_digest_28 : decode cX5_digest 28 = .ok (.goto (-22), 3) := by decide +kernel
theorem dX5_digest_31 : decode cX5_digest 31 = .ok (.iconst 0, 1) := by decide +kernel
theorem dX5_digest_32 : decode cX5_digest 32 = .ok (.istore_n 3, 1) := by decide +kernel
theorem dX5_digest_33 : decode cX5_digest 33 = .ok (.iload_n 3, 1) := by decide +kernel
theorem dX5_digest_34 : decode cX5_digest 34 = .ok (.bipush 6, 2) := by decide +kernel
theorem dX5_digest_36 : decode cX5_digest 36 = .ok (.if_icmp .ge 22, 3) := by decide +kernel
theorem dX5_digest_39 : decode cX5_digest 39 = .ok (.lload_n 1, 1) := by decide +kernel
theorem dX5_digest_40 : decode cX5_digest 40 = .ok (.ldc2_w 281, 3) := by decide +kernel
theorem dX5_digest_43 : decode cX5_digest 43 = .ok (.lmul, 1) := by decide +kernel
theorem dX5_digest_44 : decode cX5_digest 44 = .ok (.aload_n 0, 1) := by decide +kernel
theorem dX5_digest_45 : decode cX5_digest 45 = .ok (.iload_n 3, 1) := by decide +kernel
theorem dX5_digest_46 : decode cX5_digest 46 = .ok (.invokevirtual 286, 3) := by decide +kernel
theorem dX5_digest_49 : decode cX5_digest 49 = .ok (.i2l, 1) := by decide +kernel
theorem dX5_digest_50 : decode cX5_digest 50 = .ok (.ladd, 1) := by decide +kernel
theorem dX5_digest_51 : decode cX5_digest 51 = .ok (.lstore_n 1, 1) := by decide +kernel
theorem dX5_digest_52 : decode cX5_digest 52 = .ok (.iinc 3 1, 3) := by decide +kernel
theorem dX5_digest_55 : decode cX5_digest 55 = .ok (.goto (-22), 3) := by decide +kernel
theorem dX5_digest_58 : decode cX5_digest 58 = .ok (.aload_n 0, 1) := by decide +kernel
theorem dX5_digest_59 : decode cX5_digest 59 = .ok (.getfield 19, 3) := by decide +kernel
theorem dX5_digest_62 : decode cX5_digest 62 = .ok (.aload_n 0, 1) := by decide +kernel
theorem dX5_digest_63 : decode cX5_digest 63 = .ok (.getfield 10, 3) := by decide +kernel
theorem dX5_digest_66 : decode cX5_digest 66 = .ok (.lload_n 1, 1) := by decide +kernel
theorem dX5_digest_67 : decode cX5_digest 67 = .ok (.invokevirtual 289, 3) := by decide +kernel
theorem dX5_digest_70 : decode cX5_digest 70 = .ok (.invokevirtual 293, 3) := by decide +kernel
theorem dX5_digest_73 : decode cX5_digest 73 = .ok (.lstore_n 1, 1) := by decide +kernel
theorem dX5_digest_74 : decode cX5_digest 74 = .ok (.iconst 0, 1) := by decide +kernel
theorem dX5_digest_75 : decode cX5_digest 75 = .ok (.istore_n 3, 1) := by decide +kernel
theorem dX5_digest_76 : decode cX5_digest 76 = .ok (.iload_n 3, 1) := by decide +kernel
theorem dX5_digest_77 : decode cX5_digest 77 = .ok (.aload_n 0, 1) := by decide +kernel
theorem dX5_digest_78 : decode cX5_digest 78 = .ok (.getfield 89, 3) := by decide +kernel
theorem dX5_digest_81 : decode cX5_digest 81 = .ok (.if_icmp .ge 51, 3) := by decide +kernel
theorem dX5_digest_84 : decode cX5_digest 84 = .ok (.iconst 0, 1) := by decide +kernel
theorem dX5_digest_85 : decode cX5_digest 85 = .ok (.istore 4, 2) := by decide +kernel
theorem dX5_digest_87 : decode cX5_digest 87 = .ok (.iload 4, 2) := by decide +kernel
theorem dX5_digest_89 : decode cX5_digest 89 = .ok (.bipush 8, 2) := by decide +kernel
theorem dX5_digest_91 : decode cX5_digest 91 = .ok (.if_icmp .ge 24, 3) := by decide +kernel
theorem dX5_digest_94 : decode cX5_digest 94 = .ok (.lload_n 1, 1) := by decide +kernel
theorem dX5_digest_95 : decode cX5_digest 95 = .ok (.ldc2_w 281, 3) := by decide +kernel
theorem dX5_digest_98 : decode cX5_digest 98 = .ok (.lmul, 1) := by decide +kernel
theorem dX5_digest_99 : decode cX5_digest 99 = .ok (.aload_n 0, 1) := by decide +kernel
theorem dX5_digest_100 : decode cX5_digest 100 = .ok (.iload_n 3, 1) := by decide +kernel
theorem dX5_digest_101 : decode cX5_digest 101 = .ok (.iload 4, 2) := by decide +kernel
theorem dX5_digest_103 : decode cX5_digest 103 = .ok (.invokevirtual 294, 3) := by decide +kernel
theorem dX5_digest_106 : decode cX5_digest 106 = .ok (.i2l, 1) := by decide +kernel
theorem dX5_digest_107 : decode cX5_digest 107 = .ok (.ladd, 1) := by decide +kernel
theorem dX5_digest_108 : decode cX5_digest 108 = .ok (.lstore_n 1, 1) := by decide +kernel
theorem dX5_digest_109 : decode cX5_digest 109 = .ok (.iinc 4 1, 3) := by decide +kernel
theorem dX5_digest_112 : decode cX5_digest 112 = .ok (.goto (-25), 3) := by decide +kernel
theorem dX5_digest_115 : decode cX5_digest 115 = .ok (.aload_n 0, 1) := by decide +kernel
theorem dX5_digest_116 : decode cX5_digest 116 = .ok (.getfield 25, 3) := by decide +kernel
theorem dX5_digest_119 : decode cX5_digest 119 = .ok (.iload_n 3, 1) := by decide +kernel
theorem dX5_digest_120 : decode cX5_digest 120 = .ok (.aaload, 1) := by decide +kernel
theorem dX5_digest_121 : decode cX5_digest 121 = .ok (.lload_n 1, 1) := by decide +kernel
theorem dX5_digest_122 : decode cX5_digest 122 = .ok (.invokevirtual 296, 3) := by decide +kernel
theorem dX5_digest_125 : decode cX5_digest 125 = .ok (.lstore_n 1, 1) := by decide +kernel
theorem dX5_digest_126 : decode cX5_digest 126 = .ok (.iinc 3 1, 3) := by decide +kernel
theorem dX5_digest_129 : decode cX5_digest 129 = .ok (.goto (-53), 3) := by decide +kernel
theorem dX5_digest_132 : decode cX5_digest 132 = .ok (.iconst 0, 1) := by decide +kernel
theorem dX5_digest_133 : decode cX5_digest 133 = .ok (.istore_n 3, 1) := by decide +kernel
theorem dX5_digest_134 : decode cX5_digest 134 = .ok (.iload_n 3, 1) := by decide +kernel
theorem dX5_digest_135 : decode cX5_digest 135 = .ok (.aload_n 0, 1) := by decide +kernel
theorem dX5_digest_136 : decode cX5_digest 136 = .ok (.getfield 133, 3) := by decide +kernel
theorem dX5_digest_139 : decode cX5_digest 139 = .ok (.if_icmp .ge 39, 3) := by decide +kernel
theorem dX5_digest_142 : decode cX5_digest 142 = .ok (.iconst 0, 1) := by decide +kernel
theorem dX5_digest_143 : decode cX5_digest 143 = .ok (.istore 4, 2) := by decide +kernel
theorem dX5_digest_145 : decode cX5_digest 145 = .ok (.iload 4, 2) := by decide +kernel
theorem dX5_digest_147 : decode cX5_digest 147 = .ok (.iconst 5, 1) := by decide +kernel
theorem dX5_digest_148 : decode cX5_digest 148 = .ok (.if_icmp .ge 24, 3) := by decide +kernel
theorem dX5_digest_151 : decode cX5_digest 151 = .ok (.lload_n 1, 1) := by decide +kernel
theorem dX5_digest_152 : decode cX5_digest 152 = .ok (.ldc2_w 281, 3) := by decide +kernel
theorem dX5_digest_155 : decode cX5_digest 155 = .ok (.lmul, 1) := by decide +kernel
theorem dX5_digest_156 : decode cX5_digest 156 = .ok (.aload_n 0, 1) := by decide +kernel
theorem dX5_digest_157 : decode cX5_digest 157 = .ok (.iload_n 3, 1) := by decide +kernel
theorem dX5_digest_158 : decode cX5_digest 158 = .ok (.iload 4, 2) := by decide +kernel
theorem dX5_digest_160 : decode cX5_digest 160 = .ok (.invokevirtual 299, 3) := by decide +kernel
theorem dX5_digest_163 : decode cX5_digest 163 = .ok (.i2l, 1) := by decide +kernel
theorem dX5_digest_164 : decode cX5_digest 164 = .ok (.ladd, 1) := by decide +kernel
theorem dX5_digest_165 : decode cX5_digest 165 = .ok (.lstore_n 1, 1) := by decide +kernel
theorem dX5_digest_166 : decode cX5_digest 166 = .ok (.iinc 4 1, 3) := by decide +kernel
theorem dX5_digest_169 : decode cX5_digest 169 = .ok (.goto (-24), 3) := by decide +kernel
theorem dX5_digest_172 : decode cX5_digest 172 = .ok (.iinc 3 1, 3) := by decide +kernel
theorem dX5_digest_175 : decode cX5_digest 175 = .ok (.goto (-41), 3) := by decide +kernel
theorem dX5_digest_178 : decode cX5_digest 178 = .ok (.lload_n 1, 1) := by decide +kernel
theorem dX5_digest_179 : decode cX5_digest 179 = .ok (.lreturn, 1) := by decide +kernel
theorem dX5_isWithin_0 : decode cX5_isWithin 0 = .ok (.iload_n 0, 1) := by decide +kernel
theorem dX5_isWithin_1 : decode cX5_isWithin 1 = .ok (.iload_n 1, 1) := by decide +kernel
theorem dX5_isWithin_2 : decode cX5_isWithin 2 = .ok (.if_icmp .lt 12, 3) := by decide +kernel
theorem dX5_isWithin_5 : decode cX5_isWithin 5 = .ok (.iload_n 0, 1) := by decide +kernel
theorem dX5_isWithin_6 : decode cX5_isWithin 6 = .ok (.iload_n 2, 1) := by decide +kernel
theorem dX5_isWithin_7 : decode cX5_isWithin 7 = .ok (.if_icmp .gt 7, 3) := by decide +kernel
theorem dX5_isWithin_10 : decode cX5_isWithin 10 = .ok (.iconst 1, 1) := by decide +kernel
theorem dX5_isWithin_11 : decode cX5_isWithin 11 = .ok (.goto 4, 3) := by decide +kernel
theorem dX5_isWithin_14 : decode cX5_isWithin 14 = .ok (.iconst 0, 1) := by decide +kernel
theorem dX5_isWithin_15 : decode cX5_isWithin 15 = .ok (.ireturn, 1) := by decide +kernel
theorem dX5_isMast_0 : decode cX5_isMast 0 = .ok (.iload_n 1, 1) := by decide +kernel
theorem dX5_isMast_1 : decode cX5_isMast 1 = .ok (.ifCond .lt 15, 3) := by decide +kernel
theorem dX5_isMast_4 : decode cX5_isMast 4 = .ok (.iload_n 1, 1) := by decide +kernel
theorem dX5_isMast_5 : decode cX5_isMast 5 = .ok (.aload_n 0, 1) := by decide +kernel
theorem dX5_isMast_6 : decode cX5_isMast 6 = .ok (.getfield 89, 3) := by decide +kernel
theorem dX5_isMast_9 : decode cX5_isMast 9 = .ok (.if_icmp .ge 7, 3) := by decide +kernel
theorem dX5_isMast_12 : decode cX5_isMast 12 = .ok (.iconst 1, 1) := by decide +kernel
theorem dX5_isMast_13 : decode cX5_isMast 13 = .ok (.goto 4, 3) := by decide +kernel
theorem dX5_isMast_16 : decode cX5_isMast 16 = .ok (.iconst 0, 1) := by decide +kernel
theorem dX5_isMast_17 : decode cX5_isMast 17 = .ok (.ireturn, 1) := by decide +kernel
theorem dX5_isThread_0 : decode cX5_isThread 0 = .ok (.iload_n 1, 1) := by decide +kernel
theorem dX5_isThread_1 : decode cX5_isThread 1 = .ok (.ifCond .lt 15, 3) := by decide +kernel
theorem dX5_isThread_4 : decode cX5_isThread 4 = .ok (.iload_n 1, 1) := by decide +kernel
theorem dX5_isThread_5 : decode cX5_isThread 5 = .ok (.aload_n 0, 1) := by decide +kernel
theorem dX5_isThread_6 : decode cX5_isThread 6 = .ok (.getfield 133, 3) := by decide +kernel
theorem dX5_isThread_9 : decode cX5_isThread 9 = .ok (.if_icmp .ge 7, 3) := by decide +kernel
theorem dX5_isThread_12 : decode cX5_isThread 12 = .ok (.iconst 1, 1) := by decide +kernel
theorem dX5_isThread_13 : decode cX5_isThread 13 = .ok (.goto 4, 3) := by decide +kernel
theorem dX5_isThread_16 : decode cX5_isThread 16 = .ok (.iconst 0, 1) := by decide +kernel
theorem dX5_isThread_17 : decode cX5_isThread 17 = .ok (.ireturn, 1) := by decide +kernel
theorem dX5_hasMastAt_0 : decode cX5_hasMastAt 0 = .ok (.iconst 0, 1) := by decide +kernel
theorem dX5_hasMastAt_1 : decode cX5_hasMastAt 1 = .ok (.istore_n 2, 1) := by decide +kernel
theorem dX5_hasMastAt_2 : decode cX5_hasMastAt 2 = .ok (.iload_n 2, 1) := by decide +kernel
theorem dX5_hasMastAt_3 : decode cX5_hasMastAt 3 = .ok (.aload_n 0, 1) := by decide +kernel
theorem dX5_hasMastAt_4 : decode cX5_hasMastAt 4 = .ok (.getfield 89, 3) := by decide +kernel
theorem dX5_hasMastAt_7 : decode cX5_hasMastAt 7 = .ok (.if_icmp .ge 24, 3) := by decide +kernel
theorem dX5_hasMastAt_10 : decode cX5_hasMastAt 10 = .ok (.aload_n 0, 1) := by decide +kernel
theorem dX5_hasMastAt_11 : decode cX5_hasMastAt 11 = .ok (.getfield 25, 3) := by decide +kernel
theorem dX5_hasMastAt_14 : decode cX5_hasMastAt 14 = .ok (.iload_n 2, 1) := by decide +kernel
theorem dX5_hasMastAt_15 : decode cX5_hasMastAt 15 = .ok (.aaload, 1) := by decide +kernel
theorem dX5_hasMastAt_16 : decode cX5_hasMastAt 16 = .ok (.getfield 109, 3) := by decide +kernel
theorem dX5_hasMastAt_19 : decode cX5_hasMastAt 19 = .ok (.iload_n 1, 1) := by decide +kernel
theorem dX5_hasMastAt_20 : decode cX5_hasMastAt 20 = .ok (.if_icmp .ne 5, 3) := by decide +kernel
theorem dX5_hasMastAt_23 : decode cX5_hasMastAt 23 = .ok (.iconst 1, 1) := by decide +kernel
theorem dX5_hasMastAt_24 : decode cX5_hasMastAt 24 = .ok (.ireturn, 1) := by decide +kernel
theorem dX5_hasMastAt_25 : decode cX5_hasMastAt 25 = .ok (.iinc 2 1, 3) := by decide +kernel
theorem dX5_hasMastAt_28 : decode cX5_hasMastAt 28 = .ok (.goto (-26), 3) := by decide +kernel
theorem dX5_hasMastAt_31 : decode cX5_hasMastAt 31 = .ok (.iconst 0, 1) := by decide +kernel
theorem dX5_hasMastAt_32 : decode cX5_hasMastAt 32 = .ok (.ireturn, 1) := by decide +kernel
theorem dX5_mastsLeaning_0 : decode cX5_mastsLeaning 0 = .ok (.iconst 0, 1) := by decide +kernel
theorem dX5_mastsLeaning_1 : decode cX5_mastsLeaning 1 = .ok (.istore_n 2, 1) := by decide +kernel
theorem dX5_mastsLeaning_2 : decode cX5_mastsLeaning 2 = .ok (.iconst 0, 1) := by decide +kernel
theorem dX5_mastsLeaning_3 : decode cX5_mastsLeaning 3 = .ok (.istore_n 3, 1) := by decide +kernel
theorem dX5_mastsLeaning_4 : decode cX5_mastsLeaning 4 = .ok (.iload_n 3, 1) := by decide +kernel
theorem dX5_mastsLeaning_5 : decode cX5_mastsLeaning 5 = .ok (.aload_n 0, 1) := by decide +kernel
theorem dX5_mastsLeaning_6 : decode cX5_mastsLeaning 6 = .ok (.getfield 89, 3) := by decide +kernel
theorem dX5_mastsLeaning_9 : decode cX5_mastsLeaning 9 = .ok (.if_icmp .ge 22, 3) := by decide +kernel
theorem dX5_mastsLeaning_12 : decode cX5_mastsLeaning 12 = .ok (.aload_n 0, 1) := by decide +kernel
theorem dX5_mastsLeaning_13 : decode cX5_mastsLeaning 13 = .ok (.getfield 42, 3) := by decide +kernel
theorem dX5_mastsLeaning_16 : decode cX5_mastsLeaning 16 = .ok (.iload_n 3, 1) := by decide +kernel
theorem dX5_mastsLeaning_17 : decode cX5_mastsLeaning 17 = .ok (.iaload, 1) := by decide +kernel
theorem dX5_mastsLeaning_18 : decode cX5_mastsLeaning 18 = .ok (.iload_n 1, 1) := by decide +kernel
theorem dX5_mastsLeaning_19 : decode cX5_mastsLeaning 19 = .ok (.if_icmp .ne 6, 3) := by decide +kernel
theorem dX5_mastsLeaning_22 : decode cX5_mastsLeaning 22 = .ok (.iinc 2 1, 3) := by decide +kernel
theorem dX5_mastsLeaning_25 : decode cX5_mastsLeaning 25 = .ok (.iinc 3 1, 3) := by decide +kernel
theorem dX5_mastsLeaning_28 : decode cX5_mastsLeaning 28 = .ok (.goto (-24), 3) := by decide +kernel
theorem dX5_mastsLeaning_31 : decode cX5_mastsLeaning 31 = .ok (.iload_n 2, 1) := by decide +kernel
theorem dX5_mastsLeaning_32 : decode cX5_mastsLeaning 32 = .ok (.ireturn, 1) := by decide +kernel
theorem dX5_threadsThatAre_0 : decode cX5_threadsThatAre 0 = .ok (.iconst 0, 1) := by decide +kernel
theorem dX5_threadsThatAre_1 : decode cX5_threadsThatAre 1 = .ok (.istore_n 2, 1) := by decide +kernel
theorem dX5_threadsThatAre_2 : decode cX5_threadsThatAre 2 = .ok (.iconst 0, 1) := by decide +kernel
theorem dX5_threadsThatAre_3 : decode cX5_threadsThatAre 3 = .ok (.istore_n 3, 1) := by decide +kernel
theorem dX5_threadsThatAre_4 : decode cX5_threadsThatAre 4 = .ok (.iload_n 3, 1) := by decide +kernel
theorem dX5_threadsThatAre_5 : decode cX5_threadsThatAre 5 = .ok (.aload_n 0, 1) := by decide +kernel
theorem dX5_threadsThatAre_6 : decode cX5_threadsThatAre 6 = .ok (.getfield 133, 3) := by decide +kernel
theorem dX5_threadsThatAre_9 : decode cX5_threadsThatAre 9 = .ok (.if_icmp .ge 25, 3) := by decide +kernel
theorem dX5_threadsThatAre_12 : decode cX5_threadsThatAre 12 = .ok (.aload_n 0, 1) := by decide +kernel
theorem dX5_threadsThatAre_13 : decode cX5_threadsThatAre 13 = .ok (.getfield 31, 3) := by decide +kernel
theorem dX5_threadsThatAre_16 : decode cX5_threadsThatAre 16 = .ok (.iload_n 3, 1) := by decide +kernel
theorem dX5_threadsThatAre_17 : decode cX5_threadsThatAre 17 = .ok (.aaload, 1) := by decide +kernel
theorem dX5_threadsThatAre_18 : decode cX5_threadsThatAre 18 = .ok (.getfield 164, 3) := by decide +kernel
theorem dX5_threadsThatAre_21 : decode cX5_threadsThatAre 21 = .ok (.iload_n 1, 1) := by decide +kernel
theorem dX5_threadsThatAre_22 : decode cX5_threadsThatAre 22 = .ok (.if_icmp .ne 6, 3) := by decide +kernel
theorem dX5_threadsThatAre_25 : decode cX5_threadsThatAre 25 = .ok (.iinc 2 1, 3) := by decide +kernel
theorem dX5_threadsThatAre_28 : decode cX5_threadsThatAre 28 = .ok (.iinc 3 1, 3) := by decide +kernel
theorem dX5_threadsThatAre_31 : decode cX5_threadsThatAre 31 = .ok (.goto (-27), 3) := by decide +kernel
theorem dX5_threadsThatAre_34 : decode cX5_threadsThatAre 34 = .ok (.iload_n 2, 1) := by decide +kernel
theorem dX5_threadsThatAre_35 : decode cX5_threadsThatAre 35 = .ok (.ireturn, 1) := by decide +kernel
theorem dX5_threadsFrom_0 : decode cX5_threadsFrom 0 = .ok (.iconst 0, 1) := by decide +kernel
theorem dX5_threadsFrom_1 : decode cX5_threadsFrom 1 = .ok (.istore_n 3, 1) := by decide +kernel
theorem dX5_threadsFrom_2 : decode cX5_threadsFrom 2 = .ok (.iconst 0, 1) := by decide +kernel
theorem dX5_threadsFrom_3 : decode cX5_threadsFrom 3 = .ok (.istore 4, 2) := by decide +kernel
theorem dX5_threadsFrom_5 : decode cX5_threadsFrom 5 = .ok (.iload 4, 2) := by decide +kernel
theorem dX5_threadsFrom_7 : decode cX5_threadsFrom 7 = .ok (.aload_n 0, 1) := by decide +kernel
theorem dX5_threadsFrom_8 : decode cX5_threadsFrom 8 = .ok (.getfield 133, 3) := by decide +kernel
theorem dX5_threadsFrom_11 : decode cX5_threadsFrom 11 = .ok (.if_icmp .ge 40, 3) := by decide +kernel
theorem dX5_threadsFrom_14 : decode cX5_threadsFrom 14 = .ok (.aload_n 0, 1) := by decide +kernel
theorem dX5_threadsFrom_15 : decode cX5_threadsFrom 15 = .ok (.getfield 31, 3) := by decide +kernel
theorem dX5_threadsFrom_18 : decode cX5_threadsFrom 18 = .ok (.iload 4, 2) := by decide +kernel
theorem dX5_threadsFrom_20 : decode cX5_threadsFrom 20 = .ok (.aaload, 1) := by decide +kernel
theorem dX5_threadsFrom_21 : decode cX5_threadsFrom 21 = .ok (.getfield 138, 3) := by decide +kernel
theorem dX5_threadsFrom_24 : decode cX5_threadsFrom 24 = .ok (.iload_n 1, 1) := by decide +kernel
theorem dX5_threadsFrom_25 : decode cX5_threadsFrom 25 = .ok (.if_icmp .ne 20, 3) := by decide +kernel
theorem dX5_threadsFrom_28 : decode cX5_threadsFrom 28 = .ok (.aload_n 0, 1) := by decide +kernel
theorem dX5_threadsFrom_29 : decode cX5_threadsFrom 29 = .ok (.getfield 31, 3) := by decide +kernel
theorem dX5_threadsFrom_32 : decode cX5_threadsFrom 32 = .ok (.iload 4, 2) := by decide +kernel
theorem dX5_threadsFrom_34 : decode cX5_threadsFrom 34 = .ok (.aaload, 1) := by decide +kernel
theorem dX5_threadsFrom_35 : decode cX5_threadsFrom 35 = .ok (.getfield 164, 3) := by decide +kernel
theorem dX5_threadsFrom_38 : decode cX5_threadsFrom 38 = .ok (.iload_n 2, 1) := by decide +kernel
theorem dX5_threadsFrom_39 : decode cX5_threadsFrom 39 = .ok (.if_icmp .ne 6, 3) := by decide +kernel
theorem dX5_threadsFrom_42 : decode cX5_threadsFrom 42 = .ok (.iinc 3 1, 3) := by decide +kernel
theorem dX5_threadsFrom_45 : decode cX5_threadsFrom 45 = .ok (.iinc 4 1, 3) := by decide +kernel
theorem dX5_threadsFrom_48 : decode cX5_threadsFrom 48 = .ok (.goto (-43), 3) := by decide +kernel
theorem dX5_threadsFrom_51 : decode cX5_threadsFrom 51 = .ok (.iload_n 3, 1) := by decide +kernel
theorem dX5_threadsFrom_52 : decode cX5_threadsFrom 52 = .ok (.ireturn, 1) := by decide +kernel
set_option maxRecDepth 20000 in
theorem ggX5_isHeld_X5_threadsFrom : GoodIn wsX5_isHeld wsX5_threadsFrom := goodIn_r _ [5, 6, 7, 8, 9, 10, 11, 12, 13, 14, 15, 16, 17, 18, 19, 20, 21, 22, 23, 24, 25, 26, 27, 28, 29] (by decide +kernel) (by decide +kernel)
set_option maxRecDepth 20000 in
theorem gX5_isHeld_X5_threadsFrom : GoodIn wsX5_isHeld (wsV RX5 302 RX5 yX5_threadsFrom wsX5_threadsFrom) := goodIn_app (goodIn_of _ (by decide +kernel)) ggX5_isHeld_X5_threadsFrom
theorem dX5_isHeld_0 : decode cX5_isHeld 0 = .ok (.aload_n 0, 1) := by decide +kernel
theorem dX5_isHeld_1 : decode cX5_isHeld 1 = .ok (.iload_n 1, 1) := by decide +kernel
theorem dX5_isHeld_2 : decode cX5_isHeld 2 = .ok (.iconst 1, 1) := by decide +kernel
theorem dX5_isHeld_3 : decode cX5_isHeld 3 = .ok (.invokevirtual 302, 3) := by decide +kernel
theorem dX5_isHeld_6 : decode cX5_isHeld 6 = .ok (.ifCond .le 7, 3) := by decide +kernel
theorem dX5_isHeld_9 : decode cX5_isHeld 9 = .ok (.iconst 1, 1) := by decide +kernel
theorem dX5_isHeld_10 : decode cX5_isHeld 10 = .ok (.goto 4, 3) := by decide +kernel
theorem dX5_isHeld_13 : decode cX5_isHeld 13 = .ok (.iconst 0, 1) := by decide +kernel
theorem dX5_isHeld_14 : decode cX5_isHeld 14 = .ok (.ireturn, 1) := by decide +kernel
set_option maxRecDepth 20000 in
theorem ggX5_looseThreadsFrom_X5_threadsFrom : GoodIn wsX5_looseThreadsFrom wsX5_threadsFrom := goodIn_r _ [5, 6, 7, 8, 9, 10, 11, 12, 13, 14, 15, 16, 17, 18, 19, 20, 21, 22, 23, 24, 25, 26, 27, 28, 29] (by decide +kernel) (by decide +kernel)
set_option maxRecDepth 20000 in
theorem gX5_looseThreadsFrom_X5_threadsFrom : GoodIn wsX5_looseThreadsFrom (wsV RX5 302 RX5 yX5_threadsFrom wsX5_threadsFrom) := goodIn_app (goodIn_of _ (by decide +kernel)) ggX5_looseThreadsFrom_X5_threadsFrom
theorem dX5_looseThreadsFrom_0 : decode cX5_looseThreadsFrom 0 = .ok (.aload_n 0, 1) := by decide +kernel
theorem dX5_looseThreadsFrom_1 : decode cX5_looseThreadsFrom 1 = .ok (.iload_n 1, 1) := by decide +kernel
theorem dX5_looseThreadsFrom_2 : decode cX5_looseThreadsFrom 2 = .ok (.iconst 0, 1) := by decide +kernel
theorem dX5_looseThreadsFrom_3 : decode cX5_looseThreadsFrom 3 = .ok (.invokevirtual 302, 3) := by decide +kernel
theorem dX5_looseThreadsFrom_6 : decode cX5_looseThreadsFrom 6 = .ok (.ireturn, 1) := by decide +kernel
set_option maxRecDepth 20000 in
theorem ggX5_crossingsOf_X1_crosses : GoodIn wsX5_crossingsOf wsX1_crosses := goodIn_r _ [7, 8, 9, 10, 11, 12, 13, 14, 15, 16, 17, 32, 33, 34, 35, 36, 37] (by decide +kernel) (by decide +kernel)
set_option maxRecDepth 20000 in
theorem gX5_crossingsOf_X1_crosses : GoodIn wsX5_crossingsOf (wsV RX5 198 RX1 yX1_crosses wsX1_crosses) := goodIn_app (goodIn_of _ (by decide +kernel)) ggX5_crossingsOf_X1_crosses
theorem dX5_crossingsOf_0 : decode cX5_crossingsOf 0 = .ok (.iconst 0, 1) := by decide +kernel
theorem dX5_crossingsOf_1 : decode cX5_crossingsOf 1 = .ok (.istore_n 2, 1) := by decide +kernel
theorem dX5_crossingsOf_2 : decode cX5_crossingsOf 2 = .ok (.iconst 0, 1) := by decide +kernel
theorem dX5_crossingsOf_3 : decode cX5_crossingsOf 3 = .ok (.istore_n 3, 1) := by decide +kernel
theorem dX5_crossingsOf_4 : decode cX5_crossingsOf 4 = .ok (.iload_n 3, 1) := by decide +kernel
theorem dX5_crossingsOf_5 : decode cX5_crossingsOf 5 = .ok (.aload_n 0, 1) := by decide +kernel
theorem dX5_crossingsOf_6 : decode cX5_crossingsOf 6 = .ok (.getfield 133, 3) := by decide +kernel
theorem dX5_crossingsOf_9 : decode cX5_crossingsOf 9 = .ok (.if_icmp .ge 25, 3) := by decide +kernel
theorem dX5_crossingsOf_12 : decode cX5_crossingsOf 12 = .ok (.aload_n 1, 1) := by decide +kernel
theorem dX5_crossingsOf_13 : decode cX5_crossingsOf 13 = .ok (.aload_n 0, 1) := by decide +kernel
theorem dX5_crossingsOf_14 : decode cX5_crossingsOf 14 = .ok (.getfield 31, 3) := by decide +kernel
theorem dX5_crossingsOf_17 : decode cX5_crossingsOf 17 = .ok (.iload_n 3, 1) := by decide +kernel
theorem dX5_crossingsOf_18 : decode cX5_crossingsOf 18 = .ok (.aaload, 1) := by decide +kernel
theorem dX5_crossingsOf_19 : decode cX5_crossingsOf 19 = .ok (.invokevirtual 198, 3) := by decide +kernel
theorem dX5_crossingsOf_22 : decode cX5_crossingsOf 22 = .ok (.ifCond .eq 6, 3) := by decide +kernel
theorem dX5_crossingsOf_25 : decode cX5_crossingsOf 25 = .ok (.iinc 2 1, 3) := by decide +kernel
theorem dX5_crossingsOf_28 : decode cX5_crossingsOf 28 = .ok (.iinc 3 1, 3) := by decide +kernel
theorem dX5_crossingsOf_31 : decode cX5_crossingsOf 31 = .ok (.goto (-27), 3) := by decide +kernel
theorem dX5_crossingsOf_34 : decode cX5_crossingsOf 34 = .ok (.iload_n 2, 1) := by decide +kernel
theorem dX5_crossingsOf_35 : decode cX5_crossingsOf 35 = .ok (.ireturn, 1) := by decide +kernel
set_option maxRecDepth 20000 in
theorem ggX5_isCrossedByStronger_X1_crosses : GoodIn wsX5_isCrossedByStronger wsX1_crosses := goodIn_r _ [9, 10, 11, 12, 13, 14, 15, 16, 17, 18, 19, 34, 35, 36, 37, 38, 39] (by decide +kernel) (by decide +kernel)
set_option maxRecDepth 20000 in
theorem gX5_isCrossedByStronger_X1_crosses : GoodIn wsX5_isCrossedByStronger (wsV RX5 198 RX1 yX1_crosses wsX1_crosses) := goodIn_app (goodIn_of _ (by decide +kernel)) ggX5_isCrossedByStronger_X1_crosses
theorem dX5_isCrossedByStronger_0 : decode cX5_isCrossedByStronger 0 = .ok (.iconst 0, 1) := by decide +kernel
theorem dX5_isCrossedByStronger_1 : decode cX5_isCrossedByStronger 1 = .ok (.istore_n 2, 1) := by decide +kernel
theorem dX5_isCrossedByStronger_2 : decode cX5_isCrossedByStronger 2 = .ok (.iload_n 2, 1) := by decide +kernel
theorem dX5_isCrossedByStronger_3 : decode cX5_isCrossedByStronger 3 = .ok (.aload_n 0, 1) := by decide +kernel
theorem dX5_isCrossedByStronger_4 : decode cX5_isCrossedByStronger 4 = .ok (.getfield 133, 3) := by decide +kernel
theorem dX5_isCrossedByStronger_7 : decode cX5_isCrossedByStronger 7 = .ok (.if_icmp .ge 44, 3) := by decide +kernel
theorem dX5_isCrossedByStronger_10 : decode cX5_isCrossedByStronger 10 = .ok (.aload_n 0, 1) := by decide +kernel
theorem dX5_isCrossedByStronger_11 : decode cX5_isCrossedByStronger 11 = .ok (.getfield 31, 3) := by decide +kernel
theorem dX5_isCrossedByStronger_14 : decode cX5_isCrossedByStronger 14 = .ok (.iload_n 2, 1) := by decide +kernel
theorem dX5_isCrossedByStronger_15 : decode cX5_isCrossedByStronger 15 = .ok (.aaload, 1) := by decide +kernel
theorem dX5_isCrossedByStronger_16 : decode cX5_isCrossedByStronger 16 = .ok (.astore_n 3, 1) := by decide +kernel
theorem dX5_isCrossedByStronger_17 : decode cX5_isCrossedByStronger 17 = .ok (.aload_n 3, 1) := by decide +kernel
theorem dX5_isCrossedByStronger_18 : decode cX5_isCrossedByStronger 18 = .ok (.getfield 164, 3) := by decide +kernel
theorem dX5_isCrossedByStronger_21 : decode cX5_isCrossedByStronger 21 = .ok (.ifCond .ne 24, 3) := by decide +kernel
theorem dX5_isCrossedByStronger_24 : decode cX5_isCrossedByStronger 24 = .ok (.aload_n 3, 1) := by decide +kernel
theorem dX5_isCrossedByStronger_25 : decode cX5_isCrossedByStronger 25 = .ok (.getfield 144, 3) := by decide +kernel
theorem dX5_isCrossedByStronger_28 : decode cX5_isCrossedByStronger 28 = .ok (.aload_n 1, 1) := by decide +kernel
theorem dX5_isCrossedByStronger_29 : decode cX5_isCrossedByStronger 29 = .ok (.getfield 144, 3) := by decide +kernel
theorem dX5_isCrossedByStronger_32 : decode cX5_isCrossedByStronger 32 = .ok (.if_icmp .le 13, 3) := by decide +kernel
theorem dX5_isCrossedByStronger_35 : decode cX5_isCrossedByStronger 35 = .ok (.aload_n 1, 1) := by decide +kernel
theorem dX5_isCrossedByStronger_36 : decode cX5_isCrossedByStronger 36 = .ok (.aload_n 3, 1) := by decide +kernel
theorem dX5_isCrossedByStronger_37 : decode cX5_isCrossedByStronger 37 = .ok (.invokevirtual 198, 3) := by decide +kernel
theorem dX5_isCrossedByStronger_40 : decode cX5_isCrossedByStronger 40 = .ok (.ifCond .eq 5, 3) := by decide +kernel
theorem dX5_isCrossedByStronger_43 : decode cX5_isCrossedByStronger 43 = .ok (.iconst 1, 1) := by decide +kernel
theorem dX5_isCrossedByStronger_44 : decode cX5_isCrossedByStronger 44 = .ok (.ireturn, 1) := by decide +kernel
theorem dX5_isCrossedByStronger_45 : decode cX5_isCrossedByStronger 45 = .ok (.iinc 2 1, 3) := by decide +kernel
theorem dX5_isCrossedByStronger_48 : decode cX5_isCrossedByStronger 48 = .ok (.goto (-46), 3) := by decide +kernel
theorem dX5_isCrossedByStronger_51 : decode cX5_isCrossedByStronger 51 = .ok (.iconst 0, 1) := by decide +kernel
theorem dX5_isCrossedByStronger_52 : decode cX5_isCrossedByStronger 52 = .ok (.ireturn, 1) := by decide +kernel
set_option maxRecDepth 20000 in
theorem ggX5_breadth_X3_widestYard : GoodIn wsX5_breadth wsX3_widestYard := goodIn_r _ [14, 15, 16, 17, 7, 8, 9, 35, 36, 37, 38] (by decide +kernel) (by decide +kernel)
set_option maxRecDepth 20000 in
theorem gX5_breadth_X3_widestYard : GoodIn wsX5_breadth (wsV RX5 305 RX3 yX3_widestYard wsX3_widestYard) := goodIn_app (goodIn_of _ (by decide +kernel)) ggX5_breadth_X3_widestYard
theorem dX5_breadth_0 : decode cX5_breadth 0 = .ok (.aload_n 0, 1) := by decide +kernel
theorem dX5_breadth_1 : decode cX5_breadth 1 = .ok (.getfield 19, 3) := by decide +kernel
theorem dX5_breadth_4 : decode cX5_breadth 4 = .ok (.getfield 98, 3) := by decide +kernel
theorem dX5_breadth_7 : decode cX5_breadth 7 = .ok (.istore_n 1, 1) := by decide +kernel
theorem dX5_breadth_8 : decode cX5_breadth 8 = .ok (.iconst 0, 1) := by decide +kernel
theorem dX5_breadth_9 : decode cX5_breadth 9 = .ok (.istore_n 2, 1) := by decide +kernel
theorem dX5_breadth_10 : decode cX5_breadth 10 = .ok (.iload_n 2, 1) := by decide +kernel
theorem dX5_breadth_11 : decode cX5_breadth 11 = .ok (.aload_n 0, 1) := by decide +kernel
theorem dX5_breadth_12 : decode cX5_breadth 12 = .ok (.getfield 89, 3) := by decide +kernel
theorem dX5_breadth_15 : decode cX5_breadth 15 = .ok (.if_icmp .ge 34, 3) := by decide +kernel
theorem dX5_breadth_18 : decode cX5_breadth 18 = .ok (.aload_n 0, 1) := by decide +kernel
theorem dX5_breadth_19 : decode cX5_breadth 19 = .ok (.getfield 42, 3) := by decide +kernel
theorem dX5_breadth_22 : decode cX5_breadth 22 = .ok (.iload_n 2, 1) := by decide +kernel
theorem dX5_breadth_23 : decode cX5_breadth 23 = .ok (.iaload, 1) := by decide +kernel
theorem dX5_breadth_24 : decode cX5_breadth 24 = .ok (.bipush 9, 2) := by decide +kernel
theorem dX5_breadth_26 : decode cX5_breadth 26 = .ok (.if_icmp .eq 17, 3) := by decide +kernel
theorem dX5_breadth_29 : decode cX5_breadth 29 = .ok (.iload_n 1, 1) := by decide +kernel
theorem dX5_breadth_30 : decode cX5_breadth 30 = .ok (.aload_n 0, 1) := by decide +kernel
theorem dX5_breadth_31 : decode cX5_breadth 31 = .ok (.getfield 25, 3) := by decide +kernel
theorem dX5_breadth_34 : decode cX5_breadth 34 = .ok (.iload_n 2, 1) := by decide +kernel
theorem dX5_breadth_35 : decode cX5_breadth 35 = .ok (.aaload, 1) := by decide +kernel
theorem dX5_breadth_36 : decode cX5_breadth 36 = .ok (.invokevirtual 305, 3) := by decide +kernel
theorem dX5_breadth_39 : decode cX5_breadth 39 = .ok (.invokestatic 276, 3) := by decide +kernel
theorem dX5_breadth_42 : decode cX5_breadth 42 = .ok (.istore_n 1, 1) := by decide +kernel
theorem dX5_breadth_43 : decode cX5_breadth 43 = .ok (.iinc 2 1, 3) := by decide +kernel
theorem dX5_breadth_46 : decode cX5_breadth 46 = .ok (.goto (-36), 3) := by decide +kernel
theorem dX5_breadth_49 : decode cX5_breadth 49 = .ok (.iload_n 1, 1) := by decide +kernel
theorem dX5_breadth_50 : decode cX5_breadth 50 = .ok (.ireturn, 1) := by decide +kernel
set_option maxRecDepth 20000 in
theorem ggX5_topWith_X3_standing : GoodIn wsX5_topWith wsX3_standing := goodIn_r _ [13, 14, 32, 33, 34, 35] (by decide +kernel) (by decide +kernel)
set_option maxRecDepth 20000 in
theorem gX5_topWith_X3_standing : GoodIn wsX5_topWith (wsV RX5 202 RX3 yX3_standing wsX3_standing) := goodIn_app (goodIn_of _ (by decide +kernel)) ggX5_topWith_X3_standing
theorem dX5_topWith_0 : decode cX5_topWith 0 = .ok (.iconst 0, 1) := by decide +kernel
theorem dX5_topWith_1 : decode cX5_topWith 1 = .ok (.istore_n 2, 1) := by decide +kernel
theorem dX5_topWith_2 : decode cX5_topWith 2 = .ok (.iconst 0, 1) := by decide +kernel
theorem dX5_topWith_3 : decode cX5_topWith 3 = .ok (.istore_n 3, 1) := by decide +kernel
theorem dX5_topWith_4 : decode cX5_topWith 4 = .ok (.iload_n 3, 1) := by decide +kernel
theorem dX5_topWith_5 : decode cX5_topWith 5 = .ok (.aload_n 0, 1) := by decide +kernel
theorem dX5_topWith_6 : decode cX5_topWith 6 = .ok (.getfield 89, 3) := by decide +kernel
theorem dX5_topWith_9 : decode cX5_topWith 9 = .ok (.if_icmp .ge 26, 3) := by decide +kernel
theorem dX5_topWith_12 : decode cX5_topWith 12 = .ok (.iload_n 2, 1) := by decide +kernel
theorem dX5_topWith_13 : decode cX5_topWith 13 = .ok (.aload_n 0, 1) := by decide +kernel
theorem dX5_topWith_14 : decode cX5_topWith 14 = .ok (.getfield 25, 3) := by decide +kernel
theorem dX5_topWith_17 : decode cX5_topWith 17 = .ok (.iload_n 3, 1) := by decide +kernel
theorem dX5_topWith_18 : decode cX5_topWith 18 = .ok (.aaload, 1) := by decide +kernel
theorem dX5_topWith_19 : decode cX5_topWith 19 = .ok (.aload_n 1, 1) := by decide +kernel
theorem dX5_topWith_20 : decode cX5_topWith 20 = .ok (.iload_n 3, 1) := by decide +kernel
theorem dX5_topWith_21 : decode cX5_topWith 21 = .ok (.iaload, 1) := by decide +kernel
theorem dX5_topWith_22 : decode cX5_topWith 22 = .ok (.invokevirtual 202, 3) := by decide +kernel
theorem dX5_topWith_25 : decode cX5_topWith 25 = .ok (.invokestatic 276, 3) := by decide +kernel
theorem dX5_topWith_28 : decode cX5_topWith 28 = .ok (.istore_n 2, 1) := by decide +kernel
theorem dX5_topWith_29 : decode cX5_topWith 29 = .ok (.iinc 3 1, 3) := by decide +kernel
theorem dX5_topWith_32 : decode cX5_topWith 32 = .ok (.goto (-28), 3) := by decide +kernel
theorem dX5_topWith_35 : decode cX5_topWith 35 = .ok (.aload_n 0, 1) := by decide +kernel
theorem dX5_topWith_36 : decode cX5_topWith 36 = .ok (.getfield 19, 3) := by decide +kernel
theorem dX5_topWith_39 : decode cX5_topWith 39 = .ok (.getfield 95, 3) := by decide +kernel
theorem dX5_topWith_42 : decode cX5_topWith 42 = .ok (.iload_n 2, 1) := by decide +kernel
theorem dX5_topWith_43 : decode cX5_topWith 43 = .ok (.iadd, 1) := by decide +kernel
theorem dX5_topWith_44 : decode cX5_topWith 44 = .ok (.ireturn, 1) := by decide +kernel
set_option maxRecDepth 20000 in
theorem ggX5_endWith_X3_reach : GoodIn wsX5_endWith wsX3_reach := goodIn_r _ [14, 15, 33, 34, 35, 36] (by decide +kernel) (by decide +kernel)
set_option maxRecDepth 20000 in
theorem gX5_endWith_X3_reach : GoodIn wsX5_endWith (wsV RX5 205 RX3 yX3_reach wsX3_reach) := goodIn_app (goodIn_of _ (by decide +kernel)) ggX5_endWith_X3_reach
theorem dX5_endWith_0 : decode cX5_endWith 0 = .ok (.aload_n 0, 1) := by decide +kernel
theorem dX5_endWith_1 : decode cX5_endWith 1 = .ok (.getfield 19, 3) := by decide +kernel
theorem dX5_endWith_4 : decode cX5_endWith 4 = .ok (.getfield 94, 3) := by decide +kernel
theorem dX5_endWith_7 : decode cX5_endWith 7 = .ok (.istore_n 2, 1) := by decide +kernel
theorem dX5_endWith_8 : decode cX5_endWith 8 = .ok (.iconst 0, 1) := by decide +kernel
theorem dX5_endWith_9 : decode cX5_endWith 9 = .ok (.istore_n 3, 1) := by decide +kernel
theorem dX5_endWith_10 : decode cX5_endWith 10 = .ok (.iload_n 3, 1) := by decide +kernel
theorem dX5_endWith_11 : decode cX5_endWith 11 = .ok (.aload_n 0, 1) := by decide +kernel
theorem dX5_endWith_12 : decode cX5_endWith 12 = .ok (.getfield 89, 3) := by decide +kernel
theorem dX5_endWith_15 : decode cX5_endWith 15 = .ok (.if_icmp .ge 36, 3) := by decide +kernel
theorem dX5_endWith_18 : decode cX5_endWith 18 = .ok (.iload_n 2, 1) := by decide +kernel
theorem dX5_endWith_19 : decode cX5_endWith 19 = .ok (.aload_n 0, 1) := by decide +kernel
theorem dX5_endWith_20 : decode cX5_endWith 20 = .ok (.getfield 25, 3) := by decide +kernel
theorem dX5_endWith_23 : decode cX5_endWith 23 = .ok (.iload_n 3, 1) := by decide +kernel
theorem dX5_endWith_24 : decode cX5_endWith 24 = .ok (.aaload, 1) := by decide +kernel
theorem dX5_endWith_25 : decode cX5_endWith 25 = .ok (.getfield 109, 3) := by decide +kernel
theorem dX5_endWith_28 : decode cX5_endWith 28 = .ok (.aload_n 0, 1) := by decide +kernel
theorem dX5_endWith_29 : decode cX5_endWith 29 = .ok (.getfield 25, 3) := by decide +kernel
theorem dX5_endWith_32 : decode cX5_endWith 32 = .ok (.iload_n 3, 1) := by decide +kernel
theorem dX5_endWith_33 : decode cX5_endWith 33 = .ok (.aaload, 1) := by decide +kernel
theorem dX5_endWith_34 : decode cX5_endWith 34 = .ok (.aload_n 1, 1) := by decide +kernel
theorem dX5_endWith_35 : decode cX5_endWith 35 = .ok (.iload_n 3, 1) := by decide +kernel
theorem dX5_endWith_36 : decode cX5_endWith 36 = .ok (.iaload, 1) := by decide +kernel
theorem dX5_endWith_37 : decode cX5_endWith 37 = .ok (.invokevirtual 205, 3) := by decide +kernel
theorem dX5_endWith_40 : decode cX5_endWith 40 = .ok (.iadd, 1) := by decide +kernel
theorem dX5_endWith_41 : decode cX5_endWith 41 = .ok (.invokestatic 276, 3) := by decide +kernel
theorem dX5_endWith_44 : decode cX5_endWith 44 = .ok (.istore_n 2, 1) := by decide +kernel
theorem dX5_endWith_45 : decode cX5_endWith 45 = .ok (.iinc 3 1, 3) := by decide +kernel
theorem dX5_endWith_48 : decode cX5_endWith 48 = .ok (.goto (-38), 3) := by decide +kernel
theorem dX5_endWith_51 : decode cX5_endWith 51 = .ok (.iload_n 2, 1) := by decide +kernel
theorem dX5_endWith_52 : decode cX5_endWith 52 = .ok (.ireturn, 1) := by decide +kernel
set_option maxRecDepth 20000 in
theorem ggX5_goesThroughNeck_X5_breadth : GoodIn wsX5_goesThroughNeck wsX5_breadth := goodIn_r _ [8, 9, 10, 11, 3, 12, 13, 14, 15, 16, 17, 18, 19, 20, 21, 22, 23, 24, 35, 36, 37, 38, 39, 40, 41, 42, 43, 44, 45, 46, 47, 48, 53, 54, 55, 56, 57, 58, 59] (by decide +kernel) (by decide +kernel)
set_option maxRecDepth 20000 in
theorem gX5_goesThroughNeck_X5_breadth : GoodIn wsX5_goesThroughNeck (wsV RX5 221 RX5 yX5_breadth wsX5_breadth) := goodIn_app (goodIn_of _ (by decide +kernel)) ggX5_goesThroughNeck_X5_breadth
set_option maxRecDepth 20000 in
theorem ggX5_goesThroughNeck_X5_topWith : GoodIn wsX5_goesThroughNeck wsX5_topWith := goodIn_r _ [28, 11, 12, 13, 14, 15, 16, 9, 29, 30, 31, 32, 20, 33, 34, 35, 36, 37, 38, 39, 40, 41, 42, 43, 44, 45, 46, 47, 48, 53, 54, 55, 56, 57, 58, 59] (by decide +kernel) (by decide +kernel)
set_option maxRecDepth 20000 in
theorem gX5_goesThroughNeck_X5_topWith : GoodIn wsX5_goesThroughNeck (wsV RX5 225 RX5 yX5_topWith wsX5_topWith) := goodIn_app (goodIn_of _ (by decide +kernel)) ggX5_goesThroughNeck_X5_topWith
theorem dX5_goesThroughNeck_0 : decode cX5_goesThroughNeck 0 = .ok (.aload_n 0, 1) := by decide +kernel
theorem dX5_goesThroughNeck_1 : decode cX5_goesThroughNeck 1 = .ok (.invokevirtual 221, 3) := by decide +kernel
theorem dX5_goesThroughNeck_4 : decode cX5_goesThroughNeck 4 = .ok (.aload_n 0, 1) := by decide +kernel
theorem dX5_goesThroughNeck_5 : decode cX5_goesThroughNeck 5 = .ok (.getfield 10, 3) := by decide +kernel
theorem dX5_goesThroughNeck_8 : decode cX5_goesThroughNeck 8 = .ok (.getfield 74, 3) := by decide +kernel
theorem dX5_goesThroughNeck_11 : decode cX5_goesThroughNeck 11 = .ok (.if_icmp .gt 25, 3) := by decide +kernel
theorem dX5_goesThroughNeck_14 : decode cX5_goesThroughNeck 14 = .ok (.aload_n 0, 1) := by decide +kernel
theorem dX5_goesThroughNeck_15 : decode cX5_goesThroughNeck 15 = .ok (.aload_n 0, 1) := by decide +kernel
theorem dX5_goesThroughNeck_16 : decode cX5_goesThroughNeck 16 = .ok (.getfield 42, 3) := by decide +kernel
theorem dX5_goesThroughNeck_19 : decode cX5_goesThroughNeck 19 = .ok (.invokevirtual 225, 3) := by decide +kernel
theorem dX5_goesThroughNeck_22 : decode cX5_goesThroughNeck 22 = .ok (.aload_n 0, 1) := by decide +kernel
theorem dX5_goesThroughNeck_23 : decode cX5_goesThroughNeck 23 = .ok (.getfield 10, 3) := by decide +kernel
theorem dX5_goesThroughNeck_26 : decode cX5_goesThroughNeck 26 = .ok (.getfield 74, 3) := by decide +kernel
theorem dX5_goesThroughNeck_29 : decode cX5_goesThroughNeck 29 = .ok (.if_icmp .gt 7, 3) := by decide +kernel
theorem dX5_goesThroughNeck_32 : decode cX5_goesThroughNeck 32 = .ok (.iconst 1, 1) := by decide +kernel
theorem dX5_goesThroughNeck_33 : decode cX5_goesThroughNeck 33 = .ok (.goto 4, 3) := by decide +kernel
theorem dX5_goesThroughNeck_36 : decode cX5_goesThroughNeck 36 = .ok (.iconst 0, 1) := by decide +kernel
theorem dX5_goesThroughNeck_37 : decode cX5_goesThroughNeck 37 = .ok (.ireturn, 1) := by decide +kernel
set_option maxRecDepth 20000 in
theorem ggX5_fitsWith_X5_endWith : GoodIn wsX5_fitsWith wsX5_endWith := goodIn_r _ [9, 10, 11, 12, 13, 14, 15, 16, 17, 18, 19, 20, 21, 22, 23, 24, 34, 35, 36, 37, 38, 39, 40, 41, 42, 43, 44, 45, 46, 47, 52, 53, 54, 55, 56, 57, 58] (by decide +kernel) (by decide +kernel)
set_option maxRecDepth 20000 in
theorem gX5_fitsWith_X5_endWith : GoodIn wsX5_fitsWith (wsV RX5 229 RX5 yX5_endWith wsX5_endWith) := goodIn_app (goodIn_of _ (by decide +kernel)) ggX5_fitsWith_X5_endWith
set_option maxRecDepth 20000 in
theorem ggX5_fitsWith_X5_topWith : GoodIn wsX5_fitsWith wsX5_topWith := goodIn_r _ [28, 12, 13, 15, 16, 17, 18, 10, 29, 30, 31, 32, 22, 33, 24, 34, 35, 36, 37, 38, 39, 40, 41, 42, 43, 44, 45, 46, 47, 52, 53, 54, 55, 56, 57, 58] (by decide +kernel) (by decide +kernel)
set_option maxRecDepth 20000 in
theorem gX5_fitsWith_X5_topWith : GoodIn wsX5_fitsWith (wsV RX5 225 RX5 yX5_topWith wsX5_topWith) := goodIn_app (goodIn_of _ (by decide +kernel)) ggX5_fitsWith_X5_topWith
theorem dX5_fitsWith_0 : decode cX5_fitsWith 0 = .ok (.aload_n 0, 1) := by decide +kernel
theorem dX5_fitsWith_1 : decode cX5_fitsWith 1 = .ok (.aload_n 1, 1) := by decide +kernel
theorem dX5_fitsWith_2 : decode cX5_fitsWith 2 = .ok (.invokevirtual 229, 3) := by decide +kernel
theorem dX5_fitsWith_5 : decode cX5_fitsWith 5 = .ok (.aload_n 0, 1) := by decide +kernel
theorem dX5_fitsWith_6 : decode cX5_fitsWith 6 = .ok (.getfield 10, 3) := by decide +kernel
theorem dX5_fitsWith_9 : decode cX5_fitsWith 9 = .ok (.getfield 81, 3) := by decide +kernel
theorem dX5_fitsWith_12 : decode cX5_fitsWith 12 = .ok (.if_icmp .gt 30, 3) := by decide +kernel
theorem dX5_fitsWith_15 : decode cX5_fitsWith 15 = .ok (.aload_n 0, 1) := by decide +kernel
theorem dX5_fitsWith_16 : decode cX5_fitsWith 16 = .ok (.aload_n 1, 1) := by decide +kernel
theorem dX5_fitsWith_17 : decode cX5_fitsWith 17 = .ok (.invokevirtual 225, 3) := by decide +kernel
theorem dX5_fitsWith_20 : decode cX5_fitsWith 20 = .ok (.aload_n 0, 1) := by decide +kernel
theorem dX5_fitsWith_21 : decode cX5_fitsWith 21 = .ok (.getfield 10, 3) := by decide +kernel
theorem dX5_fitsWith_24 : decode cX5_fitsWith 24 = .ok (.getfield 84, 3) := by decide +kernel
theorem dX5_fitsWith_27 : decode cX5_fitsWith 27 = .ok (.iadd, 1) := by decide +kernel
theorem dX5_fitsWith_28 : decode cX5_fitsWith 28 = .ok (.aload_n 0, 1) := by decide +kernel
theorem dX5_fitsWith_29 : decode cX5_fitsWith 29 = .ok (.getfield 10, 3) := by decide +kernel
theorem dX5_fitsWith_32 : decode cX5_fitsWith 32 = .ok (.getfield 78, 3) := by decide +kernel
theorem dX5_fitsWith_35 : decode cX5_fitsWith 35 = .ok (.if_icmp .gt 7, 3) := by decide +kernel
theorem dX5_fitsWith_38 : decode cX5_fitsWith 38 = .ok (.iconst 1, 1) := by decide +kernel
theorem dX5_fitsWith_39 : decode cX5_fitsWith 39 = .ok (.goto 4, 3) := by decide +kernel
theorem dX5_fitsWith_42 : decode cX5_fitsWith 42 = .ok (.iconst 0, 1) := by decide +kernel
theorem dX5_fitsWith_43 : decode cX5_fitsWith 43 = .ok (.ireturn, 1) := by decide +kernel
set_option maxRecDepth 20000 in
theorem ggX5_hindranceOf_X5_isHeld : GoodIn wsX5_hindranceOf wsX5_isHeld := goodIn_r _ [9, 10, 11, 12, 8, 13, 14, 15, 1, 16, 84, 85, 86, 87, 88, 89, 90, 91, 92, 93, 94, 95, 96, 97, 78, 79, 80, 81, 82, 83] (by decide +kernel) (by decide +kernel)
set_option maxRecDepth 20000 in
theorem gX5_hindranceOf_X5_isHeld : GoodIn wsX5_hindranceOf (wsV RX5 208 RX5 yX5_isHeld wsX5_isHeld) := goodIn_app (goodIn_of _ (by decide +kernel)) ggX5_hindranceOf_X5_isHeld
set_option maxRecDepth 20000 in
theorem ggX5_hindranceOf_X5_isCrossedByStronger : GoodIn wsX5_hindranceOf wsX5_isCrossedByStronger := goodIn_r _ [20, 14, 15, 16, 21, 22, 23, 24, 25, 26, 27, 28, 29, 30, 31, 32, 33, 34, 35, 36, 84, 85, 86, 87, 88, 89, 90, 91, 92, 93, 94, 95, 96, 97, 78, 79, 80, 81, 82, 83] (by decide +kernel) (by decide +kernel)
set_option maxRecDepth 20000 in
theorem gX5_hindranceOf_X5_isCrossedByStronger : GoodIn wsX5_hindranceOf (wsV RX5 308 RX5 yX5_isCrossedByStronger wsX5_isCrossedByStronger) := goodIn_app (goodIn_of _ (by decide +kernel)) ggX5_hindranceOf_X5_isCrossedByStronger
set_option maxRecDepth 20000 in
theorem ggX5_hindranceOf_X5_loweredBy : GoodIn wsX5_hindranceOf wsX5_loweredBy := goodIn_r _ [40, 14, 15, 1, 16, 41, 5, 6, 7, 8, 9, 10, 11, 12, 13, 84, 85, 86, 87, 88, 89, 90, 91, 92, 93, 94, 95, 96, 97, 78, 79, 80, 81, 82, 83] (by decide +kernel) (by decide +kernel)
set_option maxRecDepth 20000 in
theorem gX5_hindranceOf_X5_loweredBy : GoodIn wsX5_hindranceOf (wsV RX5 182 RX5 yX5_loweredBy wsX5_loweredBy) := goodIn_app (goodIn_of _ (by decide +kernel)) ggX5_hindranceOf_X5_loweredBy
set_option maxRecDepth 20000 in
theorem ggX5_hindranceOf_X5_raise : GoodIn wsX5_hindranceOf wsX5_raise := goodIn_r _ [44] (by decide +kernel) (by decide +kernel)
set_option maxRecDepth 20000 in
theorem gX5_hindranceOf_X5_raise : GoodIn wsX5_hindranceOf (va_wsS RX5 186 yX5_raise wsX5_raise) := goodIn_app (goodIn_of _ (by decide +kernel)) ggX5_hindranceOf_X5_raise
set_option maxRecDepth 20000 in
theorem ggX5_hindranceOf_X5_fitsWith : GoodIn wsX5_hindranceOf wsX5_fitsWith := goodIn_r _ [48, 49, 50, 51, 52, 53, 54, 55, 8, 56, 57, 58, 59, 60, 61, 62, 30, 31, 32, 63, 64, 65, 66, 67, 68, 69, 70, 71, 72, 73, 74, 75, 76, 77, 84, 85, 86, 87, 88, 89, 90, 91, 92, 93, 94, 95, 96, 97, 98, 99, 100, 101, 102, 103, 104, 105, 106, 107, 108] (by decide +kernel) (by decide +kernel)
set_option maxRecDepth 20000 in
theorem gX5_hindranceOf_X5_fitsWith : GoodIn wsX5_hindranceOf (wsV RX5 155 RX5 yX5_fitsWith wsX5_fitsWith) := goodIn_app (goodIn_of _ (by decide +kernel)) ggX5_hindranceOf_X5_fitsWith
theorem dX5_hindranceOf_0 : decode cX5_hindranceOf 0 = .ok (.aload_n 0, 1) := by decide +kernel
theorem dX5_hindranceOf_1 : decode cX5_hindranceOf 1 = .ok (.aload_n 1, 1) := by decide +kernel
theorem dX5_hindranceOf_2 : decode cX5_hindranceOf 2 = .ok (.getfield 138, 3) := by decide +kernel
theorem dX5_hindranceOf_5 : decode cX5_hindranceOf 5 = .ok (.invokevirtual 208, 3) := by decide +kernel
theorem dX5_hindranceOf_8 : decode cX5_hindranceOf 8 = .ok (.ifCond .ne 15, 3) := by decide +kernel
theorem dX5_hindranceOf_11 : decode cX5_hindranceOf 11 = .ok (.aload_n 0, 1) := by decide +kernel
theorem dX5_hindranceOf_12 : decode cX5_hindranceOf 12 = .ok (.getfield 42, 3) := by decide +kernel
theorem dX5_hindranceOf_15 : decode cX5_hindranceOf 15 = .ok (.aload_n 1, 1) := by decide +kernel
theorem dX5_hindranceOf_16 : decode cX5_hindranceOf 16 = .ok (.getfield 138, 3) := by decide +kernel
theorem dX5_hindranceOf_19 : decode cX5_hindranceOf 19 = .ok (.iaload, 1) := by decide +kernel
theorem dX5_hindranceOf_20 : decode cX5_hindranceOf 20 = .ok (.ifCond .ne 5, 3) := by decide +kernel
theorem dX5_hindranceOf_23 : decode cX5_hindranceOf 23 = .ok (.iconst (-1), 1) := by decide +kernel
theorem dX5_hindranceOf_24 : decode cX5_hindranceOf 24 = .ok (.ireturn, 1) := by decide +kernel
theorem dX5_hindranceOf_25 : decode cX5_hindranceOf 25 = .ok (.aload_n 0, 1) := by decide +kernel
theorem dX5_hindranceOf_26 : decode cX5_hindranceOf 26 = .ok (.aload_n 1, 1) := by decide +kernel
theorem dX5_hindranceOf_27 : decode cX5_hindranceOf 27 = .ok (.invokevirtual 308, 3) := by decide +kernel
theorem dX5_hindranceOf_30 : decode cX5_hindranceOf 30 = .ok (.ifCond .eq 6, 3) := by decide +kernel
theorem dX5_hindranceOf_33 : decode cX5_hindranceOf 33 = .ok (.bipush (-2), 2) := by decide +kernel
theorem dX5_hindranceOf_35 : decode cX5_hindranceOf 35 = .ok (.ireturn, 1) := by decide +kernel
theorem dX5_hindranceOf_36 : decode cX5_hindranceOf 36 = .ok (.aload_n 1, 1) := by decide +kernel
theorem dX5_hindranceOf_37 : decode cX5_hindranceOf 37 = .ok (.getfield 138, 3) := by decide +kernel
theorem dX5_hindranceOf_40 : decode cX5_hindranceOf 40 = .ok (.aload_n 0, 1) := by decide +kernel
theorem dX5_hindranceOf_41 : decode cX5_hindranceOf 41 = .ok (.aload_n 1, 1) := by decide +kernel
theorem dX5_hindranceOf_42 : decode cX5_hindranceOf 42 = .ok (.getfield 138, 3) := by decide +kernel
theorem dX5_hindranceOf_45 : decode cX5_hindranceOf 45 = .ok (.invokevirtual 182, 3) := by decide +kernel
theorem dX5_hindranceOf_48 : decode cX5_hindranceOf 48 = .ok (.aload_n 0, 1) := by decide +kernel
theorem dX5_hindranceOf_49 : decode cX5_hindranceOf 49 = .ok (.getfield 42, 3) := by decide +kernel
theorem dX5_hindranceOf_52 : decode cX5_hindranceOf 52 = .ok (.aload_n 0, 1) := by decide +kernel
theorem dX5_hindranceOf_53 : decode cX5_hindranceOf 53 = .ok (.getfield 49, 3) := by decide +kernel
theorem dX5_hindranceOf_56 : decode cX5_hindranceOf 56 = .ok (.invokestatic 186, 3) := by decide +kernel
theorem dX5_hindranceOf_59 : decode cX5_hindranceOf 59 = .ok (.aload_n 0, 1) := by decide +kernel
theorem dX5_hindranceOf_60 : decode cX5_hindranceOf 60 = .ok (.getfield 65, 3) := by decide +kernel
theorem dX5_hindranceOf_63 : decode cX5_hindranceOf 63 = .ok (.ifCond .eq 19, 3) := by decide +kernel
theorem dX5_hindranceOf_66 : decode cX5_hindranceOf 66 = .ok (.aload_n 0, 1) := by decide +kernel
theorem dX5_hindranceOf_67 : decode cX5_hindranceOf 67 = .ok (.aload_n 0, 1) := by decide +kernel
theorem dX5_hindranceOf_68 : decode cX5_hindranceOf 68 = .ok (.getfield 49, 3) := by decide +kernel
theorem dX5_hindranceOf_71 : decode cX5_hindranceOf 71 = .ok (.invokevirtual 155, 3) := by decide +kernel
