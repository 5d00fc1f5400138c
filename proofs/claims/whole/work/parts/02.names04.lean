theorem dX5_hindranceOf_74 : decode cX5_hindranceOf 74 = .ok (.ifCond .ne 8, 3) := by decide +kernel
theorem dX5_hindranceOf_77 : decode cX5_hindranceOf 77 = .ok (.bipush (-3), 2) := by decide +kernel
theorem dX5_hindranceOf_79 : decode cX5_hindranceOf 79 = .ok (.goto 4, 3) := by decide +kernel
theorem dX5_hindranceOf_82 : decode cX5_hindranceOf 82 = .ok (.iconst 0, 1) := by decide +kernel
theorem dX5_hindranceOf_83 : decode cX5_hindranceOf 83 = .ok (.ireturn, 1) := by decide +kernel
set_option maxRecDepth 20000 in
theorem ggX5_loweredBy_X5_isHeld : GoodIn wsX5_loweredBy wsX5_isHeld := goodIn_r _ [10, 11, 12, 13, 9, 14, 1, 2, 3, 4, 15, 16, 17, 18, 19, 20, 21, 22, 23, 24, 25, 26, 27, 28, 29, 30, 31, 32, 33, 34] (by decide +kernel) (by decide +kernel)
set_option maxRecDepth 20000 in
theorem gX5_loweredBy_X5_isHeld : GoodIn wsX5_loweredBy (wsV RX5 208 RX5 yX5_isHeld wsX5_isHeld) := goodIn_app (goodIn_of _ (by decide +kernel)) ggX5_loweredBy_X5_isHeld
theorem dX5_loweredBy_0 : decode cX5_loweredBy 0 = .ok (.iconst 0, 1) := by decide +kernel
theorem dX5_loweredBy_1 : decode cX5_loweredBy 1 = .ok (.istore_n 2, 1) := by decide +kernel
theorem dX5_loweredBy_2 : decode cX5_loweredBy 2 = .ok (.iconst 0, 1) := by decide +kernel
theorem dX5_loweredBy_3 : decode cX5_loweredBy 3 = .ok (.istore_n 3, 1) := by decide +kernel
theorem dX5_loweredBy_4 : decode cX5_loweredBy 4 = .ok (.iload_n 3, 1) := by decide +kernel
theorem dX5_loweredBy_5 : decode cX5_loweredBy 5 = .ok (.aload_n 0, 1) := by decide +kernel
theorem dX5_loweredBy_6 : decode cX5_loweredBy 6 = .ok (.getfield 133, 3) := by decide +kernel
theorem dX5_loweredBy_9 : decode cX5_loweredBy 9 = .ok (.if_icmp .ge 65, 3) := by decide +kernel
theorem dX5_loweredBy_12 : decode cX5_loweredBy 12 = .ok (.aload_n 0, 1) := by decide +kernel
theorem dX5_loweredBy_13 : decode cX5_loweredBy 13 = .ok (.getfield 31, 3) := by decide +kernel
theorem dX5_loweredBy_16 : decode cX5_loweredBy 16 = .ok (.iload_n 3, 1) := by decide +kernel
theorem dX5_loweredBy_17 : decode cX5_loweredBy 17 = .ok (.aaload, 1) := by decide +kernel
theorem dX5_loweredBy_18 : decode cX5_loweredBy 18 = .ok (.astore 4, 2) := by decide +kernel
theorem dX5_loweredBy_20 : decode cX5_loweredBy 20 = .ok (.aload 4, 2) := by decide +kernel
theorem dX5_loweredBy_22 : decode cX5_loweredBy 22 = .ok (.getfield 138, 3) := by decide +kernel
theorem dX5_loweredBy_25 : decode cX5_loweredBy 25 = .ok (.iload_n 1, 1) := by decide +kernel
theorem dX5_loweredBy_26 : decode cX5_loweredBy 26 = .ok (.if_icmp .ne 42, 3) := by decide +kernel
theorem dX5_loweredBy_29 : decode cX5_loweredBy 29 = .ok (.aload 4, 2) := by decide +kernel
theorem dX5_loweredBy_31 : decode cX5_loweredBy 31 = .ok (.getfield 164, 3) := by decide +kernel
theorem dX5_loweredBy_34 : decode cX5_loweredBy 34 = .ok (.ifCond .ne 34, 3) := by decide +kernel
theorem dX5_loweredBy_37 : decode cX5_loweredBy 37 = .ok (.aload 4, 2) := by decide +kernel
theorem dX5_loweredBy_39 : decode cX5_loweredBy 39 = .ok (.getfield 141, 3) := by decide +kernel
theorem dX5_loweredBy_42 : decode cX5_loweredBy 42 = .ok (.iconst (-1), 1) := by decide +kernel
theorem dX5_loweredBy_43 : decode cX5_loweredBy 43 = .ok (.if_icmp .eq 25, 3) := by decide +kernel
theorem dX5_loweredBy_46 : decode cX5_loweredBy 46 = .ok (.aload_n 0, 1) := by decide +kernel
theorem dX5_loweredBy_47 : decode cX5_loweredBy 47 = .ok (.aload 4, 2) := by decide +kernel
theorem dX5_loweredBy_49 : decode cX5_loweredBy 49 = .ok (.getfield 141, 3) := by decide +kernel
theorem dX5_loweredBy_52 : decode cX5_loweredBy 52 = .ok (.invokevirtual 208, 3) := by decide +kernel
theorem dX5_loweredBy_55 : decode cX5_loweredBy 55 = .ok (.ifCond .ne 13, 3) := by decide +kernel
theorem dX5_loweredBy_58 : decode cX5_loweredBy 58 = .ok (.iload_n 2, 1) := by decide +kernel
theorem dX5_loweredBy_59 : decode cX5_loweredBy 59 = .ok (.iconst 1, 1) := by decide +kernel
theorem dX5_loweredBy_60 : decode cX5_loweredBy 60 = .ok (.aload 4, 2) := by decide +kernel
theorem dX5_loweredBy_62 : decode cX5_loweredBy 62 = .ok (.getfield 141, 3) := by decide +kernel
theorem dX5_loweredBy_65 : decode cX5_loweredBy 65 = .ok (.ishl, 1) := by decide +kernel
theorem dX5_loweredBy_66 : decode cX5_loweredBy 66 = .ok (.ior, 1) := by decide +kernel
theorem dX5_loweredBy_67 : decode cX5_loweredBy 67 = .ok (.istore_n 2, 1) := by decide +kernel
theorem dX5_loweredBy_68 : decode cX5_loweredBy 68 = .ok (.iinc 3 1, 3) := by decide +kernel
theorem dX5_loweredBy_71 : decode cX5_loweredBy 71 = .ok (.goto (-67), 3) := by decide +kernel
theorem dX5_loweredBy_74 : decode cX5_loweredBy 74 = .ok (.iload_n 2, 1) := by decide +kernel
theorem dX5_loweredBy_75 : decode cX5_loweredBy 75 = .ok (.ireturn, 1) := by decide +kernel
theorem dX5_raise_0 : decode cX5_raise 0 = .ok (.iconst 0, 1) := by decide +kernel
theorem dX5_raise_1 : decode cX5_raise 1 = .ok (.istore 4, 2) := by decide +kernel
theorem dX5_raise_3 : decode cX5_raise 3 = .ok (.iload 4, 2) := by decide +kernel
theorem dX5_raise_5 : decode cX5_raise 5 = .ok (.iconst 3, 1) := by decide +kernel
theorem dX5_raise_6 : decode cX5_raise 6 = .ok (.if_icmp .ge 61, 3) := by decide +kernel
theorem dX5_raise_9 : decode cX5_raise 9 = .ok (.aload_n 3, 1) := by decide +kernel
theorem dX5_raise_10 : decode cX5_raise 10 = .ok (.iload 4, 2) := by decide +kernel
theorem dX5_raise_12 : decode cX5_raise 12 = .ok (.aload_n 2, 1) := by decide +kernel
theorem dX5_raise_13 : decode cX5_raise 13 = .ok (.iload 4, 2) := by decide +kernel
theorem dX5_raise_15 : decode cX5_raise 15 = .ok (.iaload, 1) := by decide +kernel
theorem dX5_raise_16 : decode cX5_raise 16 = .ok (.iastore, 1) := by decide +kernel
theorem dX5_raise_17 : decode cX5_raise 17 = .ok (.iload 4, 2) := by decide +kernel
theorem dX5_raise_19 : decode cX5_raise 19 = .ok (.iload_n 0, 1) := by decide +kernel
theorem dX5_raise_20 : decode cX5_raise 20 = .ok (.if_icmp .ne 14, 3) := by decide +kernel
theorem dX5_raise_23 : decode cX5_raise 23 = .ok (.aload_n 3, 1) := by decide +kernel
theorem dX5_raise_24 : decode cX5_raise 24 = .ok (.iload 4, 2) := by decide +kernel
theorem dX5_raise_26 : decode cX5_raise 26 = .ok (.dup2, 1) := by decide +kernel
theorem dX5_raise_27 : decode cX5_raise 27 = .ok (.iaload, 1) := by decide +kernel
theorem dX5_raise_28 : decode cX5_raise 28 = .ok (.iconst 1, 1) := by decide +kernel
theorem dX5_raise_29 : decode cX5_raise 29 = .ok (.isub, 1) := by decide +kernel
theorem dX5_raise_30 : decode cX5_raise 30 = .ok (.iastore, 1) := by decide +kernel
theorem dX5_raise_31 : decode cX5_raise 31 = .ok (.goto 30, 3) := by decide +kernel
theorem dX5_raise_34 : decode cX5_raise 34 = .ok (.iload_n 1, 1) := by decide +kernel
theorem dX5_raise_35 : decode cX5_raise 35 = .ok (.iload 4, 2) := by decide +kernel
theorem dX5_raise_37 : decode cX5_raise 37 = .ok (.ishr, 1) := by decide +kernel
theorem dX5_raise_38 : decode cX5_raise 38 = .ok (.iconst 1, 1) := by decide +kernel
theorem dX5_raise_39 : decode cX5_raise 39 = .ok (.iand, 1) := by decide +kernel
theorem dX5_raise_40 : decode cX5_raise 40 = .ok (.iconst 1, 1) := by decide +kernel
theorem dX5_raise_41 : decode cX5_raise 41 = .ok (.if_icmp .ne 20, 3) := by decide +kernel
theorem dX5_raise_44 : decode cX5_raise 44 = .ok (.aload_n 2, 1) := by decide +kernel
theorem dX5_raise_45 : decode cX5_raise 45 = .ok (.iload 4, 2) := by decide +kernel
theorem dX5_raise_47 : decode cX5_raise 47 = .ok (.iaload, 1) := by decide +kernel
theorem dX5_raise_48 : decode cX5_raise 48 = .ok (.bipush 9, 2) := by decide +kernel
theorem dX5_raise_50 : decode cX5_raise 50 = .ok (.if_icmp .ge 11, 3) := by decide +kernel
theorem dX5_raise_53 : decode cX5_raise 53 = .ok (.aload_n 3, 1) := by decide +kernel
theorem dX5_raise_54 : decode cX5_raise 54 = .ok (.iload 4, 2) := by decide +kernel
theorem dX5_raise_56 : decode cX5_raise 56 = .ok (.dup2, 1) := by decide +kernel
theorem dX5_raise_57 : decode cX5_raise 57 = .ok (.iaload, 1) := by decide +kernel
theorem dX5_raise_58 : decode cX5_raise 58 = .ok (.iconst 1, 1) := by decide +kernel
theorem dX5_raise_59 : decode cX5_raise 59 = .ok (.iadd, 1) := by decide +kernel
theorem dX5_raise_60 : decode cX5_raise 60 = .ok (.iastore, 1) := by decide +kernel
theorem dX5_raise_61 : decode cX5_raise 61 = .ok (.iinc 4 1, 3) := by decide +kernel
theorem dX5_raise_64 : decode cX5_raise 64 = .ok (.goto (-61), 3) := by decide +kernel
theorem dX5_raise_67 : decode cX5_raise 67 = .ok (.return_, 1) := by decide +kernel
set_option maxRecDepth 20000 in
theorem ggX5_fallInAnHour_X5_isHeld : GoodIn wsX5_fallInAnHour wsX5_isHeld := goodIn_r _ [7, 8, 9, 10, 6, 11, 12, 13, 14, 15, 20, 21, 22, 23, 24, 25, 26, 27, 28, 29, 30, 31, 32, 33, 38, 39, 40, 41, 42, 43] (by decide +kernel) (by decide +kernel)
set_option maxRecDepth 20000 in
theorem gX5_fallInAnHour_X5_isHeld : GoodIn wsX5_fallInAnHour (wsV RX5 208 RX5 yX5_isHeld wsX5_isHeld) := goodIn_app (goodIn_of _ (by decide +kernel)) ggX5_fallInAnHour_X5_isHeld
set_option maxRecDepth 20000 in
theorem ggX5_fallInAnHour_X5_looseThreadsFrom : GoodIn wsX5_fallInAnHour wsX5_looseThreadsFrom := goodIn_r _ [19, 8, 9, 10, 6, 11, 12, 13, 14, 15, 20, 21, 22, 23, 24, 25, 26, 27, 28, 29, 30, 31, 32, 33, 38, 39, 40, 41, 42, 43] (by decide +kernel) (by decide +kernel)
set_option maxRecDepth 20000 in
theorem gX5_fallInAnHour_X5_looseThreadsFrom : GoodIn wsX5_fallInAnHour (wsV RX5 211 RX5 yX5_looseThreadsFrom wsX5_looseThreadsFrom) := goodIn_app (goodIn_of _ (by decide +kernel)) ggX5_fallInAnHour_X5_looseThreadsFrom
theorem dX5_fallInAnHour_0 : decode cX5_fallInAnHour 0 = .ok (.aload_n 0, 1) := by decide +kernel
theorem dX5_fallInAnHour_1 : decode cX5_fallInAnHour 1 = .ok (.iload_n 1, 1) := by decide +kernel
theorem dX5_fallInAnHour_2 : decode cX5_fallInAnHour 2 = .ok (.invokevirtual 208, 3) := by decide +kernel
theorem dX5_fallInAnHour_5 : decode cX5_fallInAnHour 5 = .ok (.ifCond .ne 11, 3) := by decide +kernel
theorem dX5_fallInAnHour_8 : decode cX5_fallInAnHour 8 = .ok (.aload_n 0, 1) := by decide +kernel
theorem dX5_fallInAnHour_9 : decode cX5_fallInAnHour 9 = .ok (.iload_n 1, 1) := by decide +kernel
theorem dX5_fallInAnHour_10 : decode cX5_fallInAnHour 10 = .ok (.invokevirtual 211, 3) := by decide +kernel
theorem dX5_fallInAnHour_13 : decode cX5_fallInAnHour 13 = .ok (.ifCond .le 5, 3) := by decide +kernel
theorem dX5_fallInAnHour_16 : decode cX5_fallInAnHour 16 = .ok (.iconst 0, 1) := by decide +kernel
theorem dX5_fallInAnHour_17 : decode cX5_fallInAnHour 17 = .ok (.ireturn, 1) := by decide +kernel
theorem dX5_fallInAnHour_18 : decode cX5_fallInAnHour 18 = .ok (.aload_n 0, 1) := by decide +kernel
theorem dX5_fallInAnHour_19 : decode cX5_fallInAnHour 19 = .ok (.getfield 25, 3) := by decide +kernel
theorem dX5_fallInAnHour_22 : decode cX5_fallInAnHour 22 = .ok (.iload_n 1, 1) := by decide +kernel
theorem dX5_fallInAnHour_23 : decode cX5_fallInAnHour 23 = .ok (.aaload, 1) := by decide +kernel
theorem dX5_fallInAnHour_24 : decode cX5_fallInAnHour 24 = .ok (.getfield 123, 3) := by decide +kernel
theorem dX5_fallInAnHour_27 : decode cX5_fallInAnHour 27 = .ok (.iconst 2, 1) := by decide +kernel
theorem dX5_fallInAnHour_28 : decode cX5_fallInAnHour 28 = .ok (.if_icmp .lt 7, 3) := by decide +kernel
theorem dX5_fallInAnHour_31 : decode cX5_fallInAnHour 31 = .ok (.iconst 2, 1) := by decide +kernel
theorem dX5_fallInAnHour_32 : decode cX5_fallInAnHour 32 = .ok (.goto 4, 3) := by decide +kernel
theorem dX5_fallInAnHour_35 : decode cX5_fallInAnHour 35 = .ok (.iconst 1, 1) := by decide +kernel
theorem dX5_fallInAnHour_36 : decode cX5_fallInAnHour 36 = .ok (.ireturn, 1) := by decide +kernel
set_option maxRecDepth 20000 in
theorem ggX5_hoursUntilFlat_X5_fallInAnHour : GoodIn wsX5_hoursUntilFlat wsX5_fallInAnHour := goodIn_r _ [6, 7, 8, 9, 10, 11, 5, 12, 13, 14, 15, 16, 17, 18, 19, 20, 21, 22, 23, 24, 25, 26, 27, 28, 29, 30, 31, 32, 33, 34, 35, 36, 37, 38, 39, 40, 41, 42, 43, 44, 45, 46, 47, 48] (by decide +kernel) (by decide +kernel)
set_option maxRecDepth 20000 in
theorem gX5_hoursUntilFlat_X5_fallInAnHour : GoodIn wsX5_hoursUntilFlat (wsV RX5 245 RX5 yX5_fallInAnHour wsX5_fallInAnHour) := goodIn_app (goodIn_of _ (by decide +kernel)) ggX5_hoursUntilFlat_X5_fallInAnHour
theorem dX5_hoursUntilFlat_0 : decode cX5_hoursUntilFlat 0 = .ok (.aload_n 0, 1) := by decide +kernel
theorem dX5_hoursUntilFlat_1 : decode cX5_hoursUntilFlat 1 = .ok (.iload_n 1, 1) := by decide +kernel
theorem dX5_hoursUntilFlat_2 : decode cX5_hoursUntilFlat 2 = .ok (.invokevirtual 245, 3) := by decide +kernel
theorem dX5_hoursUntilFlat_5 : decode cX5_hoursUntilFlat 5 = .ok (.istore_n 2, 1) := by decide +kernel
theorem dX5_hoursUntilFlat_6 : decode cX5_hoursUntilFlat 6 = .ok (.aload_n 0, 1) := by decide +kernel
theorem dX5_hoursUntilFlat_7 : decode cX5_hoursUntilFlat 7 = .ok (.getfield 42, 3) := by decide +kernel
theorem dX5_hoursUntilFlat_10 : decode cX5_hoursUntilFlat 10 = .ok (.iload_n 1, 1) := by decide +kernel
theorem dX5_hoursUntilFlat_11 : decode cX5_hoursUntilFlat 11 = .ok (.iaload, 1) := by decide +kernel
theorem dX5_hoursUntilFlat_12 : decode cX5_hoursUntilFlat 12 = .ok (.istore_n 3, 1) := by decide +kernel
theorem dX5_hoursUntilFlat_13 : decode cX5_hoursUntilFlat 13 = .ok (.iconst 0, 1) := by decide +kernel
theorem dX5_hoursUntilFlat_14 : decode cX5_hoursUntilFlat 14 = .ok (.istore 4, 2) := by decide +kernel
theorem dX5_hoursUntilFlat_16 : decode cX5_hoursUntilFlat 16 = .ok (.iload 4, 2) := by decide +kernel
theorem dX5_hoursUntilFlat_18 : decode cX5_hoursUntilFlat 18 = .ok (.bipush 50, 2) := by decide +kernel
theorem dX5_hoursUntilFlat_20 : decode cX5_hoursUntilFlat 20 = .ok (.if_icmp .gt 22, 3) := by decide +kernel
theorem dX5_hoursUntilFlat_23 : decode cX5_hoursUntilFlat 23 = .ok (.iload_n 3, 1) := by decide +kernel
theorem dX5_hoursUntilFlat_24 : decode cX5_hoursUntilFlat 24 = .ok (.bipush 9, 2) := by decide +kernel
theorem dX5_hoursUntilFlat_26 : decode cX5_hoursUntilFlat 26 = .ok (.if_icmp .lt 6, 3) := by decide +kernel
theorem dX5_hoursUntilFlat_29 : decode cX5_hoursUntilFlat 29 = .ok (.iload 4, 2) := by decide +kernel
theorem dX5_hoursUntilFlat_31 : decode cX5_hoursUntilFlat 31 = .ok (.ireturn, 1) := by decide +kernel
theorem dX5_hoursUntilFlat_32 : decode cX5_hoursUntilFlat 32 = .ok (.iload_n 3, 1) := by decide +kernel
theorem dX5_hoursUntilFlat_33 : decode cX5_hoursUntilFlat 33 = .ok (.iload_n 2, 1) := by decide +kernel
theorem dX5_hoursUntilFlat_34 : decode cX5_hoursUntilFlat 34 = .ok (.iadd, 1) := by decide +kernel
theorem dX5_hoursUntilFlat_35 : decode cX5_hoursUntilFlat 35 = .ok (.istore_n 3, 1) := by decide +kernel
theorem dX5_hoursUntilFlat_36 : decode cX5_hoursUntilFlat 36 = .ok (.iinc 4 1, 3) := by decide +kernel
theorem dX5_hoursUntilFlat_39 : decode cX5_hoursUntilFlat 39 = .ok (.goto (-23), 3) := by decide +kernel
theorem dX5_hoursUntilFlat_42 : decode cX5_hoursUntilFlat 42 = .ok (.iconst (-1), 1) := by decide +kernel
theorem dX5_hoursUntilFlat_43 : decode cX5_hoursUntilFlat 43 = .ok (.ireturn, 1) := by decide +kernel
set_option maxRecDepth 20000 in
theorem ggX5_explore_X5_firstFreeThreadOf : GoodIn wsX5_explore wsX5_firstFreeThreadOf := goodIn_r _ [12, 13, 14, 15, 16, 17, 18, 19, 11, 20, 21, 22, 23, 24, 25, 26, 27, 28, 29, 30, 31, 32, 33, 34, 35, 36, 37, 38, 39, 40, 41, 42, 43, 44, 119, 120, 121, 122, 123, 124, 125, 126, 127, 128, 129, 130, 131, 132, 139, 140, 141, 142, 143, 144] (by decide +kernel) (by decide +kernel)
set_option maxRecDepth 20000 in
theorem gX5_explore_X5_firstFreeThreadOf : GoodIn wsX5_explore (wsV RX5 314 RX5 yX5_firstFreeThreadOf wsX5_firstFreeThreadOf) := goodIn_app (goodIn_of _ (by decide +kernel)) ggX5_explore_X5_firstFreeThreadOf
set_option maxRecDepth 20000 in
theorem ggX5_explore_X5_loweredBy : GoodIn wsX5_explore wsX5_loweredBy := goodIn_r _ [48, 13, 14, 15, 16, 49, 17, 18, 19, 11, 20, 21, 22, 23, 24, 119, 120, 121, 122, 123, 124, 125, 126, 127, 128, 129, 130, 131, 132, 139, 140, 141, 142, 143, 144] (by decide +kernel) (by decide +kernel)
set_option maxRecDepth 20000 in
theorem gX5_explore_X5_loweredBy : GoodIn wsX5_explore (wsV RX5 182 RX5 yX5_loweredBy wsX5_loweredBy) := goodIn_app (goodIn_of _ (by decide +kernel)) ggX5_explore_X5_loweredBy
set_option maxRecDepth 20000 in
theorem ggX5_explore_X4_encode : GoodIn wsX5_explore wsX4_encode := goodIn_r _ [53] (by decide +kernel) (by decide +kernel)
set_option maxRecDepth 20000 in
theorem gX5_explore_X4_encode : GoodIn wsX5_explore (va_wsS RX5 320 yX4_encode wsX4_encode) := goodIn_app (goodIn_of _ (by decide +kernel)) ggX5_explore_X4_encode
set_option maxRecDepth 20000 in
theorem ggX5_explore_X4_begin : GoodIn wsX5_explore wsX4_begin := goodIn_r _ [57, 58, 59, 60, 61, 62, 63, 64, 65, 66, 67, 52, 68, 133, 134, 135, 136, 137, 138] (by decide +kernel) (by decide +kernel)
set_option maxRecDepth 20000 in
theorem gX5_explore_X4_begin : GoodIn wsX5_explore (wsV RX5 323 RX4 yX4_begin wsX4_begin) := goodIn_app (goodIn_of _ (by decide +kernel)) ggX5_explore_X4_begin
set_option maxRecDepth 20000 in
theorem ggX5_explore_X5_exploreFrom : GoodIn wsX5_explore wsX5_exploreFrom := goodIn_r _ [72, 73, 1, 2, 3, 4, 74, 75, 76, 77, 52, 78, 79, 80, 11, 81, 82, 83, 84, 85, 86, 87, 88, 89, 90, 91, 92, 93, 94, 95, 96, 97, 98, 38, 39, 40, 99, 100, 101, 102, 103, 104, 105, 106, 107, 108, 109, 110, 111, 112, 113, 50, 51, 53, 114, 115, 116, 117, 58, 59, 60, 61, 118, 43, 44, 66, 67, 68, 119, 120, 121, 122, 123, 124, 125, 126, 127, 128, 129, 130, 131, 132, 133, 134, 135, 136, 137, 138, 145, 146, 147, 148, 149, 150, 151, 152, 153, 154, 155] (by decide +kernel) (by decide +kernel)
set_option maxRecDepth 20000 in
theorem gX5_explore_X5_exploreFrom : GoodIn wsX5_explore (wsV RX5 327 RX5 yX5_exploreFrom wsX5_exploreFrom) := goodIn_app (goodIn_of _ (by decide +kernel)) ggX5_explore_X5_exploreFrom
theorem dX5_explore_0 : decode cX5_explore 0 = .ok (.iconst 0, 1) := by decide +kernel
theorem dX5_explore_1 : decode cX5_explore 1 = .ok (.istore_n 1, 1) := by decide +kernel
theorem dX5_explore_2 : decode cX5_explore 2 = .ok (.iload_n 1, 1) := by decide +kernel
theorem dX5_explore_3 : decode cX5_explore 3 = .ok (.aload_n 0, 1) := by decide +kernel
theorem dX5_explore_4 : decode cX5_explore 4 = .ok (.getfield 89, 3) := by decide +kernel
theorem dX5_explore_7 : decode cX5_explore 7 = .ok (.if_icmp .ge 37, 3) := by decide +kernel
theorem dX5_explore_10 : decode cX5_explore 10 = .ok (.aload_n 0, 1) := by decide +kernel
theorem dX5_explore_11 : decode cX5_explore 11 = .ok (.getfield 38, 3) := by decide +kernel
theorem dX5_explore_14 : decode cX5_explore 14 = .ok (.getfield 311, 3) := by decide +kernel
theorem dX5_explore_17 : decode cX5_explore 17 = .ok (.iload_n 1, 1) := by decide +kernel
theorem dX5_explore_18 : decode cX5_explore 18 = .ok (.aload_n 0, 1) := by decide +kernel
theorem dX5_explore_19 : decode cX5_explore 19 = .ok (.iload_n 1, 1) := by decide +kernel
theorem dX5_explore_20 : decode cX5_explore 20 = .ok (.invokevirtual 314, 3) := by decide +kernel
theorem dX5_explore_23 : decode cX5_explore 23 = .ok (.iastore, 1) := by decide +kernel
theorem dX5_explore_24 : decode cX5_explore 24 = .ok (.aload_n 0, 1) := by decide +kernel
theorem dX5_explore_25 : decode cX5_explore 25 = .ok (.getfield 38, 3) := by decide +kernel
theorem dX5_explore_28 : decode cX5_explore 28 = .ok (.getfield 317, 3) := by decide +kernel
theorem dX5_explore_31 : decode cX5_explore 31 = .ok (.iload_n 1, 1) := by decide +kernel
theorem dX5_explore_32 : decode cX5_explore 32 = .ok (.aload_n 0, 1) := by decide +kernel
theorem dX5_explore_33 : decode cX5_explore 33 = .ok (.iload_n 1, 1) := by decide +kernel
theorem dX5_explore_34 : decode cX5_explore 34 = .ok (.invokevirtual 182, 3) := by decide +kernel
theorem dX5_explore_37 : decode cX5_explore 37 = .ok (.iastore, 1) := by decide +kernel
theorem dX5_explore_38 : decode cX5_explore 38 = .ok (.iinc 1 1, 3) := by decide +kernel
theorem dX5_explore_41 : decode cX5_explore 41 = .ok (.goto (-39), 3) := by decide +kernel
theorem dX5_explore_44 : decode cX5_explore 44 = .ok (.aload_n 0, 1) := by decide +kernel
theorem dX5_explore_45 : decode cX5_explore 45 = .ok (.getfield 38, 3) := by decide +kernel
theorem dX5_explore_48 : decode cX5_explore 48 = .ok (.aload_n 0, 1) := by decide +kernel
theorem dX5_explore_49 : decode cX5_explore 49 = .ok (.getfield 42, 3) := by decide +kernel
theorem dX5_explore_52 : decode cX5_explore 52 = .ok (.invokestatic 320, 3) := by decide +kernel
theorem dX5_explore_55 : decode cX5_explore 55 = .ok (.invokevirtual 323, 3) := by decide +kernel
theorem dX5_explore_58 : decode cX5_explore 58 = .ok (.iconst 0, 1) := by decide +kernel
theorem dX5_explore_59 : decode cX5_explore 59 = .ok (.istore_n 1, 1) := by decide +kernel
theorem dX5_explore_60 : decode cX5_explore 60 = .ok (.iload_n 1, 1) := by decide +kernel
theorem dX5_explore_61 : decode cX5_explore 61 = .ok (.aload_n 0, 1) := by decide +kernel
theorem dX5_explore_62 : decode cX5_explore 62 = .ok (.getfield 38, 3) := by decide +kernel
theorem dX5_explore_65 : decode cX5_explore 65 = .ok (.getfield 263, 3) := by decide +kernel
theorem dX5_explore_68 : decode cX5_explore 68 = .ok (.if_icmp .ge 29, 3) := by decide +kernel
theorem dX5_explore_71 : decode cX5_explore 71 = .ok (.iload_n 1, 1) := by decide +kernel
theorem dX5_explore_72 : decode cX5_explore 72 = .ok (.sipush 1000, 3) := by decide +kernel
theorem dX5_explore_75 : decode cX5_explore 75 = .ok (.if_icmp .ge 22, 3) := by decide +kernel
theorem dX5_explore_78 : decode cX5_explore 78 = .ok (.aload_n 0, 1) := by decide +kernel
theorem dX5_explore_79 : decode cX5_explore 79 = .ok (.aload_n 0, 1) := by decide +kernel
theorem dX5_explore_80 : decode cX5_explore 80 = .ok (.getfield 38, 3) := by decide +kernel
theorem dX5_explore_83 : decode cX5_explore 83 = .ok (.getfield 266, 3) := by decide +kernel
theorem dX5_explore_86 : decode cX5_explore 86 = .ok (.iload_n 1, 1) := by decide +kernel
theorem dX5_explore_87 : decode cX5_explore 87 = .ok (.iaload, 1) := by decide +kernel
theorem dX5_explore_88 : decode cX5_explore 88 = .ok (.invokevirtual 327, 3) := by decide +kernel
theorem dX5_explore_91 : decode cX5_explore 91 = .ok (.iinc 1 1, 3) := by decide +kernel
theorem dX5_explore_94 : decode cX5_explore 94 = .ok (.goto (-34), 3) := by decide +kernel
theorem dX5_explore_97 : decode cX5_explore 97 = .ok (.return_, 1) := by decide +kernel
set_option maxRecDepth 20000 in
theorem ggX5_exploreFrom_X4_decode : GoodIn wsX5_exploreFrom wsX4_decode := goodIn_r _ [11] (by decide +kernel) (by decide +kernel)
set_option maxRecDepth 20000 in
theorem gX5_exploreFrom_X4_decode : GoodIn wsX5_exploreFrom (va_wsS RX5 269 yX4_decode wsX4_decode) := goodIn_app (goodIn_of _ (by decide +kernel)) ggX5_exploreFrom_X4_decode
set_option maxRecDepth 20000 in
theorem ggX5_exploreFrom_X5_raise : GoodIn wsX5_exploreFrom wsX5_raise := goodIn_r _ [15] (by decide +kernel) (by decide +kernel)
set_option maxRecDepth 20000 in
theorem gX5_exploreFrom_X5_raise : GoodIn wsX5_exploreFrom (va_wsS RX5 186 yX5_raise wsX5_raise) := goodIn_app (goodIn_of _ (by decide +kernel)) ggX5_exploreFrom_X5_raise
set_option maxRecDepth 20000 in
theorem ggX5_exploreFrom_X5_fitsWith : GoodIn wsX5_exploreFrom wsX5_fitsWith := goodIn_r _ [19, 20, 21, 22, 23, 24, 25, 26, 14, 27, 28, 29, 2, 30, 31, 32, 33, 34, 35, 36, 37, 38, 39, 40, 41, 42, 43, 44, 45, 46, 47, 48, 49, 50, 68, 69, 70, 71, 72, 73, 74, 75, 76, 77, 78, 79, 80, 81, 88, 89, 90, 91, 92, 93, 94, 95, 96, 97, 98] (by decide +kernel) (by decide +kernel)
set_option maxRecDepth 20000 in
theorem gX5_exploreFrom_X5_fitsWith : GoodIn wsX5_exploreFrom (wsV RX5 155 RX5 yX5_fitsWith wsX5_fitsWith) := goodIn_app (goodIn_of _ (by decide +kernel)) ggX5_exploreFrom_X5_fitsWith
set_option maxRecDepth 20000 in
theorem ggX5_exploreFrom_X4_encode : GoodIn wsX5_exploreFrom wsX4_encode := goodIn_r _ [53] (by decide +kernel) (by decide +kernel)
set_option maxRecDepth 20000 in
theorem gX5_exploreFrom_X4_encode : GoodIn wsX5_exploreFrom (va_wsS RX5 320 yX4_encode wsX4_encode) := goodIn_app (goodIn_of _ (by decide +kernel)) ggX5_exploreFrom_X4_encode
set_option maxRecDepth 20000 in
theorem ggX5_exploreFrom_X4_reach : GoodIn wsX5_exploreFrom wsX4_reach := goodIn_r _ [57, 58, 59, 60, 61, 62, 63, 34, 64, 65, 66, 10, 67, 82, 83, 84, 85, 86, 87] (by decide +kernel) (by decide +kernel)
set_option maxRecDepth 20000 in
theorem gX5_exploreFrom_X4_reach : GoodIn wsX5_exploreFrom (wsV RX5 330 RX4 yX4_reach wsX4_reach) := goodIn_app (goodIn_of _ (by decide +kernel)) ggX5_exploreFrom_X4_reach
theorem dX5_exploreFrom_0 : decode cX5_exploreFrom 0 = .ok (.iload_n 1, 1) := by decide +kernel
theorem dX5_exploreFrom_1 : decode cX5_exploreFrom 1 = .ok (.aload_n 0, 1) := by decide +kernel
theorem dX5_exploreFrom_2 : decode cX5_exploreFrom 2 = .ok (.getfield 46, 3) := by decide +kernel
theorem dX5_exploreFrom_5 : decode cX5_exploreFrom 5 = .ok (.invokestatic 269, 3) := by decide +kernel
theorem dX5_exploreFrom_8 : decode cX5_exploreFrom 8 = .ok (.iconst 0, 1) := by decide +kernel
theorem dX5_exploreFrom_9 : decode cX5_exploreFrom 9 = .ok (.istore_n 2, 1) := by decide +kernel
theorem dX5_exploreFrom_10 : decode cX5_exploreFrom 10 = .ok (.iload_n 2, 1) := by decide +kernel
theorem dX5_exploreFrom_11 : decode cX5_exploreFrom 11 = .ok (.aload_n 0, 1) := by decide +kernel
theorem dX5_exploreFrom_12 : decode cX5_exploreFrom 12 = .ok (.getfield 89, 3) := by decide +kernel
theorem dX5_exploreFrom_15 : decode cX5_exploreFrom 15 = .ok (.if_icmp .ge 97, 3) := by decide +kernel
theorem dX5_exploreFrom_18 : decode cX5_exploreFrom 18 = .ok (.aload_n 0, 1) := by decide +kernel
theorem dX5_exploreFrom_19 : decode cX5_exploreFrom 19 = .ok (.getfield 38, 3) := by decide +kernel
theorem dX5_exploreFrom_22 : decode cX5_exploreFrom 22 = .ok (.getfield 311, 3) := by decide +kernel
theorem dX5_exploreFrom_25 : decode cX5_exploreFrom 25 = .ok (.iload_n 2, 1) := by decide +kernel
theorem dX5_exploreFrom_26 : decode cX5_exploreFrom 26 = .ok (.iaload, 1) := by decide +kernel
theorem dX5_exploreFrom_27 : decode cX5_exploreFrom 27 = .ok (.iconst (-1), 1) := by decide +kernel
theorem dX5_exploreFrom_28 : decode cX5_exploreFrom 28 = .ok (.if_icmp .eq 78, 3) := by decide +kernel
theorem dX5_exploreFrom_31 : decode cX5_exploreFrom 31 = .ok (.aload_n 0, 1) := by decide +kernel
theorem dX5_exploreFrom_32 : decode cX5_exploreFrom 32 = .ok (.getfield 46, 3) := by decide +kernel
theorem dX5_exploreFrom_35 : decode cX5_exploreFrom 35 = .ok (.iload_n 2, 1) := by decide +kernel
theorem dX5_exploreFrom_36 : decode cX5_exploreFrom 36 = .ok (.iaload, 1) := by decide +kernel
theorem dX5_exploreFrom_37 : decode cX5_exploreFrom 37 = .ok (.ifCond .ne 6, 3) := by decide +kernel
theorem dX5_exploreFrom_40 : decode cX5_exploreFrom 40 = .ok (.goto 66, 3) := by decide +kernel
theorem dX5_exploreFrom_43 : decode cX5_exploreFrom 43 = .ok (.iload_n 2, 1) := by decide +kernel
theorem dX5_exploreFrom_44 : decode cX5_exploreFrom 44 = .ok (.aload_n 0, 1) := by decide +kernel
theorem dX5_exploreFrom_45 : decode cX5_exploreFrom 45 = .ok (.getfield 38, 3) := by decide +kernel
theorem dX5_exploreFrom_48 : decode cX5_exploreFrom 48 = .ok (.getfield 317, 3) := by decide +kernel
theorem dX5_exploreFrom_51 : decode cX5_exploreFrom 51 = .ok (.iload_n 2, 1) := by decide +kernel
theorem dX5_exploreFrom_52 : decode cX5_exploreFrom 52 = .ok (.iaload, 1) := by decide +kernel
theorem dX5_exploreFrom_53 : decode cX5_exploreFrom 53 = .ok (.aload_n 0, 1) := by decide +kernel
theorem dX5_exploreFrom_54 : decode cX5_exploreFrom 54 = .ok (.getfield 46, 3) := by decide +kernel
theorem dX5_exploreFrom_57 : decode cX5_exploreFrom 57 = .ok (.aload_n 0, 1) := by decide +kernel
theorem dX5_exploreFrom_58 : decode cX5_exploreFrom 58 = .ok (.getfield 49, 3) := by decide +kernel
theorem dX5_exploreFrom_61 : decode cX5_exploreFrom 61 = .ok (.invokestatic 186, 3) := by decide +kernel
theorem dX5_exploreFrom_64 : decode cX5_exploreFrom 64 = .ok (.aload_n 0, 1) := by decide +kernel
theorem dX5_exploreFrom_65 : decode cX5_exploreFrom 65 = .ok (.getfield 65, 3) := by decide +kernel
theorem dX5_exploreFrom_68 : decode cX5_exploreFrom 68 = .ok (.ifCond .eq 14, 3) := by decide +kernel
theorem dX5_exploreFrom_71 : decode cX5_exploreFrom 71 = .ok (.aload_n 0, 1) := by decide +kernel
theorem dX5_exploreFrom_72 : decode cX5_exploreFrom 72 = .ok (.aload_n 0, 1) := by decide +kernel
theorem dX5_exploreFrom_73 : decode cX5_exploreFrom 73 = .ok (.getfield 49, 3) := by decide +kernel
theorem dX5_exploreFrom_76 : decode cX5_exploreFrom 76 = .ok (.invokevirtual 155, 3) := by decide +kernel
theorem dX5_exploreFrom_79 : decode cX5_exploreFrom 79 = .ok (.ifCond .eq 27, 3) := by decide +kernel
theorem dX5_exploreFrom_82 : decode cX5_exploreFrom 82 = .ok (.aload_n 0, 1) := by decide +kernel
theorem dX5_exploreFrom_83 : decode cX5_exploreFrom 83 = .ok (.getfield 38, 3) := by decide +kernel
theorem dX5_exploreFrom_86 : decode cX5_exploreFrom 86 = .ok (.iload_n 1, 1) := by decide +kernel
theorem dX5_exploreFrom_87 : decode cX5_exploreFrom 87 = .ok (.aload_n 0, 1) := by decide +kernel
theorem dX5_exploreFrom_88 : decode cX5_exploreFrom 88 = .ok (.getfield 49, 3) := by decide +kernel
theorem dX5_exploreFrom_91 : decode cX5_exploreFrom 91 = .ok (.invokestatic 320, 3) := by decide +kernel
theorem dX5_exploreFrom_94 : decode cX5_exploreFrom 94 = .ok (.aload_n 0, 1) := by decide +kernel
theorem dX5_exploreFrom_95 : decode cX5_exploreFrom 95 = .ok (.getfield 38, 3) := by decide +kernel
theorem dX5_exploreFrom_98 : decode cX5_exploreFrom 98 = .ok (.getfield 311, 3) := by decide +kernel
theorem dX5_exploreFrom_101 : decode cX5_exploreFrom 101 = .ok (.iload_n 2, 1) := by decide +kernel
theorem dX5_exploreFrom_102 : decode cX5_exploreFrom 102 = .ok (.iaload, 1) := by decide +kernel
theorem dX5_exploreFrom_103 : decode cX5_exploreFrom 103 = .ok (.invokevirtual 330, 3) := by decide +kernel
theorem dX5_exploreFrom_106 : decode cX5_exploreFrom 106 = .ok (.iinc 2 1, 3) := by decide +kernel
theorem dX5_exploreFrom_109 : decode cX5_exploreFrom 109 = .ok (.goto (-99), 3) := by decide +kernel
theorem dX5_exploreFrom_112 : decode cX5_exploreFrom 112 = .ok (.return_, 1) := by decide +kernel
set_option maxRecDepth 20000 in
theorem ggX5_firstFreeThreadOf_X5_isHeld : GoodIn wsX5_firstFreeThreadOf wsX5_isHeld := goodIn_r _ [9, 10, 11, 12, 8, 13, 1, 2, 3, 4, 34, 35, 36, 37, 38, 39, 40, 41, 42, 43, 44, 45, 46, 47, 48, 49, 50, 51, 52, 53] (by decide +kernel) (by decide +kernel)
set_option maxRecDepth 20000 in
theorem gX5_firstFreeThreadOf_X5_isHeld : GoodIn wsX5_firstFreeThreadOf (wsV RX5 208 RX5 yX5_isHeld wsX5_isHeld) := goodIn_app (goodIn_of _ (by decide +kernel)) ggX5_firstFreeThreadOf_X5_isHeld
set_option maxRecDepth 20000 in
theorem ggX5_firstFreeThreadOf_X5_isCrossedByStronger : GoodIn wsX5_firstFreeThreadOf wsX5_isCrossedByStronger := goodIn_r _ [17, 1, 2, 4, 18, 19, 20, 21, 22, 23, 24, 25, 26, 27, 28, 29, 30, 31, 32, 33, 34, 35, 36, 37, 38, 39, 40, 41, 42, 43, 44, 45, 46, 47, 48, 49, 50, 51, 52, 53] (by decide +kernel) (by decide +kernel)
set_option maxRecDepth 20000 in
theorem gX5_firstFreeThreadOf_X5_isCrossedByStronger : GoodIn wsX5_firstFreeThreadOf (wsV RX5 308 RX5 yX5_isCrossedByStronger wsX5_isCrossedByStronger) := goodIn_app (goodIn_of _ (by decide +kernel)) ggX5_firstFreeThreadOf_X5_isCrossedByStronger
theorem dX5_firstFreeThreadOf_0 : decode cX5_firstFreeThreadOf 0 = .ok (.aload_n 0, 1) := by decide +kernel
theorem dX5_firstFreeThreadOf_1 : decode cX5_firstFreeThreadOf 1 = .ok (.iload_n 1, 1) := by decide +kernel
theorem dX5_firstFreeThreadOf_2 : decode cX5_firstFreeThreadOf 2 = .ok (.invokevirtual 208, 3) := by decide +kernel
theorem dX5_firstFreeThreadOf_5 : decode cX5_firstFreeThreadOf 5 = .ok (.ifCond .eq 5, 3) := by decide +kernel
theorem dX5_firstFreeThreadOf_8 : decode cX5_firstFreeThreadOf 8 = .ok (.iconst (-1), 1) := by decide +kernel
theorem dX5_firstFreeThreadOf_9 : decode cX5_firstFreeThreadOf 9 = .ok (.ireturn, 1) := by decide +kernel
theorem dX5_firstFreeThreadOf_10 : decode cX5_firstFreeThreadOf 10 = .ok (.iconst 0, 1) := by decide +kernel
theorem dX5_firstFreeThreadOf_11 : decode cX5_firstFreeThreadOf 11 = .ok (.istore_n 2, 1) := by decide +kernel
theorem dX5_firstFreeThreadOf_12 : decode cX5_firstFreeThreadOf 12 = .ok (.iload_n 2, 1) := by decide +kernel
theorem dX5_firstFreeThreadOf_13 : decode cX5_firstFreeThreadOf 13 = .ok (.aload_n 0, 1) := by decide +kernel
theorem dX5_firstFreeThreadOf_14 : decode cX5_firstFreeThreadOf 14 = .ok (.getfield 133, 3) := by decide +kernel
theorem dX5_firstFreeThreadOf_17 : decode cX5_firstFreeThreadOf 17 = .ok (.if_icmp .ge 49, 3) := by decide +kernel
theorem dX5_firstFreeThreadOf_20 : decode cX5_firstFreeThreadOf 20 = .ok (.aload_n 0, 1) := by decide +kernel
theorem dX5_firstFreeThreadOf_21 : decode cX5_firstFreeThreadOf 21 = .ok (.getfield 31, 3) := by decide +kernel
theorem dX5_firstFreeThreadOf_24 : decode cX5_firstFreeThreadOf 24 = .ok (.iload_n 2, 1) := by decide +kernel
theorem dX5_firstFreeThreadOf_25 : decode cX5_firstFreeThreadOf 25 = .ok (.aaload, 1) := by decide +kernel
theorem dX5_firstFreeThreadOf_26 : decode cX5_firstFreeThreadOf 26 = .ok (.getfield 138, 3) := by decide +kernel
theorem dX5_firstFreeThreadOf_29 : decode cX5_firstFreeThreadOf 29 = .ok (.iload_n 1, 1) := by decide +kernel
theorem dX5_firstFreeThreadOf_30 : decode cX5_firstFreeThreadOf 30 = .ok (.if_icmp .ne 30, 3) := by decide +kernel
theorem dX5_firstFreeThreadOf_33 : decode cX5_firstFreeThreadOf 33 = .ok (.aload_n 0, 1) := by decide +kernel
theorem dX5_firstFreeThreadOf_34 : decode cX5_firstFreeThreadOf 34 = .ok (.getfield 31, 3) := by decide +kernel
theorem dX5_firstFreeThreadOf_37 : decode cX5_firstFreeThreadOf 37 = .ok (.iload_n 2, 1) := by decide +kernel
theorem dX5_firstFreeThreadOf_38 : decode cX5_firstFreeThreadOf 38 = .ok (.aaload, 1) := by decide +kernel
theorem dX5_firstFreeThreadOf_39 : decode cX5_firstFreeThreadOf 39 = .ok (.getfield 164, 3) := by decide +kernel
theorem dX5_firstFreeThreadOf_42 : decode cX5_firstFreeThreadOf 42 = .ok (.ifCond .ne 18, 3) := by decide +kernel
theorem dX5_firstFreeThreadOf_45 : decode cX5_firstFreeThreadOf 45 = .ok (.aload_n 0, 1) := by decide +kernel
theorem dX5_firstFreeThreadOf_46 : decode cX5_firstFreeThreadOf 46 = .ok (.aload_n 0, 1) := by decide +kernel
theorem dX5_firstFreeThreadOf_47 : decode cX5_firstFreeThreadOf 47 = .ok (.getfield 31, 3) := by decide +kernel
theorem dX5_firstFreeThreadOf_50 : decode cX5_firstFreeThreadOf 50 = .ok (.iload_n 2, 1) := by decide +kernel
theorem dX5_firstFreeThreadOf_51 : decode cX5_firstFreeThreadOf 51 = .ok (.aaload, 1) := by decide +kernel
theorem dX5_firstFreeThreadOf_52 : decode cX5_firstFreeThreadOf 52 = .ok (.invokevirtual 308, 3) := by decide +kernel
theorem dX5_firstFreeThreadOf_55 : decode cX5_firstFreeThreadOf 55 = .ok (.ifCond .ne 5, 3) := by decide +kernel
theorem dX5_firstFreeThreadOf_58 : decode cX5_firstFreeThreadOf 58 = .ok (.iload_n 2, 1) := by decide +kernel
theorem dX5_firstFreeThreadOf_59 : decode cX5_firstFreeThreadOf 59 = .ok (.ireturn, 1) := by decide +kernel
theorem dX5_firstFreeThreadOf_60 : decode cX5_firstFreeThreadOf 60 = .ok (.iinc 2 1, 3) := by decide +kernel
theorem dX5_firstFreeThreadOf_63 : decode cX5_firstFreeThreadOf 63 = .ok (.goto (-51), 3) := by decide +kernel
theorem dX5_firstFreeThreadOf_66 : decode cX5_firstFreeThreadOf 66 = .ok (.iconst (-1), 1) := by decide +kernel
theorem dX5_firstFreeThreadOf_67 : decode cX5_firstFreeThreadOf 67 = .ok (.ireturn, 1) := by decide +kernel
theorem dX6_init_0 : decode cX6_init 0 = .ok (.aload_n 0, 1) := by decide +kernel
theorem dX6_init_1 : decode cX6_init 1 = .ok (.invokespecial 1, 3) := by decide +kernel
theorem dX6_init_4 : decode cX6_init 4 = .ok (.aload_n 0, 1) := by decide +kernel
theorem dX6_init_5 : decode cX6_init 5 = .ok (.bipush 8, 2) := by decide +kernel
theorem dX6_init_7 : decode cX6_init 7 = .ok (.putfield 7, 3) := by decide +kernel
theorem dX6_init_10 : decode cX6_init 10 = .ok (.aload_n 0, 1) := by decide +kernel
theorem dX6_init_11 : decode cX6_init 11 = .ok (.bipush 30, 2) := by decide +kernel
theorem dX6_init_13 : decode cX6_init 13 = .ok (.putfield 13, 3) := by decide +kernel
theorem dX6_init_16 : decode cX6_init 16 = .ok (.aload_n 0, 1) := by decide +kernel
theorem dX6_init_17 : decode cX6_init 17 = .ok (.bipush 60, 2) := by decide +kernel
theorem dX6_init_19 : decode cX6_init 19 = .ok (.putfield 16, 3) := by decide +kernel
theorem dX6_init_22 : decode cX6_init 22 = .ok (.aload_n 0, 1) := by decide +kernel
theorem dX6_init_23 : decode cX6_init 23 = .ok (.bipush 40, 2) := by decide +kernel
theorem dX6_init_25 : decode cX6_init 25 = .ok (.putfield 19, 3) := by decide +kernel
theorem dX6_init_28 : decode cX6_init 28 = .ok (.aload_n 0, 1) := by decide +kernel
theorem dX6_init_29 : decode cX6_init 29 = .ok (.iconst 4, 1) := by decide +kernel
theorem dX6_init_30 : decode cX6_init 30 = .ok (.putfield 22, 3) := by decide +kernel
theorem dX6_init_33 : decode cX6_init 33 = .ok (.aload_n 0, 1) := by decide +kernel
theorem dX6_init_34 : decode cX6_init 34 = .ok (.iconst 5, 1) := by decide +kernel
theorem dX6_init_35 : decode cX6_init 35 = .ok (.putfield 25, 3) := by decide +kernel
theorem dX6_init_38 : decode cX6_init 38 = .ok (.aload_n 0, 1) := by decide +kernel
theorem dX6_init_39 : decode cX6_init 39 = .ok (.iconst 3, 1) := by decide +kernel
theorem dX6_init_40 : decode cX6_init 40 = .ok (.newarray .int, 2) := by decide +kernel
theorem dX6_init_42 : decode cX6_init 42 = .ok (.putfield 28, 3) := by decide +kernel
theorem dX6_init_45 : decode cX6_init 45 = .ok (.aload_n 0, 1) := by decide +kernel
theorem dX6_init_46 : decode cX6_init 46 = .ok (.iconst 3, 1) := by decide +kernel
theorem dX6_init_47 : decode cX6_init 47 = .ok (.newarray .int, 2) := by decide +kernel
theorem dX6_init_49 : decode cX6_init 49 = .ok (.putfield 32, 3) := by decide +kernel
theorem dX6_init_52 : decode cX6_init 52 = .ok (.aload_n 0, 1) := by decide +kernel
theorem dX6_init_53 : decode cX6_init 53 = .ok (.iconst 3, 1) := by decide +kernel
theorem dX6_init_54 : decode cX6_init 54 = .ok (.newarray .int, 2) := by decide +kernel
theorem dX6_init_56 : decode cX6_init 56 = .ok (.putfield 35, 3) := by decide +kernel
theorem dX6_init_59 : decode cX6_init 59 = .ok (.aload_n 0, 1) := by decide +kernel
theorem dX6_init_60 : decode cX6_init 60 = .ok (.bipush 9, 2) := by decide +kernel
theorem dX6_init_62 : decode cX6_init 62 = .ok (.newarray .int, 2) := by decide +kernel
theorem dX6_init_64 : decode cX6_init 64 = .ok (.putfield 38, 3) := by decide +kernel
theorem dX6_init_67 : decode cX6_init 67 = .ok (.aload_n 0, 1) := by decide +kernel
theorem dX6_init_68 : decode cX6_init 68 = .ok (.bipush 8, 2) := by decide +kernel
theorem dX6_init_70 : decode cX6_init 70 = .ok (.newarray .int, 2) := by decide +kernel
theorem dX6_init_72 : decode cX6_init 72 = .ok (.putfield 41, 3) := by decide +kernel
theorem dX6_init_75 : decode cX6_init 75 = .ok (.aload_n 0, 1) := by decide +kernel
theorem dX6_init_76 : decode cX6_init 76 = .ok (.bipush 8, 2) := by decide +kernel
theorem dX6_init_78 : decode cX6_init 78 = .ok (.newarray .int, 2) := by decide +kernel
theorem dX6_init_80 : decode cX6_init 80 = .ok (.putfield 44, 3) := by decide +kernel
theorem dX6_init_83 : decode cX6_init 83 = .ok (.aload_n 0, 1) := by decide +kernel
theorem dX6_init_84 : decode cX6_init 84 = .ok (.bipush 8, 2) := by decide +kernel
theorem dX6_init_86 : decode cX6_init 86 = .ok (.newarray .int, 2) := by decide +kernel
theorem dX6_init_88 : decode cX6_init 88 = .ok (.putfield 47, 3) := by decide +kernel
theorem dX6_init_91 : decode cX6_init 91 = .ok (.aload_n 0, 1) := by decide +kernel
theorem dX6_init_92 : decode cX6_init 92 = .ok (.bipush 8, 2) := by decide +kernel
theorem dX6_init_94 : decode cX6_init 94 = .ok (.newarray .int, 2) := by decide +kernel
theorem dX6_init_96 : decode cX6_init 96 = .ok (.putfield 50, 3) := by decide +kernel
theorem dX6_init_99 : decode cX6_init 99 = .ok (.aload_n 0, 1) := by decide +kernel
theorem dX6_init_100 : decode cX6_init 100 = .ok (.sipush 1000, 3) := by decide +kernel
theorem dX6_init_103 : decode cX6_init 103 = .ok (.newarray .int, 2) := by decide +kernel
theorem dX6_init_105 : decode cX6_init 105 = .ok (.putfield 53, 3) := by decide +kernel
theorem dX6_init_108 : decode cX6_init 108 = .ok (.aload_n 0, 1) := by decide +kernel
theorem dX6_init_109 : decode cX6_init 109 = .ok (.sipush 1000, 3) := by decide +kernel
theorem dX6_init_112 : decode cX6_init 112 = .ok (.newarray .int, 2) := by decide +kernel
theorem dX6_init_114 : decode cX6_init 114 = .ok (.putfield 56, 3) := by decide +kernel
theorem dX6_init_117 : decode cX6_init 117 = .ok (.return_, 1) := by decide +kernel
theorem dX6_thrown_0 : decode cX6_thrown 0 = .ok (.aload_n 0, 1) := by decide +kernel
theorem dX6_thrown_1 : decode cX6_thrown 1 = .ok (.getfield 59, 3) := by decide +kernel
theorem dX6_thrown_4 : decode cX6_thrown 4 = .ok (.ireturn, 1) := by decide +kernel
theorem dX6_no_0 : decode cX6_no 0 = .ok (.aload_n 0, 1) := by decide +kernel
theorem dX6_no_1 : decode cX6_no 1 = .ok (.iload_n 1, 1) := by decide +kernel
theorem dX6_no_2 : decode cX6_no 2 = .ok (.putfield 59, 3) := by decide +kernel
theorem dX6_no_5 : decode cX6_no 5 = .ok (.iconst 0, 1) := by decide +kernel
theorem dX6_no_6 : decode cX6_no 6 = .ok (.ireturn, 1) := by decide +kernel
theorem dX6_isBetween_0 : decode cX6_isBetween 0 = .ok (.iload_n 0, 1) := by decide +kernel
theorem dX6_isBetween_1 : decode cX6_isBetween 1 = .ok (.iload_n 1, 1) := by decide +kernel
theorem dX6_isBetween_2 : decode cX6_isBetween 2 = .ok (.if_icmp .lt 12, 3) := by decide +kernel
theorem dX6_isBetween_5 : decode cX6_isBetween 5 = .ok (.iload_n 0, 1) := by decide +kernel
theorem dX6_isBetween_6 : decode cX6_isBetween 6 = .ok (.iload_n 2, 1) := by decide +kernel
theorem dX6_isBetween_7 : decode cX6_isBetween 7 = .ok (.if_icmp .gt 7, 3) := by decide +kernel
theorem dX6_isBetween_10 : decode cX6_isBetween 10 = .ok (.iconst 1, 1) := by decide +kernel
theorem dX6_isBetween_11 : decode cX6_isBetween 11 = .ok (.goto 4, 3) := by decide +kernel
theorem dX6_isBetween_14 : decode cX6_isBetween 14 = .ok (.iconst 0, 1) := by decide +kernel
theorem dX6_isBetween_15 : decode cX6_isBetween 15 = .ok (.ireturn, 1) := by decide +kernel
set_option maxRecDepth 20000 in
theorem ggX6_isMast_X6_isBetween : GoodIn wsX6_isMast wsX6_isBetween := goodIn_r _ [5] (by decide +kernel) (by decide +kernel)
set_option maxRecDepth 20000 in
theorem gX6_isMast_X6_isBetween : GoodIn wsX6_isMast (va_wsS RX6 65 yX6_isBetween wsX6_isBetween) := goodIn_app (goodIn_of _ (by decide +kernel)) ggX6_isMast_X6_isBetween
theorem dX6_isMast_0 : decode cX6_isMast 0 = .ok (.iload_n 1, 1) := by decide +kernel
theorem dX6_isMast_1 : decode cX6_isMast 1 = .ok (.iconst 0, 1) := by decide +kernel
theorem dX6_isMast_2 : decode cX6_isMast 2 = .ok (.aload_n 0, 1) := by decide +kernel
theorem dX6_isMast_3 : decode cX6_isMast 3 = .ok (.getfield 62, 3) := by decide +kernel
theorem dX6_isMast_6 : decode cX6_isMast 6 = .ok (.iconst 1, 1) := by decide +kernel
theorem dX6_isMast_7 : decode cX6_isMast 7 = .ok (.isub, 1) := by decide +kernel
theorem dX6_isMast_8 : decode cX6_isMast 8 = .ok (.invokestatic 65, 3) := by decide +kernel
theorem dX6_isMast_11 : decode cX6_isMast 11 = .ok (.ireturn, 1) := by decide +kernel
set_option maxRecDepth 20000 in
theorem ggX6_isThread_X6_isBetween : GoodIn wsX6_isThread wsX6_isBetween := goodIn_r _ [5] (by decide +kernel) (by decide +kernel)
set_option maxRecDepth 20000 in
theorem gX6_isThread_X6_isBetween : GoodIn wsX6_isThread (va_wsS RX6 65 yX6_isBetween wsX6_isBetween) := goodIn_app (goodIn_of _ (by decide +kernel)) ggX6_isThread_X6_isBetween
theorem dX6_isThread_0 : decode cX6_isThread 0 = .ok (.iload_n 1, 1) := by decide +kernel
theorem dX6_isThread_1 : decode cX6_isThread 1 = .ok (.iconst 0, 1) := by decide +kernel
theorem dX6_isThread_2 : decode cX6_isThread 2 = .ok (.aload_n 0, 1) := by decide +kernel
theorem dX6_isThread_3 : decode cX6_isThread 3 = .ok (.getfield 69, 3) := by decide +kernel
theorem dX6_isThread_6 : decode cX6_isThread 6 = .ok (.iconst 1, 1) := by decide +kernel
theorem dX6_isThread_7 : decode cX6_isThread 7 = .ok (.isub, 1) := by decide +kernel
theorem dX6_isThread_8 : decode cX6_isThread 8 = .ok (.invokestatic 65, 3) := by decide +kernel
theorem dX6_isThread_11 : decode cX6_isThread 11 = .ok (.ireturn, 1) := by decide +kernel
theorem dX6_unit_0 : decode cX6_unit 0 = .ok (.iload_n 0, 1) := by decide +kernel
theorem dX6_unit_1 : decode cX6_unit 1 = .ok (.ifCond .ne 7, 3) := by decide +kernel
theorem dX6_unit_4 : decode cX6_unit 4 = .ok (.iconst 1, 1) := by decide +kernel
theorem dX6_unit_5 : decode cX6_unit 5 = .ok (.goto 15, 3) := by decide +kernel
theorem dX6_unit_8 : decode cX6_unit 8 = .ok (.iload_n 0, 1) := by decide +kernel
theorem dX6_unit_9 : decode cX6_unit 9 = .ok (.iconst 1, 1) := by decide +kernel
theorem dX6_unit_10 : decode cX6_unit 10 = .ok (.if_icmp .ne 8, 3) := by decide +kernel
theorem dX6_unit_13 : decode cX6_unit 13 = .ok (.bipush 10, 2) := by decide +kernel
theorem dX6_unit_15 : decode cX6_unit 15 = .ok (.goto 5, 3) := by decide +kernel
theorem dX6_unit_18 : decode cX6_unit 18 = .ok (.bipush 100, 2) := by decide +kernel
theorem dX6_unit_20 : decode cX6_unit 20 = .ok (.ireturn, 1) := by decide +kernel
set_option maxRecDepth 20000 in
theorem ggX6_lean_X6_unit : GoodIn wsX6_lean wsX6_unit := goodIn_r _ [4] (by decide +kernel) (by decide +kernel)
set_option maxRecDepth 20000 in
theorem gX6_lean_X6_unit : GoodIn wsX6_lean (va_wsS RX6 72 yX6_unit wsX6_unit) := goodIn_app (goodIn_of _ (by decide +kernel)) ggX6_lean_X6_unit
theorem dX6_lean_0 : decode cX6_lean 0 = .ok (.iload_n 0, 1) := by decide +kernel
theorem dX6_lean_1 : decode cX6_lean 1 = .ok (.iload_n 1, 1) := by decide +kernel
theorem dX6_lean_2 : decode cX6_lean 2 = .ok (.invokestatic 72, 3) := by decide +kernel
theorem dX6_lean_5 : decode cX6_lean 5 = .ok (.idiv, 1) := by decide +kernel
theorem dX6_lean_6 : decode cX6_lean 6 = .ok (.bipush 10, 2) := by decide +kernel
theorem dX6_lean_8 : decode cX6_lean 8 = .ok (.irem, 1) := by decide +kernel
theorem dX6_lean_9 : decode cX6_lean 9 = .ok (.ireturn, 1) := by decide +kernel
set_option maxRecDepth 20000 in
theorem ggX6_stands_X6_lean : GoodIn wsX6_stands wsX6_lean := goodIn_r _ [5, 6, 7, 4, 8] (by decide +kernel) (by decide +kernel)
set_option maxRecDepth 20000 in
theorem gX6_stands_X6_lean : GoodIn wsX6_stands (va_wsS RX6 76 yX6_lean wsX6_lean) := goodIn_app (goodIn_of _ (by decide +kernel)) ggX6_stands_X6_lean
theorem dX6_stands_0 : decode cX6_stands 0 = .ok (.aload_n 0, 1) := by decide +kernel
theorem dX6_stands_1 : decode cX6_stands 1 = .ok (.getfield 32, 3) := by decide +kernel
theorem dX6_stands_4 : decode cX6_stands 4 = .ok (.iload_n 2, 1) := by decide +kernel
theorem dX6_stands_5 : decode cX6_stands 5 = .ok (.iaload, 1) := by decide +kernel
theorem dX6_stands_6 : decode cX6_stands 6 = .ok (.bipush 9, 2) := by decide +kernel
theorem dX6_stands_8 : decode cX6_stands 8 = .ok (.iload_n 1, 1) := by decide +kernel
theorem dX6_stands_9 : decode cX6_stands 9 = .ok (.iload_n 2, 1) := by decide +kernel
theorem dX6_stands_10 : decode cX6_stands 10 = .ok (.invokestatic 76, 3) := by decide +kernel
theorem dX6_stands_13 : decode cX6_stands 13 = .ok (.isub, 1) := by decide +kernel
theorem dX6_stands_14 : decode cX6_stands 14 = .ok (.imul, 1) := by decide +kernel
theorem dX6_stands_15 : decode cX6_stands 15 = .ok (.bipush 9, 2) := by decide +kernel
theorem dX6_stands_17 : decode cX6_stands 17 = .ok (.idiv, 1) := by decide +kernel
theorem dX6_stands_18 : decode cX6_stands 18 = .ok (.ireturn, 1) := by decide +kernel
set_option maxRecDepth 20000 in
theorem ggX6_reach_X6_lean : GoodIn wsX6_reach wsX6_lean := goodIn_r _ [5, 6, 7, 4, 8] (by decide +kernel) (by decide +kernel)
set_option maxRecDepth 20000 in
theorem gX6_reach_X6_lean : GoodIn wsX6_reach (va_wsS RX6 76 yX6_lean wsX6_lean) := goodIn_app (goodIn_of _ (by decide +kernel)) ggX6_reach_X6_lean
theorem dX6_reach_0 : decode cX6_reach 0 = .ok (.aload_n 0, 1) := by decide +kernel
theorem dX6_reach_1 : decode cX6_reach 1 = .ok (.getfield 32, 3) := by decide +kernel
theorem dX6_reach_4 : decode cX6_reach 4 = .ok (.iload_n 2, 1) := by decide +kernel
theorem dX6_reach_5 : decode cX6_reach 5 = .ok (.iaload, 1) := by decide +kernel
theorem dX6_reach_6 : decode cX6_reach 6 = .ok (.iload_n 1, 1) := by decide +kernel
theorem dX6_reach_7 : decode cX6_reach 7 = .ok (.iload_n 2, 1) := by decide +kernel
theorem dX6_reach_8 : decode cX6_reach 8 = .ok (.invokestatic 76, 3) := by decide +kernel
theorem dX6_reach_11 : decode cX6_reach 11 = .ok (.imul, 1) := by decide +kernel
theorem dX6_reach_12 : decode cX6_reach 12 = .ok (.bipush 9, 2) := by decide +kernel
theorem dX6_reach_14 : decode cX6_reach 14 = .ok (.idiv, 1) := by decide +kernel
theorem dX6_reach_15 : decode cX6_reach 15 = .ok (.ireturn, 1) := by decide +kernel
set_option maxRecDepth 20000 in
theorem ggX6_top_X6_stands : GoodIn wsX6_top wsX6_stands := goodIn_r _ [11, 12, 13, 14, 10, 15, 16, 17, 18, 19, 20, 21, 22, 23, 24, 25, 26, 27, 28, 29, 30, 31, 32, 33, 34, 35, 36, 37, 38, 39, 40, 41, 42, 43] (by decide +kernel) (by decide +kernel)
set_option maxRecDepth 20000 in
theorem gX6_top_X6_stands : GoodIn wsX6_top (wsV RX6 80 RX6 yX6_stands wsX6_stands) := goodIn_app (goodIn_of _ (by decide +kernel)) ggX6_top_X6_stands
theorem dX6_top_0 : decode cX6_top 0 = .ok (.iconst 0, 1) := by decide +kernel
theorem dX6_top_1 : decode cX6_top 1 = .ok (.istore_n 2, 1) := by decide +kernel
theorem dX6_top_2 : decode cX6_top 2 = .ok (.iconst 0, 1) := by decide +kernel
theorem dX6_top_3 : decode cX6_top 3 = .ok (.istore_n 3, 1) := by decide +kernel
theorem dX6_top_4 : decode cX6_top 4 = .ok (.iload_n 3, 1) := by decide +kernel
theorem dX6_top_5 : decode cX6_top 5 = .ok (.aload_n 0, 1) := by decide +kernel
theorem dX6_top_6 : decode cX6_top 6 = .ok (.getfield 62, 3) := by decide +kernel
theorem dX6_top_9 : decode cX6_top 9 = .ok (.if_icmp .ge 20, 3) := by decide +kernel
theorem dX6_top_12 : decode cX6_top 12 = .ok (.iload_n 2, 1) := by decide +kernel
theorem dX6_top_13 : decode cX6_top 13 = .ok (.aload_n 0, 1) := by decide +kernel
theorem dX6_top_14 : decode cX6_top 14 = .ok (.iload_n 1, 1) := by decide +kernel
theorem dX6_top_15 : decode cX6_top 15 = .ok (.iload_n 3, 1) := by decide +kernel
theorem dX6_top_16 : decode cX6_top 16 = .ok (.invokevirtual 80, 3) := by decide +kernel
theorem dX6_top_19 : decode cX6_top 19 = .ok (.invokestatic 83, 3) := by decide +kernel
theorem dX6_top_22 : decode cX6_top 22 = .ok (.istore_n 2, 1) := by decide +kernel
theorem dX6_top_23 : decode cX6_top 23 = .ok (.iinc 3 1, 3) := by decide +kernel
theorem dX6_top_26 : decode cX6_top 26 = .ok (.goto (-22), 3) := by decide +kernel
theorem dX6_top_29 : decode cX6_top 29 = .ok (.aload_n 0, 1) := by decide +kernel
theorem dX6_top_30 : decode cX6_top 30 = .ok (.getfield 22, 3) := by decide +kernel
theorem dX6_top_33 : decode cX6_top 33 = .ok (.iload_n 2, 1) := by decide +kernel
theorem dX6_top_34 : decode cX6_top 34 = .ok (.iadd, 1) := by decide +kernel
theorem dX6_top_35 : decode cX6_top 35 = .ok (.ireturn, 1) := by decide +kernel
set_option maxRecDepth 20000 in
theorem ggX6_end_X6_reach : GoodIn wsX6_end wsX6_reach := goodIn_r _ [12, 13, 14, 15, 11, 16, 17, 18, 19, 20, 21, 22, 23, 24, 25, 26, 27, 28, 29, 30, 31, 32, 33, 34, 35, 36, 37, 38, 39, 40, 41, 42, 43, 44] (by decide +kernel) (by decide +kernel)
set_option maxRecDepth 20000 in
theorem gX6_end_X6_reach : GoodIn wsX6_end (wsV RX6 88 RX6 yX6_reach wsX6_reach) := goodIn_app (goodIn_of _ (by decide +kernel)) ggX6_end_X6_reach
theorem dX6_end_0 : decode cX6_end 0 = .ok (.aload_n 0, 1) := by decide +kernel
theorem dX6_end_1 : decode cX6_end 1 = .ok (.getfield 19, 3) := by decide +kernel
theorem dX6_end_4 : decode cX6_end 4 = .ok (.istore_n 2, 1) := by decide +kernel
theorem dX6_end_5 : decode cX6_end 5 = .ok (.iconst 0, 1) := by decide +kernel
theorem dX6_end_6 : decode cX6_end 6 = .ok (.istore_n 3, 1) := by decide +kernel
theorem dX6_end_7 : decode cX6_end 7 = .ok (.iload_n 3, 1) := by decide +kernel
theorem dX6_end_8 : decode cX6_end 8 = .ok (.aload_n 0, 1) := by decide +kernel
theorem dX6_end_9 : decode cX6_end 9 = .ok (.getfield 62, 3) := by decide +kernel
theorem dX6_end_12 : decode cX6_end 12 = .ok (.if_icmp .ge 27, 3) := by decide +kernel
theorem dX6_end_15 : decode cX6_end 15 = .ok (.iload_n 2, 1) := by decide +kernel
theorem dX6_end_16 : decode cX6_end 16 = .ok (.aload_n 0, 1) := by decide +kernel
theorem dX6_end_17 : decode cX6_end 17 = .ok (.getfield 28, 3) := by decide +kernel
theorem dX6_end_20 : decode cX6_end 20 = .ok (.iload_n 3, 1) := by decide +kernel
theorem dX6_end_21 : decode cX6_end 21 = .ok (.iaload, 1) := by decide +kernel
theorem dX6_end_22 : decode cX6_end 22 = .ok (.aload_n 0, 1) := by decide +kernel
theorem dX6_end_23 : decode cX6_end 23 = .ok (.iload_n 1, 1) := by decide +kernel
theorem dX6_end_24 : decode cX6_end 24 = .ok (.iload_n 3, 1) := by decide +kernel
theorem dX6_end_25 : decode cX6_end 25 = .ok (.invokevirtual 88, 3) := by decide +kernel
theorem dX6_end_28 : decode cX6_end 28 = .ok (.iadd, 1) := by decide +kernel
theorem dX6_end_29 : decode cX6_end 29 = .ok (.invokestatic 83, 3) := by decide +kernel
theorem dX6_end_32 : decode cX6_end 32 = .ok (.istore_n 2, 1) := by decide +kernel
theorem dX6_end_33 : decode cX6_end 33 = .ok (.iinc 3 1, 3) := by decide +kernel
theorem dX6_end_36 : decode cX6_end 36 = .ok (.goto (-29), 3) := by decide +kernel
theorem dX6_end_39 : decode cX6_end 39 = .ok (.iload_n 2, 1) := by decide +kernel
theorem dX6_end_40 : decode cX6_end 40 = .ok (.ireturn, 1) := by decide +kernel
set_option maxRecDepth 20000 in
theorem ggX6_breadth_X6_lean : GoodIn wsX6_breadth wsX6_lean := goodIn_r _ [12, 13, 14, 11, 15] (by decide +kernel) (by decide +kernel)
set_option maxRecDepth 20000 in
theorem gX6_breadth_X6_lean : GoodIn wsX6_breadth (va_wsS RX6 76 yX6_lean wsX6_lean) := goodIn_app (goodIn_of _ (by decide +kernel)) ggX6_breadth_X6_lean
theorem dX6_breadth_0 : decode cX6_breadth 0 = .ok (.aload_n 0, 1) := by decide +kernel
theorem dX6_breadth_1 : decode cX6_breadth 1 = .ok (.getfield 25, 3) := by decide +kernel
theorem dX6_breadth_4 : decode cX6_breadth 4 = .ok (.istore_n 2, 1) := by decide +kernel
theorem dX6_breadth_5 : decode cX6_breadth 5 = .ok (.iconst 0, 1) := by decide +kernel
theorem dX6_breadth_6 : decode cX6_breadth 6 = .ok (.istore_n 3, 1) := by decide +kernel
theorem dX6_breadth_7 : decode cX6_breadth 7 = .ok (.iload_n 3, 1) := by decide +kernel
theorem dX6_breadth_8 : decode cX6_breadth 8 = .ok (.aload_n 0, 1) := by decide +kernel
theorem dX6_breadth_9 : decode cX6_breadth 9 = .ok (.getfield 62, 3) := by decide +kernel
theorem dX6_breadth_12 : decode cX6_breadth 12 = .ok (.if_icmp .ge 55, 3) := by decide +kernel
theorem dX6_breadth_15 : decode cX6_breadth 15 = .ok (.iconst 0, 1) := by decide +kernel
theorem dX6_breadth_16 : decode cX6_breadth 16 = .ok (.istore 4, 2) := by decide +kernel
theorem dX6_breadth_18 : decode cX6_breadth 18 = .ok (.iload 4, 2) := by decide +kernel
theorem dX6_breadth_20 : decode cX6_breadth 20 = .ok (.aload_n 0, 1) := by decide +kernel
theorem dX6_breadth_21 : decode cX6_breadth 21 = .ok (.getfield 35, 3) := by decide +kernel
theorem dX6_breadth_24 : decode cX6_breadth 24 = .ok (.iload_n 3, 1) := by decide +kernel
theorem dX6_breadth_25 : decode cX6_breadth 25 = .ok (.iaload, 1) := by decide +kernel
theorem dX6_breadth_26 : decode cX6_breadth 26 = .ok (.if_icmp .ge 35, 3) := by decide +kernel
theorem dX6_breadth_29 : decode cX6_breadth 29 = .ok (.iload_n 1, 1) := by decide +kernel
theorem dX6_breadth_30 : decode cX6_breadth 30 = .ok (.iload_n 3, 1) := by decide +kernel
theorem dX6_breadth_31 : decode cX6_breadth 31 = .ok (.invokestatic 76, 3) := by decide +kernel
theorem dX6_breadth_34 : decode cX6_breadth 34 = .ok (.bipush 9, 2) := by decide +kernel
theorem dX6_breadth_36 : decode cX6_breadth 36 = .ok (.if_icmp .ge 25, 3) := by decide +kernel
theorem dX6_breadth_39 : decode cX6_breadth 39 = .ok (.iload_n 2, 1) := by decide +kernel
theorem dX6_breadth_40 : decode cX6_breadth 40 = .ok (.aload_n 0, 1) := by decide +kernel
theorem dX6_breadth_41 : decode cX6_breadth 41 = .ok (.getfield 38, 3) := by decide +kernel
theorem dX6_breadth_44 : decode cX6_breadth 44 = .ok (.iconst 3, 1) := by decide +kernel
theorem dX6_breadth_45 : decode cX6_breadth 45 = .ok (.iload_n 3, 1) := by decide +kernel
theorem dX6_breadth_46 : decode cX6_breadth 46 = .ok (.imul, 1) := by decide +kernel
theorem dX6_breadth_47 : decode cX6_breadth 47 = .ok (.iload 4, 2) := by decide +kernel
theorem dX6_breadth_49 : decode cX6_breadth 49 = .ok (.iadd, 1) := by decide +kernel
theorem dX6_breadth_50 : decode cX6_breadth 50 = .ok (.iaload, 1) := by decide +kernel
theorem dX6_breadth_51 : decode cX6_breadth 51 = .ok (.invokestatic 83, 3) := by decide +kernel
theorem dX6_breadth_54 : decode cX6_breadth 54 = .ok (.istore_n 2, 1) := by decide +kernel
theorem dX6_breadth_55 : decode cX6_breadth 55 = .ok (.iinc 4 1, 3) := by decide +kernel
theorem dX6_breadth_58 : decode cX6_breadth 58 = .ok (.goto (-40), 3) := by decide +kernel
theorem dX6_breadth_61 : decode cX6_breadth 61 = .ok (.iinc 3 1, 3) := by decide +kernel
theorem dX6_breadth_64 : decode cX6_breadth 64 = .ok (.goto (-57), 3) := by decide +kernel
theorem dX6_breadth_67 : decode cX6_breadth 67 = .ok (.iload_n 2, 1) := by decide +kernel
theorem dX6_breadth_68 : decode cX6_breadth 68 = .ok (.ireturn, 1) := by decide +kernel
set_option maxRecDepth 20000 in
theorem ggX6_goesThrough_X6_breadth : GoodIn wsX6_goesThrough wsX6_breadth := goodIn_r _ [7, 8, 9, 10, 11, 12, 13, 14, 15, 16, 17, 6, 18, 19, 20, 21, 32, 33, 34, 35, 36, 37, 38, 39, 40, 41, 42, 43, 44, 45, 46, 47, 48, 49, 50, 51, 52, 53, 54, 55, 56] (by decide +kernel) (by decide +kernel)
set_option maxRecDepth 20000 in
theorem gX6_goesThrough_X6_breadth : GoodIn wsX6_goesThrough (wsV RX6 94 RX6 yX6_breadth wsX6_breadth) := goodIn_app (goodIn_of _ (by decide +kernel)) ggX6_goesThrough_X6_breadth
set_option maxRecDepth 20000 in
theorem ggX6_goesThrough_X6_top : GoodIn wsX6_goesThrough wsX6_top := goodIn_r _ [25, 9, 12, 13, 14, 15, 26, 27, 28, 29, 6, 30, 31, 16, 17, 18, 19, 20, 21, 32, 33, 34, 35, 36, 37, 38, 39, 40, 41, 42, 43, 44, 45, 46, 47, 48, 49, 50, 51, 52, 53, 54, 55, 56] (by decide +kernel) (by decide +kernel)
set_option maxRecDepth 20000 in
theorem gX6_goesThrough_X6_top : GoodIn wsX6_goesThrough (wsV RX6 97 RX6 yX6_top wsX6_top) := goodIn_app (goodIn_of _ (by decide +kernel)) ggX6_goesThrough_X6_top
theorem dX6_goesThrough_0 : decode cX6_goesThrough 0 = .ok (.aload_n 0, 1) := by decide +kernel
theorem dX6_goesThrough_1 : decode cX6_goesThrough 1 = .ok (.aload_n 0, 1) := by decide +kernel
theorem dX6_goesThrough_2 : decode cX6_goesThrough 2 = .ok (.getfield 91, 3) := by decide +kernel
theorem dX6_goesThrough_5 : decode cX6_goesThrough 5 = .ok (.invokevirtual 94, 3) := by decide +kernel
theorem dX6_goesThrough_8 : decode cX6_goesThrough 8 = .ok (.aload_n 0, 1) := by decide +kernel
theorem dX6_goesThrough_9 : decode cX6_goesThrough 9 = .ok (.getfield 7, 3) := by decide +kernel
theorem dX6_goesThrough_12 : decode cX6_goesThrough 12 = .ok (.if_icmp .gt 22, 3) := by decide +kernel
theorem dX6_goesThrough_15 : decode cX6_goesThrough 15 = .ok (.aload_n 0, 1) := by decide +kernel
theorem dX6_goesThrough_16 : decode cX6_goesThrough 16 = .ok (.aload_n 0, 1) := by decide +kernel
theorem dX6_goesThrough_17 : decode cX6_goesThrough 17 = .ok (.getfield 91, 3) := by decide +kernel
theorem dX6_goesThrough_20 : decode cX6_goesThrough 20 = .ok (.invokevirtual 97, 3) := by decide +kernel
theorem dX6_goesThrough_23 : decode cX6_goesThrough 23 = .ok (.aload_n 0, 1) := by decide +kernel
theorem dX6_goesThrough_24 : decode cX6_goesThrough 24 = .ok (.getfield 7, 3) := by decide +kernel
theorem dX6_goesThrough_27 : decode cX6_goesThrough 27 = .ok (.if_icmp .gt 7, 3) := by decide +kernel
theorem dX6_goesThrough_30 : decode cX6_goesThrough 30 = .ok (.iconst 1, 1) := by decide +kernel
theorem dX6_goesThrough_31 : decode cX6_goesThrough 31 = .ok (.goto 4, 3) := by decide +kernel
theorem dX6_goesThrough_34 : decode cX6_goesThrough 34 = .ok (.iconst 0, 1) := by decide +kernel
theorem dX6_goesThrough_35 : decode cX6_goesThrough 35 = .ok (.ireturn, 1) := by decide +kernel
set_option maxRecDepth 20000 in
theorem ggX6_fits_X6_end : GoodIn wsX6_fits wsX6_end := goodIn_r _ [8, 9, 10, 11, 12, 13, 14, 15, 16, 17, 18, 7, 19, 20, 21, 22, 23, 24, 25, 26, 36, 37, 38, 39, 40, 41, 42, 43, 44, 45, 46, 47, 48, 49, 50, 51, 52, 53, 54, 55, 56, 57, 58, 59, 60] (by decide +kernel) (by decide +kernel)
set_option maxRecDepth 20000 in
theorem gX6_fits_X6_end : GoodIn wsX6_fits (wsV RX6 100 RX6 yX6_end wsX6_end) := goodIn_app (goodIn_of _ (by decide +kernel)) ggX6_fits_X6_end
set_option maxRecDepth 20000 in
theorem ggX6_fits_X6_top : GoodIn wsX6_fits wsX6_top := goodIn_r _ [30, 10, 12, 13, 14, 15, 31, 32, 33, 34, 7, 35, 20, 21, 22, 23, 24, 25, 26, 36, 37, 38, 39, 40, 41, 42, 43, 44, 45, 46, 47, 48, 49, 50, 51, 52, 53, 54, 55, 56, 57, 58, 59, 60] (by decide +kernel) (by decide +kernel)
set_option maxRecDepth 20000 in
theorem gX6_fits_X6_top : GoodIn wsX6_fits (wsV RX6 97 RX6 yX6_top wsX6_top) := goodIn_app (goodIn_of _ (by decide +kernel)) ggX6_fits_X6_top
theorem dX6_fits_0 : decode cX6_fits 0 = .ok (.aload_n 0, 1) := by decide +kernel
theorem dX6_fits_1 : decode cX6_fits 1 = .ok (.iload_n 1, 1) := by decide +kernel
theorem dX6_fits_2 : decode cX6_fits 2 = .ok (.invokevirtual 100, 3) := by decide +kernel
theorem dX6_fits_5 : decode cX6_fits 5 = .ok (.aload_n 0, 1) := by decide +kernel
theorem dX6_fits_6 : decode cX6_fits 6 = .ok (.getfield 16, 3) := by decide +kernel
theorem dX6_fits_9 : decode cX6_fits 9 = .ok (.if_icmp .gt 24, 3) := by decide +kernel
theorem dX6_fits_12 : decode cX6_fits 12 = .ok (.aload_n 0, 1) := by decide +kernel
theorem dX6_fits_13 : decode cX6_fits 13 = .ok (.iload_n 1, 1) := by decide +kernel
theorem dX6_fits_14 : decode cX6_fits 14 = .ok (.invokevirtual 97, 3) := by decide +kernel
theorem dX6_fits_17 : decode cX6_fits 17 = .ok (.aload_n 0, 1) := by decide +kernel
theorem dX6_fits_18 : decode cX6_fits 18 = .ok (.getfield 103, 3) := by decide +kernel
theorem dX6_fits_21 : decode cX6_fits 21 = .ok (.iadd, 1) := by decide +kernel
theorem dX6_fits_22 : decode cX6_fits 22 = .ok (.aload_n 0, 1) := by decide +kernel
theorem dX6_fits_23 : decode cX6_fits 23 = .ok (.getfield 13, 3) := by decide +kernel
theorem dX6_fits_26 : decode cX6_fits 26 = .ok (.if_icmp .gt 7, 3) := by decide +kernel
theorem dX6_fits_29 : decode cX6_fits 29 = .ok (.iconst 1, 1) := by decide +kernel
theorem dX6_fits_30 : decode cX6_fits 30 = .ok (.goto 4, 3) := by decide +kernel
theorem dX6_fits_33 : decode cX6_fits 33 = .ok (.iconst 0, 1) := by decide +kernel
theorem dX6_fits_34 : decode cX6_fits 34 = .ok (.ireturn, 1) := by decide +kernel
theorem dX6_isHeld_0 : decode cX6_isHeld 0 = .ok (.iconst 0, 1) := by decide +kernel
theorem dX6_isHeld_1 : decode cX6_isHeld 1 = .ok (.istore_n 2, 1) := by decide +kernel
theorem dX6_isHeld_2 : decode cX6_isHeld 2 = .ok (.iload_n 2, 1) := by decide +kernel
theorem dX6_isHeld_3 : decode cX6_isHeld 3 = .ok (.aload_n 0, 1) := by decide +kernel
theorem dX6_isHeld_4 : decode cX6_isHeld 4 = .ok (.getfield 69, 3) := by decide +kernel
theorem dX6_isHeld_7 : decode cX6_isHeld 7 = .ok (.if_icmp .ge 31, 3) := by decide +kernel
theorem dX6_isHeld_10 : decode cX6_isHeld 10 = .ok (.aload_n 0, 1) := by decide +kernel
theorem dX6_isHeld_11 : decode cX6_isHeld 11 = .ok (.getfield 41, 3) := by decide +kernel
theorem dX6_isHeld_14 : decode cX6_isHeld 14 = .ok (.iload_n 2, 1) := by decide +kernel
theorem dX6_isHeld_15 : decode cX6_isHeld 15 = .ok (.iaload, 1) := by decide +kernel
theorem dX6_isHeld_16 : decode cX6_isHeld 16 = .ok (.iload_n 1, 1) := by decide +kernel
theorem dX6_isHeld_17 : decode cX6_isHeld 17 = .ok (.if_icmp .ne 15, 3) := by decide +kernel
theorem dX6_isHeld_20 : decode cX6_isHeld 20 = .ok (.aload_n 0, 1) := by decide +kernel
theorem dX6_isHeld_21 : decode cX6_isHeld 21 = .ok (.getfield 50, 3) := by decide +kernel
theorem dX6_isHeld_24 : decode cX6_isHeld 24 = .ok (.iload_n 2, 1) := by decide +kernel
theorem dX6_isHeld_25 : decode cX6_isHeld 25 = .ok (.iaload, 1) := by decide +kernel
theorem dX6_isHeld_26 : decode cX6_isHeld 26 = .ok (.iconst 1, 1) := by decide +kernel
theorem dX6_isHeld_27 : decode cX6_isHeld 27 = .ok (.if_icmp .ne 5, 3) := by decide +kernel
theorem dX6_isHeld_30 : decode cX6_isHeld 30 = .ok (.iconst 1, 1) := by decide +kernel
theorem dX6_isHeld_31 : decode cX6_isHeld 31 = .ok (.ireturn, 1) := by decide +kernel
theorem dX6_isHeld_32 : decode cX6_isHeld 32 = .ok (.iinc 2 1, 3) := by decide +kernel
theorem dX6_isHeld_35 : decode cX6_isHeld 35 = .ok (.goto (-33), 3) := by decide +kernel
theorem dX6_isHeld_38 : decode cX6_isHeld 38 = .ok (.iconst 0, 1) := by decide +kernel
theorem dX6_isHeld_39 : decode cX6_isHeld 39 = .ok (.ireturn, 1) := by decide +kernel
theorem dX6_loose_0 : decode cX6_loose 0 = .ok (.iconst 0, 1) := by decide +kernel
theorem dX6_loose_1 : decode cX6_loose 1 = .ok (.istore_n 2, 1) := by decide +kernel
theorem dX6_loose_2 : decode cX6_loose 2 = .ok (.iconst 0, 1) := by decide +kernel
theorem dX6_loose_3 : decode cX6_loose 3 = .ok (.istore_n 3, 1) := by decide +kernel
theorem dX6_loose_4 : decode cX6_loose 4 = .ok (.iload_n 3, 1) := by decide +kernel
theorem dX6_loose_5 : decode cX6_loose 5 = .ok (.aload_n 0, 1) := by decide +kernel
theorem dX6_loose_6 : decode cX6_loose 6 = .ok (.getfield 69, 3) := by decide +kernel
theorem dX6_loose_9 : decode cX6_loose 9 = .ok (.if_icmp .ge 36, 3) := by decide +kernel
theorem dX6_loose_12 : decode cX6_loose 12 = .ok (.iload_n 2, 1) := by decide +kernel
theorem dX6_loose_13 : decode cX6_loose 13 = .ok (.aload_n 0, 1) := by decide +kernel
theorem dX6_loose_14 : decode cX6_loose 14 = .ok (.getfield 41, 3) := by decide +kernel
theorem dX6_loose_17 : decode cX6_loose 17 = .ok (.iload_n 3, 1) := by decide +kernel
theorem dX6_loose_18 : decode cX6_loose 18 = .ok (.iaload, 1) := by decide +kernel
theorem dX6_loose_19 : decode cX6_loose 19 = .ok (.iload_n 1, 1) := by decide +kernel
theorem dX6_loose_20 : decode cX6_loose 20 = .ok (.if_icmp .ne 16, 3) := by decide +kernel
theorem dX6_loose_23 : decode cX6_loose 23 = .ok (.aload_n 0, 1) := by decide +kernel
theorem dX6_loose_24 : decode cX6_loose 24 = .ok (.getfield 50, 3) := by decide +kernel
theorem dX6_loose_27 : decode cX6_loose 27 = .ok (.iload_n 3, 1) := by decide +kernel
theorem dX6_loose_28 : decode cX6_loose 28 = .ok (.iaload, 1) := by decide +kernel
theorem dX6_loose_29 : decode cX6_loose 29 = .ok (.ifCond .ne 7, 3) := by decide +kernel
theorem dX6_loose_32 : decode cX6_loose 32 = .ok (.iconst 1, 1) := by decide +kernel
theorem dX6_loose_33 : decode cX6_loose 33 = .ok (.goto 4, 3) := by decide +kernel
