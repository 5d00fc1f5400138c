theorem wsL_law_in0 : ∀ w ∈ wsL_law0, w ∈ lw_tbl := by
  unfold wsL_law0
  intro w h
  rcases List.mem_append.mp h with h | h
  rotate_left
  · exact absurd h List.not_mem_nil
  rcases List.mem_append.mp h with h | h
  rotate_left
  · exact in_wsX10 w h
  rcases List.mem_append.mp h with h | h
  rotate_left
  · exact in_wsX30 w h
  rcases List.mem_append.mp h with h | h
  rotate_left
  · exact in_wsX40 w h
  rcases List.mem_append.mp h with h | h
  rotate_left
  · exact in_wsX20 w h
  rcases List.mem_append.mp h with h | h
  rotate_left
  · exact in_wsX00 w h
  rcases List.mem_append.mp h with h | h
  rotate_left
  · exact in_wsX60 w h
  rcases List.mem_append.mp h with h | h
  rotate_left
  · exact in_wsX50 w h
  rcases List.mem_append.mp h with h | h
  · exact in_wsL_law0_r1 w h
  rcases List.mem_append.mp h with h | h
  · exact in_wsL_law0_r2 w h
  rcases List.mem_append.mp h with h | h
  · exact in_wsL_law0_r3 w h
  rcases List.mem_append.mp h with h | h
  · exact in_wsL_law0_r4 w h
  rcases List.mem_append.mp h with h | h
  · exact in_wsL_law0_r5 w h
  rcases List.mem_append.mp h with h | h
  · exact in_wsL_law0_r6 w h
  rcases List.mem_append.mp h with h | h
  · exact in_wsL_law0_r7 w h
  rcases List.mem_append.mp h with h | h
  · exact in_wsL_law0_r8 w h
  rcases List.mem_append.mp h with h | h
  · exact in_wsL_law0_r9 w h
  rcases List.mem_append.mp h with h | h
  · exact in_wsL_law0_r10 w h
  rcases List.mem_append.mp h with h | h
  · exact in_wsL_law0_r11 w h
  rcases List.mem_append.mp h with h | h
  · exact in_wsL_law0_r12 w h
  rcases List.mem_append.mp h with h | h
  · exact in_wsL_law0_r13 w h
  rcases List.mem_append.mp h with h | h
  · exact in_wsL_law0_r14 w h
  rcases List.mem_append.mp h with h | h
  · exact in_wsL_law0_r15 w h
  rcases List.mem_append.mp h with h | h
  · exact in_wsL_law0_r16 w h
  rcases List.mem_append.mp h with h | h
  · exact in_wsL_law0_r17 w h
  rcases List.mem_append.mp h with h | h
  · exact in_wsL_law0_r18 w h
  rcases List.mem_append.mp h with h | h
  · exact in_wsL_law0_r19 w h
  rcases List.mem_append.mp h with h | h
  · exact in_wsL_law0_r20 w h
  rcases List.mem_append.mp h with h | h
  · exact in_wsL_law0_r21 w h
  rcases List.mem_append.mp h with h | h
  · exact in_wsL_law0_r22 w h
  rcases List.mem_append.mp h with h | h
  · exact in_wsL_law0_r23 w h
  rcases List.mem_append.mp h with h | h
  · exact in_wsL_law0_r24 w h
  rcases List.mem_append.mp h with h | h
  · exact in_wsL_law0_r25 w h
  rcases List.mem_append.mp h with h | h
  · exact in_wsL_law0_r26 w h
  exact in_wsL_law0_r27 w h
theorem wsL_law_x0 : ∀ w ∈ (vx_atS RX5 62 "java/lang/IllegalArgumentException" ["java/lang/RuntimeException", "java/lang/Exception"]).filter goodWord, w ∈ lw_tbl := by decide +kernel
theorem wsL_law_x1 : ∀ w ∈ (vx_atS RX5 73 "java/lang/IllegalStateException" ["java/lang/RuntimeException", "java/lang/Exception"]).filter goodWord, w ∈ lw_tbl := by decide +kernel
theorem wsL_law_x2 : ∀ w ∈ (vx_atS RX5 120 "java/lang/IndexOutOfBoundsException" ["java/lang/RuntimeException", "java/lang/Exception"]).filter goodWord, w ∈ lw_tbl := by decide +kernel
theorem wsL_law_in : ∀ w ∈ wsL_law, w ∈ lw_tbl := fun w h => (List.mem_append.mp h).elim (fun h => (List.mem_append.mp h).elim (fun h => (List.mem_append.mp h).elim (fun h => wsL_law_in0 w h) (fun h => wsL_law_x0 w h)) (fun h => wsL_law_x1 w h)) (fun h => wsL_law_x2 w h)
theorem inlX0 : ∀ w ∈ wsX00, w ∈ wsL_law := fun _ h => List.mem_append_left _ (List.mem_append_left _ (List.mem_append_left _ (List.mem_append_left _ (List.mem_append_left _ (List.mem_append_left _ (List.mem_append_left _ (List.mem_append_left _ (List.mem_append_right _ h))))))))
theorem inX0 : ∀ w ∈ wsX00, w ∈ lw_tbl := fun w h => wsL_law_in w (inlX0 w h)
theorem inlX1 : ∀ w ∈ wsX10, w ∈ wsL_law := fun _ h => List.mem_append_left _ (List.mem_append_left _ (List.mem_append_left _ (List.mem_append_left _ (List.mem_append_right _ h))))
theorem inX1 : ∀ w ∈ wsX10, w ∈ lw_tbl := fun w h => wsL_law_in w (inlX1 w h)
theorem inlX2 : ∀ w ∈ wsX20, w ∈ wsL_law := fun _ h => List.mem_append_left _ (List.mem_append_left _ (List.mem_append_left _ (List.mem_append_left _ (List.mem_append_left _ (List.mem_append_left _ (List.mem_append_left _ (List.mem_append_right _ h)))))))
theorem inX2 : ∀ w ∈ wsX20, w ∈ lw_tbl := fun w h => wsL_law_in w (inlX2 w h)
theorem inlX3 : ∀ w ∈ wsX30, w ∈ wsL_law := fun _ h => List.mem_append_left _ (List.mem_append_left _ (List.mem_append_left _ (List.mem_append_left _ (List.mem_append_left _ (List.mem_append_right _ h)))))
theorem inX3 : ∀ w ∈ wsX30, w ∈ lw_tbl := fun w h => wsL_law_in w (inlX3 w h)
theorem inlX4 : ∀ w ∈ wsX40, w ∈ wsL_law := fun _ h => List.mem_append_left _ (List.mem_append_left _ (List.mem_append_left _ (List.mem_append_left _ (List.mem_append_left _ (List.mem_append_left _ (List.mem_append_right _ h))))))
theorem inX4 : ∀ w ∈ wsX40, w ∈ lw_tbl := fun w h => wsL_law_in w (inlX4 w h)
theorem inlX5 : ∀ w ∈ wsX50, w ∈ wsL_law := fun _ h => List.mem_append_left _ (List.mem_append_left _ (List.mem_append_left _ (List.mem_append_left _ (List.mem_append_left _ (List.mem_append_left _ (List.mem_append_left _ (List.mem_append_left _ (List.mem_append_left _ (List.mem_append_left _ (List.mem_append_right _ h))))))))))
theorem inX5 : ∀ w ∈ wsX50, w ∈ lw_tbl := fun w h => wsL_law_in w (inlX5 w h)
theorem inlX6 : ∀ w ∈ wsX60, w ∈ wsL_law := fun _ h => List.mem_append_left _ (List.mem_append_left _ (List.mem_append_left _ (List.mem_append_left _ (List.mem_append_left _ (List.mem_append_left _ (List.mem_append_left _ (List.mem_append_left _ (List.mem_append_left _ (List.mem_append_right _ h)))))))))
theorem inX6 : ∀ w ∈ wsX60, w ∈ lw_tbl := fun w h => wsL_law_in w (inlX6 w h)
theorem inJx145de : ∀ w ∈ wsJx145de0, w ∈ lw_tbl := by decide +kernel
theorem inJ9 : ∀ w ∈ wsJ90, w ∈ lw_tbl := by decide +kernel
theorem inJ0 : ∀ w ∈ wsJ00, w ∈ lw_tbl := by decide +kernel
theorem inJ10 : ∀ w ∈ wsJ100, w ∈ lw_tbl := by decide +kernel
theorem inJ7 : ∀ w ∈ wsJ70, w ∈ lw_tbl := by decide +kernel
theorem dX0_init_0 : decode cX0_init 0 = .ok (.aload_n 0, 1) := by decide +kernel
theorem dX0_init_1 : decode cX0_init 1 = .ok (.invokespecial 1, 3) := by decide +kernel
theorem dX0_init_4 : decode cX0_init 4 = .ok (.aload_n 0, 1) := by decide +kernel
theorem dX0_init_5 : decode cX0_init 5 = .ok (.bipush 8, 2) := by decide +kernel
theorem dX0_init_7 : decode cX0_init 7 = .ok (.putfield 7, 3) := by decide +kernel
theorem dX0_init_10 : decode cX0_init 10 = .ok (.aload_n 0, 1) := by decide +kernel
theorem dX0_init_11 : decode cX0_init 11 = .ok (.bipush 30, 2) := by decide +kernel
theorem dX0_init_13 : decode cX0_init 13 = .ok (.putfield 13, 3) := by decide +kernel
theorem dX0_init_16 : decode cX0_init 16 = .ok (.aload_n 0, 1) := by decide +kernel
theorem dX0_init_17 : decode cX0_init 17 = .ok (.bipush 60, 2) := by decide +kernel
theorem dX0_init_19 : decode cX0_init 19 = .ok (.putfield 16, 3) := by decide +kernel
theorem dX0_init_22 : decode cX0_init 22 = .ok (.aload_n 0, 1) := by decide +kernel
theorem dX0_init_23 : decode cX0_init 23 = .ok (.iconst 0, 1) := by decide +kernel
theorem dX0_init_24 : decode cX0_init 24 = .ok (.putfield 19, 3) := by decide +kernel
theorem dX0_init_27 : decode cX0_init 27 = .ok (.return_, 1) := by decide +kernel
theorem dX0_digestOnto_0 : decode cX0_digestOnto 0 = .ok (.lload_n 1, 1) := by decide +kernel
theorem dX0_digestOnto_1 : decode cX0_digestOnto 1 = .ok (.ldc2_w 22, 3) := by decide +kernel
theorem dX0_digestOnto_4 : decode cX0_digestOnto 4 = .ok (.lmul, 1) := by decide +kernel
theorem dX0_digestOnto_5 : decode cX0_digestOnto 5 = .ok (.aload_n 0, 1) := by decide +kernel
theorem dX0_digestOnto_6 : decode cX0_digestOnto 6 = .ok (.getfield 7, 3) := by decide +kernel
theorem dX0_digestOnto_9 : decode cX0_digestOnto 9 = .ok (.i2l, 1) := by decide +kernel
theorem dX0_digestOnto_10 : decode cX0_digestOnto 10 = .ok (.ladd, 1) := by decide +kernel
theorem dX0_digestOnto_11 : decode cX0_digestOnto 11 = .ok (.ldc2_w 22, 3) := by decide +kernel
theorem dX0_digestOnto_14 : decode cX0_digestOnto 14 = .ok (.lmul, 1) := by decide +kernel
theorem dX0_digestOnto_15 : decode cX0_digestOnto 15 = .ok (.aload_n 0, 1) := by decide +kernel
theorem dX0_digestOnto_16 : decode cX0_digestOnto 16 = .ok (.getfield 13, 3) := by decide +kernel
theorem dX0_digestOnto_19 : decode cX0_digestOnto 19 = .ok (.i2l, 1) := by decide +kernel
theorem dX0_digestOnto_20 : decode cX0_digestOnto 20 = .ok (.ladd, 1) := by decide +kernel
theorem dX0_digestOnto_21 : decode cX0_digestOnto 21 = .ok (.ldc2_w 22, 3) := by decide +kernel
theorem dX0_digestOnto_24 : decode cX0_digestOnto 24 = .ok (.lmul, 1) := by decide +kernel
theorem dX0_digestOnto_25 : decode cX0_digestOnto 25 = .ok (.aload_n 0, 1) := by decide +kernel
theorem dX0_digestOnto_26 : decode cX0_digestOnto 26 = .ok (.getfield 16, 3) := by decide +kernel
theorem dX0_digestOnto_29 : decode cX0_digestOnto 29 = .ok (.i2l, 1) := by decide +kernel
theorem dX0_digestOnto_30 : decode cX0_digestOnto 30 = .ok (.ladd, 1) := by decide +kernel
theorem dX0_digestOnto_31 : decode cX0_digestOnto 31 = .ok (.ldc2_w 22, 3) := by decide +kernel
theorem dX0_digestOnto_34 : decode cX0_digestOnto 34 = .ok (.lmul, 1) := by decide +kernel
theorem dX0_digestOnto_35 : decode cX0_digestOnto 35 = .ok (.aload_n 0, 1) := by decide +kernel
theorem dX0_digestOnto_36 : decode cX0_digestOnto 36 = .ok (.getfield 19, 3) := by decide +kernel
theorem dX0_digestOnto_39 : decode cX0_digestOnto 39 = .ok (.i2l, 1) := by decide +kernel
theorem dX0_digestOnto_40 : decode cX0_digestOnto 40 = .ok (.ladd, 1) := by decide +kernel
theorem dX0_digestOnto_41 : decode cX0_digestOnto 41 = .ok (.lreturn, 1) := by decide +kernel
theorem dX1_init_0 : decode cX1_init 0 = .ok (.aload_n 0, 1) := by decide +kernel
theorem dX1_init_1 : decode cX1_init 1 = .ok (.invokespecial 3, 3) := by decide +kernel
theorem dX1_init_4 : decode cX1_init 4 = .ok (.return_, 1) := by decide +kernel
theorem dX1_span_0 : decode cX1_span 0 = .ok (.aload_n 0, 1) := by decide +kernel
theorem dX1_span_1 : decode cX1_span 1 = .ok (.iload_n 1, 1) := by decide +kernel
theorem dX1_span_2 : decode cX1_span 2 = .ok (.iload_n 2, 1) := by decide +kernel
theorem dX1_span_3 : decode cX1_span 3 = .ok (.invokestatic 9, 3) := by decide +kernel
theorem dX1_span_6 : decode cX1_span 6 = .ok (.putfield 15, 3) := by decide +kernel
theorem dX1_span_9 : decode cX1_span 9 = .ok (.aload_n 0, 1) := by decide +kernel
theorem dX1_span_10 : decode cX1_span 10 = .ok (.iload_n 1, 1) := by decide +kernel
theorem dX1_span_11 : decode cX1_span 11 = .ok (.iload_n 2, 1) := by decide +kernel
theorem dX1_span_12 : decode cX1_span 12 = .ok (.invokestatic 21, 3) := by decide +kernel
theorem dX1_span_15 : decode cX1_span 15 = .ok (.putfield 24, 3) := by decide +kernel
theorem dX1_span_18 : decode cX1_span 18 = .ok (.return_, 1) := by decide +kernel
theorem dX1_crosses_0 : decode cX1_crosses 0 = .ok (.aload_n 1, 1) := by decide +kernel
theorem dX1_crosses_1 : decode cX1_crosses 1 = .ok (.aload_n 0, 1) := by decide +kernel
theorem dX1_crosses_2 : decode cX1_crosses 2 = .ok (.if_acmp .eq 19, 3) := by decide +kernel
theorem dX1_crosses_5 : decode cX1_crosses 5 = .ok (.aload_n 0, 1) := by decide +kernel
theorem dX1_crosses_6 : decode cX1_crosses 6 = .ok (.getfield 27, 3) := by decide +kernel
theorem dX1_crosses_9 : decode cX1_crosses 9 = .ok (.iconst 2, 1) := by decide +kernel
theorem dX1_crosses_10 : decode cX1_crosses 10 = .ok (.if_icmp .eq 11, 3) := by decide +kernel
theorem dX1_crosses_13 : decode cX1_crosses 13 = .ok (.aload_n 1, 1) := by decide +kernel
theorem dX1_crosses_14 : decode cX1_crosses 14 = .ok (.getfield 27, 3) := by decide +kernel
theorem dX1_crosses_17 : decode cX1_crosses 17 = .ok (.iconst 2, 1) := by decide +kernel
theorem dX1_crosses_18 : decode cX1_crosses 18 = .ok (.if_icmp .ne 5, 3) := by decide +kernel
theorem dX1_crosses_21 : decode cX1_crosses 21 = .ok (.iconst 0, 1) := by decide +kernel
theorem dX1_crosses_22 : decode cX1_crosses 22 = .ok (.ireturn, 1) := by decide +kernel
theorem dX1_crosses_23 : decode cX1_crosses 23 = .ok (.aload_n 0, 1) := by decide +kernel
theorem dX1_crosses_24 : decode cX1_crosses 24 = .ok (.getfield 15, 3) := by decide +kernel
theorem dX1_crosses_27 : decode cX1_crosses 27 = .ok (.aload_n 1, 1) := by decide +kernel
theorem dX1_crosses_28 : decode cX1_crosses 28 = .ok (.getfield 15, 3) := by decide +kernel
theorem dX1_crosses_31 : decode cX1_crosses 31 = .ok (.invokestatic 21, 3) := by decide +kernel
theorem dX1_crosses_34 : decode cX1_crosses 34 = .ok (.aload_n 0, 1) := by decide +kernel
theorem dX1_crosses_35 : decode cX1_crosses 35 = .ok (.getfield 24, 3) := by decide +kernel
theorem dX1_crosses_38 : decode cX1_crosses 38 = .ok (.aload_n 1, 1) := by decide +kernel
theorem dX1_crosses_39 : decode cX1_crosses 39 = .ok (.getfield 24, 3) := by decide +kernel
theorem dX1_crosses_42 : decode cX1_crosses 42 = .ok (.invokestatic 9, 3) := by decide +kernel
theorem dX1_crosses_45 : decode cX1_crosses 45 = .ok (.if_icmp .ge 7, 3) := by decide +kernel
theorem dX1_crosses_48 : decode cX1_crosses 48 = .ok (.iconst 1, 1) := by decide +kernel
theorem dX1_crosses_49 : decode cX1_crosses 49 = .ok (.goto 4, 3) := by decide +kernel
theorem dX1_crosses_52 : decode cX1_crosses 52 = .ok (.iconst 0, 1) := by decide +kernel
theorem dX1_crosses_53 : decode cX1_crosses 53 = .ok (.ireturn, 1) := by decide +kernel
theorem dX1_wear_0 : decode cX1_wear 0 = .ok (.aload_n 0, 1) := by decide +kernel
theorem dX1_wear_1 : decode cX1_wear 1 = .ok (.dup, 1) := by decide +kernel
theorem dX1_wear_2 : decode cX1_wear 2 = .ok (.getfield 30, 3) := by decide +kernel
theorem dX1_wear_5 : decode cX1_wear 5 = .ok (.iconst 1, 1) := by decide +kernel
theorem dX1_wear_6 : decode cX1_wear 6 = .ok (.isub, 1) := by decide +kernel
theorem dX1_wear_7 : decode cX1_wear 7 = .ok (.putfield 30, 3) := by decide +kernel
theorem dX1_wear_10 : decode cX1_wear 10 = .ok (.aload_n 0, 1) := by decide +kernel
theorem dX1_wear_11 : decode cX1_wear 11 = .ok (.getfield 30, 3) := by decide +kernel
theorem dX1_wear_14 : decode cX1_wear 14 = .ok (.ifCond .ne 8, 3) := by decide +kernel
theorem dX1_wear_17 : decode cX1_wear 17 = .ok (.aload_n 0, 1) := by decide +kernel
theorem dX1_wear_18 : decode cX1_wear 18 = .ok (.iconst 2, 1) := by decide +kernel
theorem dX1_wear_19 : decode cX1_wear 19 = .ok (.putfield 27, 3) := by decide +kernel
theorem dX1_wear_22 : decode cX1_wear 22 = .ok (.return_, 1) := by decide +kernel
theorem dX2_init_0 : decode cX2_init 0 = .ok (.aload_n 0, 1) := by decide +kernel
theorem dX2_init_1 : decode cX2_init 1 = .ok (.invokespecial 1, 3) := by decide +kernel
theorem dX2_init_4 : decode cX2_init 4 = .ok (.aload_n 0, 1) := by decide +kernel
theorem dX2_init_5 : decode cX2_init 5 = .ok (.bipush 40, 2) := by decide +kernel
theorem dX2_init_7 : decode cX2_init 7 = .ok (.putfield 7, 3) := by decide +kernel
theorem dX2_init_10 : decode cX2_init 10 = .ok (.aload_n 0, 1) := by decide +kernel
theorem dX2_init_11 : decode cX2_init 11 = .ok (.iconst 4, 1) := by decide +kernel
theorem dX2_init_12 : decode cX2_init 12 = .ok (.putfield 13, 3) := by decide +kernel
theorem dX2_init_15 : decode cX2_init 15 = .ok (.aload_n 0, 1) := by decide +kernel
theorem dX2_init_16 : decode cX2_init 16 = .ok (.iconst 5, 1) := by decide +kernel
theorem dX2_init_17 : decode cX2_init 17 = .ok (.putfield 16, 3) := by decide +kernel
theorem dX2_init_20 : decode cX2_init 20 = .ok (.return_, 1) := by decide +kernel
theorem dX2_digestOnto_0 : decode cX2_digestOnto 0 = .ok (.lload_n 1, 1) := by decide +kernel
theorem dX2_digestOnto_1 : decode cX2_digestOnto 1 = .ok (.ldc2_w 19, 3) := by decide +kernel
theorem dX2_digestOnto_4 : decode cX2_digestOnto 4 = .ok (.lmul, 1) := by decide +kernel
theorem dX2_digestOnto_5 : decode cX2_digestOnto 5 = .ok (.aload_n 0, 1) := by decide +kernel
theorem dX2_digestOnto_6 : decode cX2_digestOnto 6 = .ok (.getfield 7, 3) := by decide +kernel
theorem dX2_digestOnto_9 : decode cX2_digestOnto 9 = .ok (.i2l, 1) := by decide +kernel
theorem dX2_digestOnto_10 : decode cX2_digestOnto 10 = .ok (.ladd, 1) := by decide +kernel
theorem dX2_digestOnto_11 : decode cX2_digestOnto 11 = .ok (.ldc2_w 19, 3) := by decide +kernel
theorem dX2_digestOnto_14 : decode cX2_digestOnto 14 = .ok (.lmul, 1) := by decide +kernel
theorem dX2_digestOnto_15 : decode cX2_digestOnto 15 = .ok (.aload_n 0, 1) := by decide +kernel
theorem dX2_digestOnto_16 : decode cX2_digestOnto 16 = .ok (.getfield 13, 3) := by decide +kernel
theorem dX2_digestOnto_19 : decode cX2_digestOnto 19 = .ok (.i2l, 1) := by decide +kernel
theorem dX2_digestOnto_20 : decode cX2_digestOnto 20 = .ok (.ladd, 1) := by decide +kernel
theorem dX2_digestOnto_21 : decode cX2_digestOnto 21 = .ok (.ldc2_w 19, 3) := by decide +kernel
theorem dX2_digestOnto_24 : decode cX2_digestOnto 24 = .ok (.lmul, 1) := by decide +kernel
theorem dX2_digestOnto_25 : decode cX2_digestOnto 25 = .ok (.aload_n 0, 1) := by decide +kernel
theorem dX2_digestOnto_26 : decode cX2_digestOnto 26 = .ok (.getfield 16, 3) := by decide +kernel
theorem dX2_digestOnto_29 : decode cX2_digestOnto 29 = .ok (.i2l, 1) := by decide +kernel
theorem dX2_digestOnto_30 : decode cX2_digestOnto 30 = .ok (.ladd, 1) := by decide +kernel
theorem dX2_digestOnto_31 : decode cX2_digestOnto 31 = .ok (.lreturn, 1) := by decide +kernel
theorem dX3_init_0 : decode cX3_init 0 = .ok (.aload_n 0, 1) := by decide +kernel
theorem dX3_init_1 : decode cX3_init 1 = .ok (.invokespecial 3, 3) := by decide +kernel
theorem dX3_init_4 : decode cX3_init 4 = .ok (.aload_n 0, 1) := by decide +kernel
theorem dX3_init_5 : decode cX3_init 5 = .ok (.iconst 3, 1) := by decide +kernel
theorem dX3_init_6 : decode cX3_init 6 = .ok (.newarray .int, 2) := by decide +kernel
theorem dX3_init_8 : decode cX3_init 8 = .ok (.putfield 9, 3) := by decide +kernel
theorem dX3_init_11 : decode cX3_init 11 = .ok (.return_, 1) := by decide +kernel
theorem dX3_standing_0 : decode cX3_standing 0 = .ok (.aload_n 0, 1) := by decide +kernel
theorem dX3_standing_1 : decode cX3_standing 1 = .ok (.getfield 15, 3) := by decide +kernel
theorem dX3_standing_4 : decode cX3_standing 4 = .ok (.bipush 9, 2) := by decide +kernel
theorem dX3_standing_6 : decode cX3_standing 6 = .ok (.iload_n 1, 1) := by decide +kernel
theorem dX3_standing_7 : decode cX3_standing 7 = .ok (.isub, 1) := by decide +kernel
theorem dX3_standing_8 : decode cX3_standing 8 = .ok (.imul, 1) := by decide +kernel
theorem dX3_standing_9 : decode cX3_standing 9 = .ok (.bipush 9, 2) := by decide +kernel
theorem dX3_standing_11 : decode cX3_standing 11 = .ok (.idiv, 1) := by decide +kernel
theorem dX3_standing_12 : decode cX3_standing 12 = .ok (.ireturn, 1) := by decide +kernel
theorem dX3_reach_0 : decode cX3_reach 0 = .ok (.aload_n 0, 1) := by decide +kernel
theorem dX3_reach_1 : decode cX3_reach 1 = .ok (.getfield 15, 3) := by decide +kernel
theorem dX3_reach_4 : decode cX3_reach 4 = .ok (.iload_n 1, 1) := by decide +kernel
theorem dX3_reach_5 : decode cX3_reach 5 = .ok (.imul, 1) := by decide +kernel
theorem dX3_reach_6 : decode cX3_reach 6 = .ok (.bipush 9, 2) := by decide +kernel
theorem dX3_reach_8 : decode cX3_reach 8 = .ok (.idiv, 1) := by decide +kernel
theorem dX3_reach_9 : decode cX3_reach 9 = .ok (.ireturn, 1) := by decide +kernel
theorem dX3_widestYard_0 : decode cX3_widestYard 0 = .ok (.iconst 0, 1) := by decide +kernel
theorem dX3_widestYard_1 : decode cX3_widestYard 1 = .ok (.istore_n 1, 1) := by decide +kernel
theorem dX3_widestYard_2 : decode cX3_widestYard 2 = .ok (.iconst 0, 1) := by decide +kernel
theorem dX3_widestYard_3 : decode cX3_widestYard 3 = .ok (.istore_n 2, 1) := by decide +kernel
theorem dX3_widestYard_4 : decode cX3_widestYard 4 = .ok (.iload_n 2, 1) := by decide +kernel
theorem dX3_widestYard_5 : decode cX3_widestYard 5 = .ok (.aload_n 0, 1) := by decide +kernel
theorem dX3_widestYard_6 : decode cX3_widestYard 6 = .ok (.getfield 19, 3) := by decide +kernel
theorem dX3_widestYard_9 : decode cX3_widestYard 9 = .ok (.if_icmp .ge 20, 3) := by decide +kernel
theorem dX3_widestYard_12 : decode cX3_widestYard 12 = .ok (.iload_n 1, 1) := by decide +kernel
theorem dX3_widestYard_13 : decode cX3_widestYard 13 = .ok (.aload_n 0, 1) := by decide +kernel
theorem dX3_widestYard_14 : decode cX3_widestYard 14 = .ok (.getfield 9, 3) := by decide +kernel
theorem dX3_widestYard_17 : decode cX3_widestYard 17 = .ok (.iload_n 2, 1) := by decide +kernel
theorem dX3_widestYard_18 : decode cX3_widestYard 18 = .ok (.iaload, 1) := by decide +kernel
theorem dX3_widestYard_19 : decode cX3_widestYard 19 = .ok (.invokestatic 22, 3) := by decide +kernel
theorem dX3_widestYard_22 : decode cX3_widestYard 22 = .ok (.istore_n 1, 1) := by decide +kernel
theorem dX3_widestYard_23 : decode cX3_widestYard 23 = .ok (.iinc 2 1, 3) := by decide +kernel
theorem dX3_widestYard_26 : decode cX3_widestYard 26 = .ok (.goto (-22), 3) := by decide +kernel
theorem dX3_widestYard_29 : decode cX3_widestYard 29 = .ok (.iload_n 1, 1) := by decide +kernel
theorem dX3_widestYard_30 : decode cX3_widestYard 30 = .ok (.ireturn, 1) := by decide +kernel
theorem dX3_digestYardsOnto_0 : decode cX3_digestYardsOnto 0 = .ok (.lload_n 1, 1) := by decide +kernel
theorem dX3_digestYardsOnto_1 : decode cX3_digestYardsOnto 1 = .ok (.lstore_n 3, 1) := by decide +kernel
theorem dX3_digestYardsOnto_2 : decode cX3_digestYardsOnto 2 = .ok (.iconst 0, 1) := by decide +kernel
theorem dX3_digestYardsOnto_3 : decode cX3_digestYardsOnto 3 = .ok (.istore 5, 2) := by decide +kernel
theorem dX3_digestYardsOnto_5 : decode cX3_digestYardsOnto 5 = .ok (.iload 5, 2) := by decide +kernel
theorem dX3_digestYardsOnto_7 : decode cX3_digestYardsOnto 7 = .ok (.aload_n 0, 1) := by decide +kernel
theorem dX3_digestYardsOnto_8 : decode cX3_digestYardsOnto 8 = .ok (.getfield 19, 3) := by decide +kernel
theorem dX3_digestYardsOnto_11 : decode cX3_digestYardsOnto 11 = .ok (.if_icmp .ge 24, 3) := by decide +kernel
theorem dX3_digestYardsOnto_14 : decode cX3_digestYardsOnto 14 = .ok (.lload_n 3, 1) := by decide +kernel
theorem dX3_digestYardsOnto_15 : decode cX3_digestYardsOnto 15 = .ok (.ldc2_w 28, 3) := by decide +kernel
theorem dX3_digestYardsOnto_18 : decode cX3_digestYardsOnto 18 = .ok (.lmul, 1) := by decide +kernel
theorem dX3_digestYardsOnto_19 : decode cX3_digestYardsOnto 19 = .ok (.aload_n 0, 1) := by decide +kernel
theorem dX3_digestYardsOnto_20 : decode cX3_digestYardsOnto 20 = .ok (.getfield 9, 3) := by decide +kernel
theorem dX3_digestYardsOnto_23 : decode cX3_digestYardsOnto 23 = .ok (.iload 5, 2) := by decide +kernel
theorem dX3_digestYardsOnto_25 : decode cX3_digestYardsOnto 25 = .ok (.iaload, 1) := by decide +kernel
theorem dX3_digestYardsOnto_26 : decode cX3_digestYardsOnto 26 = .ok (.i2l, 1) := by decide +kernel
theorem dX3_digestYardsOnto_27 : decode cX3_digestYardsOnto 27 = .ok (.ladd, 1) := by decide +kernel
theorem dX3_digestYardsOnto_28 : decode cX3_digestYardsOnto 28 = .ok (.lstore_n 3, 1) := by decide +kernel
theorem dX3_digestYardsOnto_29 : decode cX3_digestYardsOnto 29 = .ok (.iinc 5 1, 3) := by decide +kernel
theorem dX3_digestYardsOnto_32 : decode cX3_digestYardsOnto 32 = .ok (.goto (-27), 3) := by decide +kernel
theorem dX3_digestYardsOnto_35 : decode cX3_digestYardsOnto 35 = .ok (.lload_n 3, 1) := by decide +kernel
theorem dX3_digestYardsOnto_36 : decode cX3_digestYardsOnto 36 = .ok (.lreturn, 1) := by decide +kernel
theorem dX4_init_0 : decode cX4_init 0 = .ok (.aload_n 0, 1) := by decide +kernel
theorem dX4_init_1 : decode cX4_init 1 = .ok (.invokespecial 3, 3) := by decide +kernel
theorem dX4_init_4 : decode cX4_init 4 = .ok (.aload_n 0, 1) := by decide +kernel
theorem dX4_init_5 : decode cX4_init 5 = .ok (.iconst 3, 1) := by decide +kernel
theorem dX4_init_6 : decode cX4_init 6 = .ok (.newarray .int, 2) := by decide +kernel
theorem dX4_init_8 : decode cX4_init 8 = .ok (.putfield 9, 3) := by decide +kernel
theorem dX4_init_11 : decode cX4_init 11 = .ok (.aload_n 0, 1) := by decide +kernel
theorem dX4_init_12 : decode cX4_init 12 = .ok (.iconst 3, 1) := by decide +kernel
theorem dX4_init_13 : decode cX4_init 13 = .ok (.newarray .int, 2) := by decide +kernel
theorem dX4_init_15 : decode cX4_init 15 = .ok (.putfield 15, 3) := by decide +kernel
theorem dX4_init_18 : decode cX4_init 18 = .ok (.aload_n 0, 1) := by decide +kernel
theorem dX4_init_19 : decode cX4_init 19 = .ok (.sipush 1000, 3) := by decide +kernel
theorem dX4_init_22 : decode cX4_init 22 = .ok (.newarray .int, 2) := by decide +kernel
theorem dX4_init_24 : decode cX4_init 24 = .ok (.putfield 18, 3) := by decide +kernel
theorem dX4_init_27 : decode cX4_init 27 = .ok (.aload_n 0, 1) := by decide +kernel
theorem dX4_init_28 : decode cX4_init 28 = .ok (.sipush 1000, 3) := by decide +kernel
theorem dX4_init_31 : decode cX4_init 31 = .ok (.newarray .int, 2) := by decide +kernel
theorem dX4_init_33 : decode cX4_init 33 = .ok (.putfield 21, 3) := by decide +kernel
theorem dX4_init_36 : decode cX4_init 36 = .ok (.aload_n 0, 1) := by decide +kernel
theorem dX4_init_37 : decode cX4_init 37 = .ok (.sipush 1000, 3) := by decide +kernel
theorem dX4_init_40 : decode cX4_init 40 = .ok (.newarray .int, 2) := by decide +kernel
theorem dX4_init_42 : decode cX4_init 42 = .ok (.putfield 24, 3) := by decide +kernel
theorem dX4_init_45 : decode cX4_init 45 = .ok (.return_, 1) := by decide +kernel
theorem dX4_encode_0 : decode cX4_encode 0 = .ok (.aload_n 0, 1) := by decide +kernel
theorem dX4_encode_1 : decode cX4_encode 1 = .ok (.iconst 0, 1) := by decide +kernel
theorem dX4_encode_2 : decode cX4_encode 2 = .ok (.iaload, 1) := by decide +kernel
theorem dX4_encode_3 : decode cX4_encode 3 = .ok (.bipush 10, 2) := by decide +kernel
theorem dX4_encode_5 : decode cX4_encode 5 = .ok (.aload_n 0, 1) := by decide +kernel
theorem dX4_encode_6 : decode cX4_encode 6 = .ok (.iconst 1, 1) := by decide +kernel
theorem dX4_encode_7 : decode cX4_encode 7 = .ok (.iaload, 1) := by decide +kernel
theorem dX4_encode_8 : decode cX4_encode 8 = .ok (.imul, 1) := by decide +kernel
theorem dX4_encode_9 : decode cX4_encode 9 = .ok (.iadd, 1) := by decide +kernel
theorem dX4_encode_10 : decode cX4_encode 10 = .ok (.bipush 100, 2) := by decide +kernel
theorem dX4_encode_12 : decode cX4_encode 12 = .ok (.aload_n 0, 1) := by decide +kernel
theorem dX4_encode_13 : decode cX4_encode 13 = .ok (.iconst 2, 1) := by decide +kernel
theorem dX4_encode_14 : decode cX4_encode 14 = .ok (.iaload, 1) := by decide +kernel
theorem dX4_encode_15 : decode cX4_encode 15 = .ok (.imul, 1) := by decide +kernel
theorem dX4_encode_16 : decode cX4_encode 16 = .ok (.iadd, 1) := by decide +kernel
theorem dX4_encode_17 : decode cX4_encode 17 = .ok (.ireturn, 1) := by decide +kernel
theorem dX4_decode_0 : decode cX4_decode 0 = .ok (.aload_n 1, 1) := by decide +kernel
theorem dX4_decode_1 : decode cX4_decode 1 = .ok (.iconst 0, 1) := by decide +kernel
theorem dX4_decode_2 : decode cX4_decode 2 = .ok (.iload_n 0, 1) := by decide +kernel
theorem dX4_decode_3 : decode cX4_decode 3 = .ok (.bipush 10, 2) := by decide +kernel
theorem dX4_decode_5 : decode cX4_decode 5 = .ok (.irem, 1) := by decide +kernel
theorem dX4_decode_6 : decode cX4_decode 6 = .ok (.iastore, 1) := by decide +kernel
theorem dX4_decode_7 : decode cX4_decode 7 = .ok (.aload_n 1, 1) := by decide +kernel
theorem dX4_decode_8 : decode cX4_decode 8 = .ok (.iconst 1, 1) := by decide +kernel
theorem dX4_decode_9 : decode cX4_decode 9 = .ok (.iload_n 0, 1) := by decide +kernel
theorem dX4_decode_10 : decode cX4_decode 10 = .ok (.bipush 10, 2) := by decide +kernel
theorem dX4_decode_12 : decode cX4_decode 12 = .ok (.idiv, 1) := by decide +kernel
theorem dX4_decode_13 : decode cX4_decode 13 = .ok (.bipush 10, 2) := by decide +kernel
theorem dX4_decode_15 : decode cX4_decode 15 = .ok (.irem, 1) := by decide +kernel
theorem dX4_decode_16 : decode cX4_decode 16 = .ok (.iastore, 1) := by decide +kernel
theorem dX4_decode_17 : decode cX4_decode 17 = .ok (.aload_n 1, 1) := by decide +kernel
theorem dX4_decode_18 : decode cX4_decode 18 = .ok (.iconst 2, 1) := by decide +kernel
theorem dX4_decode_19 : decode cX4_decode 19 = .ok (.iload_n 0, 1) := by decide +kernel
theorem dX4_decode_20 : decode cX4_decode 20 = .ok (.bipush 100, 2) := by decide +kernel
theorem dX4_decode_22 : decode cX4_decode 22 = .ok (.idiv, 1) := by decide +kernel
theorem dX4_decode_23 : decode cX4_decode 23 = .ok (.iastore, 1) := by decide +kernel
theorem dX4_decode_24 : decode cX4_decode 24 = .ok (.return_, 1) := by decide +kernel
theorem dX4_isState_0 : decode cX4_isState 0 = .ok (.iload_n 0, 1) := by decide +kernel
theorem dX4_isState_1 : decode cX4_isState 1 = .ok (.ifCond .lt 14, 3) := by decide +kernel
theorem dX4_isState_4 : decode cX4_isState 4 = .ok (.iload_n 0, 1) := by decide +kernel
theorem dX4_isState_5 : decode cX4_isState 5 = .ok (.sipush 1000, 3) := by decide +kernel
theorem dX4_isState_8 : decode cX4_isState 8 = .ok (.if_icmp .ge 7, 3) := by decide +kernel
theorem dX4_isState_11 : decode cX4_isState 11 = .ok (.iconst 1, 1) := by decide +kernel
theorem dX4_isState_12 : decode cX4_isState 12 = .ok (.goto 4, 3) := by decide +kernel
theorem dX4_isState_15 : decode cX4_isState 15 = .ok (.iconst 0, 1) := by decide +kernel
theorem dX4_isState_16 : decode cX4_isState 16 = .ok (.ireturn, 1) := by decide +kernel
set_option maxRecDepth 20000 in
theorem ggX4_begin_J7_fill_53178 : GoodIn wsX4_begin wsJ7_fill_53178 := goodIn_r _ [8] (by decide +kernel) (by decide +kernel)
set_option maxRecDepth 20000 in
theorem gX4_begin_J7_fill_53178 : GoodIn wsX4_begin (va_wsS RX4 27 yJ7_fill_53178 wsJ7_fill_53178) := goodIn_app (goodIn_of _ (by decide +kernel)) ggX4_begin_J7_fill_53178
set_option maxRecDepth 20000 in
theorem ggX4_begin_X4_isState : GoodIn wsX4_begin wsX4_isState := goodIn_r _ [12] (by decide +kernel) (by decide +kernel)
set_option maxRecDepth 20000 in
theorem gX4_begin_X4_isState : GoodIn wsX4_begin (va_wsS RX4 37 yX4_isState wsX4_isState) := goodIn_app (goodIn_of _ (by decide +kernel)) ggX4_begin_X4_isState
theorem dX4_begin_0 : decode cX4_begin 0 = .ok (.aload_n 0, 1) := by decide +kernel
theorem dX4_begin_1 : decode cX4_begin 1 = .ok (.getfield 21, 3) := by decide +kernel
theorem dX4_begin_4 : decode cX4_begin 4 = .ok (.iconst (-1), 1) := by decide +kernel
theorem dX4_begin_5 : decode cX4_begin 5 = .ok (.invokestatic 27, 3) := by decide +kernel
theorem dX4_begin_8 : decode cX4_begin 8 = .ok (.aload_n 0, 1) := by decide +kernel
theorem dX4_begin_9 : decode cX4_begin 9 = .ok (.getfield 24, 3) := by decide +kernel
theorem dX4_begin_12 : decode cX4_begin 12 = .ok (.iconst (-1), 1) := by decide +kernel
theorem dX4_begin_13 : decode cX4_begin 13 = .ok (.invokestatic 27, 3) := by decide +kernel
theorem dX4_begin_16 : decode cX4_begin 16 = .ok (.aload_n 0, 1) := by decide +kernel
theorem dX4_begin_17 : decode cX4_begin 17 = .ok (.iconst 0, 1) := by decide +kernel
theorem dX4_begin_18 : decode cX4_begin 18 = .ok (.putfield 33, 3) := by decide +kernel
theorem dX4_begin_21 : decode cX4_begin 21 = .ok (.iload_n 1, 1) := by decide +kernel
theorem dX4_begin_22 : decode cX4_begin 22 = .ok (.invokestatic 37, 3) := by decide +kernel
theorem dX4_begin_25 : decode cX4_begin 25 = .ok (.ifCond .eq 22, 3) := by decide +kernel
theorem dX4_begin_28 : decode cX4_begin 28 = .ok (.aload_n 0, 1) := by decide +kernel
theorem dX4_begin_29 : decode cX4_begin 29 = .ok (.getfield 21, 3) := by decide +kernel
theorem dX4_begin_32 : decode cX4_begin 32 = .ok (.iload_n 1, 1) := by decide +kernel
theorem dX4_begin_33 : decode cX4_begin 33 = .ok (.iconst 0, 1) := by decide +kernel
theorem dX4_begin_34 : decode cX4_begin 34 = .ok (.iastore, 1) := by decide +kernel
theorem dX4_begin_35 : decode cX4_begin 35 = .ok (.aload_n 0, 1) := by decide +kernel
theorem dX4_begin_36 : decode cX4_begin 36 = .ok (.getfield 18, 3) := by decide +kernel
theorem dX4_begin_39 : decode cX4_begin 39 = .ok (.iconst 0, 1) := by decide +kernel
theorem dX4_begin_40 : decode cX4_begin 40 = .ok (.iload_n 1, 1) := by decide +kernel
theorem dX4_begin_41 : decode cX4_begin 41 = .ok (.iastore, 1) := by decide +kernel
theorem dX4_begin_42 : decode cX4_begin 42 = .ok (.aload_n 0, 1) := by decide +kernel
theorem dX4_begin_43 : decode cX4_begin 43 = .ok (.iconst 1, 1) := by decide +kernel
theorem dX4_begin_44 : decode cX4_begin 44 = .ok (.putfield 33, 3) := by decide +kernel
theorem dX4_begin_47 : decode cX4_begin 47 = .ok (.return_, 1) := by decide +kernel
set_option maxRecDepth 20000 in
theorem ggX4_reach_X4_isState : GoodIn wsX4_reach wsX4_isState := goodIn_r _ [12] (by decide +kernel) (by decide +kernel)
set_option maxRecDepth 20000 in
theorem gX4_reach_X4_isState : GoodIn wsX4_reach (va_wsS RX4 37 yX4_isState wsX4_isState) := goodIn_app (goodIn_of _ (by decide +kernel)) ggX4_reach_X4_isState
theorem dX4_reach_0 : decode cX4_reach 0 = .ok (.iload_n 1, 1) := by decide +kernel
theorem dX4_reach_1 : decode cX4_reach 1 = .ok (.invokestatic 37, 3) := by decide +kernel
theorem dX4_reach_4 : decode cX4_reach 4 = .ok (.ifCond .eq 10, 3) := by decide +kernel
theorem dX4_reach_7 : decode cX4_reach 7 = .ok (.iload_n 2, 1) := by decide +kernel
theorem dX4_reach_8 : decode cX4_reach 8 = .ok (.invokestatic 37, 3) := by decide +kernel
theorem dX4_reach_11 : decode cX4_reach 11 = .ok (.ifCond .ne 4, 3) := by decide +kernel
theorem dX4_reach_14 : decode cX4_reach 14 = .ok (.return_, 1) := by decide +kernel
theorem dX4_reach_15 : decode cX4_reach 15 = .ok (.aload_n 0, 1) := by decide +kernel
theorem dX4_reach_16 : decode cX4_reach 16 = .ok (.getfield 21, 3) := by decide +kernel
theorem dX4_reach_19 : decode cX4_reach 19 = .ok (.iload_n 1, 1) := by decide +kernel
theorem dX4_reach_20 : decode cX4_reach 20 = .ok (.iaload, 1) := by decide +kernel
theorem dX4_reach_21 : decode cX4_reach 21 = .ok (.ifCond .ne 7, 3) := by decide +kernel
theorem dX4_reach_24 : decode cX4_reach 24 = .ok (.iload_n 3, 1) := by decide +kernel
theorem dX4_reach_25 : decode cX4_reach 25 = .ok (.goto 9, 3) := by decide +kernel
theorem dX4_reach_28 : decode cX4_reach 28 = .ok (.aload_n 0, 1) := by decide +kernel
theorem dX4_reach_29 : decode cX4_reach 29 = .ok (.getfield 24, 3) := by decide +kernel
theorem dX4_reach_32 : decode cX4_reach 32 = .ok (.iload_n 1, 1) := by decide +kernel
theorem dX4_reach_33 : decode cX4_reach 33 = .ok (.iaload, 1) := by decide +kernel
theorem dX4_reach_34 : decode cX4_reach 34 = .ok (.istore 4, 2) := by decide +kernel
theorem dX4_reach_36 : decode cX4_reach 36 = .ok (.aload_n 0, 1) := by decide +kernel
theorem dX4_reach_37 : decode cX4_reach 37 = .ok (.getfield 21, 3) := by decide +kernel
theorem dX4_reach_40 : decode cX4_reach 40 = .ok (.iload_n 2, 1) := by decide +kernel
theorem dX4_reach_41 : decode cX4_reach 41 = .ok (.iaload, 1) := by decide +kernel
theorem dX4_reach_42 : decode cX4_reach 42 = .ok (.iconst (-1), 1) := by decide +kernel
theorem dX4_reach_43 : decode cX4_reach 43 = .ok (.if_icmp .ne 58, 3) := by decide +kernel
theorem dX4_reach_46 : decode cX4_reach 46 = .ok (.aload_n 0, 1) := by decide +kernel
theorem dX4_reach_47 : decode cX4_reach 47 = .ok (.getfield 33, 3) := by decide +kernel
theorem dX4_reach_50 : decode cX4_reach 50 = .ok (.sipush 1000, 3) := by decide +kernel
theorem dX4_reach_53 : decode cX4_reach 53 = .ok (.if_icmp .ge 48, 3) := by decide +kernel
theorem dX4_reach_56 : decode cX4_reach 56 = .ok (.aload_n 0, 1) := by decide +kernel
theorem dX4_reach_57 : decode cX4_reach 57 = .ok (.getfield 21, 3) := by decide +kernel
theorem dX4_reach_60 : decode cX4_reach 60 = .ok (.iload_n 2, 1) := by decide +kernel
theorem dX4_reach_61 : decode cX4_reach 61 = .ok (.aload_n 0, 1) := by decide +kernel
theorem dX4_reach_62 : decode cX4_reach 62 = .ok (.getfield 21, 3) := by decide +kernel
theorem dX4_reach_65 : decode cX4_reach 65 = .ok (.iload_n 1, 1) := by decide +kernel
theorem dX4_reach_66 : decode cX4_reach 66 = .ok (.iaload, 1) := by decide +kernel
theorem dX4_reach_67 : decode cX4_reach 67 = .ok (.iconst 1, 1) := by decide +kernel
theorem dX4_reach_68 : decode cX4_reach 68 = .ok (.iadd, 1) := by decide +kernel
theorem dX4_reach_69 : decode cX4_reach 69 = .ok (.iastore, 1) := by decide +kernel
theorem dX4_reach_70 : decode cX4_reach 70 = .ok (.aload_n 0, 1) := by decide +kernel
theorem dX4_reach_71 : decode cX4_reach 71 = .ok (.getfield 24, 3) := by decide +kernel
theorem dX4_reach_74 : decode cX4_reach 74 = .ok (.iload_n 2, 1) := by decide +kernel
theorem dX4_reach_75 : decode cX4_reach 75 = .ok (.iload 4, 2) := by decide +kernel
theorem dX4_reach_77 : decode cX4_reach 77 = .ok (.iastore, 1) := by decide +kernel
theorem dX4_reach_78 : decode cX4_reach 78 = .ok (.aload_n 0, 1) := by decide +kernel
theorem dX4_reach_79 : decode cX4_reach 79 = .ok (.getfield 18, 3) := by decide +kernel
theorem dX4_reach_82 : decode cX4_reach 82 = .ok (.aload_n 0, 1) := by decide +kernel
theorem dX4_reach_83 : decode cX4_reach 83 = .ok (.getfield 33, 3) := by decide +kernel
theorem dX4_reach_86 : decode cX4_reach 86 = .ok (.iload_n 2, 1) := by decide +kernel
theorem dX4_reach_87 : decode cX4_reach 87 = .ok (.iastore, 1) := by decide +kernel
theorem dX4_reach_88 : decode cX4_reach 88 = .ok (.aload_n 0, 1) := by decide +kernel
theorem dX4_reach_89 : decode cX4_reach 89 = .ok (.dup, 1) := by decide +kernel
theorem dX4_reach_90 : decode cX4_reach 90 = .ok (.getfield 33, 3) := by decide +kernel
theorem dX4_reach_93 : decode cX4_reach 93 = .ok (.iconst 1, 1) := by decide +kernel
theorem dX4_reach_94 : decode cX4_reach 94 = .ok (.iadd, 1) := by decide +kernel
theorem dX4_reach_95 : decode cX4_reach 95 = .ok (.putfield 33, 3) := by decide +kernel
theorem dX4_reach_98 : decode cX4_reach 98 = .ok (.goto 37, 3) := by decide +kernel
theorem dX4_reach_101 : decode cX4_reach 101 = .ok (.aload_n 0, 1) := by decide +kernel
theorem dX4_reach_102 : decode cX4_reach 102 = .ok (.getfield 21, 3) := by decide +kernel
theorem dX4_reach_105 : decode cX4_reach 105 = .ok (.iload_n 2, 1) := by decide +kernel
theorem dX4_reach_106 : decode cX4_reach 106 = .ok (.iaload, 1) := by decide +kernel
theorem dX4_reach_107 : decode cX4_reach 107 = .ok (.aload_n 0, 1) := by decide +kernel
theorem dX4_reach_108 : decode cX4_reach 108 = .ok (.getfield 21, 3) := by decide +kernel
theorem dX4_reach_111 : decode cX4_reach 111 = .ok (.iload_n 1, 1) := by decide +kernel
theorem dX4_reach_112 : decode cX4_reach 112 = .ok (.iaload, 1) := by decide +kernel
theorem dX4_reach_113 : decode cX4_reach 113 = .ok (.iconst 1, 1) := by decide +kernel
theorem dX4_reach_114 : decode cX4_reach 114 = .ok (.iadd, 1) := by decide +kernel
theorem dX4_reach_115 : decode cX4_reach 115 = .ok (.if_icmp .ne 20, 3) := by decide +kernel
theorem dX4_reach_118 : decode cX4_reach 118 = .ok (.aload_n 0, 1) := by decide +kernel
theorem dX4_reach_119 : decode cX4_reach 119 = .ok (.getfield 24, 3) := by decide +kernel
theorem dX4_reach_122 : decode cX4_reach 122 = .ok (.iload_n 2, 1) := by decide +kernel
theorem dX4_reach_123 : decode cX4_reach 123 = .ok (.aload_n 0, 1) := by decide +kernel
theorem dX4_reach_124 : decode cX4_reach 124 = .ok (.getfield 24, 3) := by decide +kernel
theorem dX4_reach_127 : decode cX4_reach 127 = .ok (.iload_n 2, 1) := by decide +kernel
theorem dX4_reach_128 : decode cX4_reach 128 = .ok (.iaload, 1) := by decide +kernel
theorem dX4_reach_129 : decode cX4_reach 129 = .ok (.iload 4, 2) := by decide +kernel
theorem dX4_reach_131 : decode cX4_reach 131 = .ok (.invokestatic 41, 3) := by decide +kernel
theorem dX4_reach_134 : decode cX4_reach 134 = .ok (.iastore, 1) := by decide +kernel
theorem dX4_reach_135 : decode cX4_reach 135 = .ok (.return_, 1) := by decide +kernel
set_option maxRecDepth 20000 in
theorem ggX5_init_X0_init : GoodIn wsX5_init wsX0_init := goodIn_r _ [29, 30, 2, 3, 31, 32, 33, 34, 56, 57, 58, 59] (by decide +kernel) (by decide +kernel)
set_option maxRecDepth 20000 in
theorem gX5_init_X0_init_n9 : GoodIn wsX5_init (wsX0_init) := ggX5_init_X0_init
set_option maxRecDepth 20000 in
theorem ggX5_init_X2_init : GoodIn wsX5_init wsX2_init := goodIn_r _ [36, 37, 2, 3, 38, 39, 40, 74, 75, 76] (by decide +kernel) (by decide +kernel)
set_option maxRecDepth 20000 in
theorem gX5_init_X2_init_n18 : GoodIn wsX5_init (wsX2_init) := ggX5_init_X2_init
set_option maxRecDepth 20000 in
theorem ggX5_init_X4_init : GoodIn wsX5_init wsX4_init := goodIn_r _ [42, 43, 2, 3, 20, 44, 45, 46, 47, 48, 77, 78, 79, 80, 81, 82] (by decide +kernel) (by decide +kernel)
set_option maxRecDepth 20000 in
theorem gX5_init_X4_init_n37 : GoodIn wsX5_init (wsX4_init) := ggX5_init_X4_init
set_option maxRecDepth 20000 in
theorem ggX5_init_X3_init : GoodIn wsX5_init wsX3_init := goodIn_r _ [50, 51, 2, 3, 20, 52, 83, 84, 85, 86] (by decide +kernel) (by decide +kernel)
set_option maxRecDepth 20000 in
theorem gX5_init_X3_init_n52 : GoodIn wsX5_init (wsX3_init) := ggX5_init_X3_init
set_option maxRecDepth 20000 in
theorem ggX5_init_X1_init : GoodIn wsX5_init wsX1_init := goodIn_r _ [54, 55, 2, 3] (by decide +kernel) (by decide +kernel)
set_option maxRecDepth 20000 in
theorem gX5_init_X1_init_n53 : GoodIn wsX5_init (wsX1_init) := ggX5_init_X1_init
theorem dX5_init_0 : decode cX5_init 0 = .ok (.aload_n 0, 1) := by decide +kernel
theorem dX5_init_1 : decode cX5_init 1 = .ok (.invokespecial 1, 3) := by decide +kernel
theorem dX5_init_4 : decode cX5_init 4 = .ok (.aload_n 0, 1) := by decide +kernel
theorem dX5_init_5 : decode cX5_init 5 = .ok (.new 7, 3) := by decide +kernel
theorem dX5_init_8 : decode cX5_init 8 = .ok (.dup, 1) := by decide +kernel
theorem dX5_init_9 : decode cX5_init 9 = .ok (.invokespecial 9, 3) := by decide +kernel
theorem dX5_init_12 : decode cX5_init 12 = .ok (.putfield 10, 3) := by decide +kernel
theorem dX5_init_15 : decode cX5_init 15 = .ok (.aload_n 0, 1) := by decide +kernel
theorem dX5_init_16 : decode cX5_init 16 = .ok (.new 16, 3) := by decide +kernel
theorem dX5_init_19 : decode cX5_init 19 = .ok (.dup, 1) := by decide +kernel
theorem dX5_init_20 : decode cX5_init 20 = .ok (.invokespecial 18, 3) := by decide +kernel
theorem dX5_init_23 : decode cX5_init 23 = .ok (.putfield 19, 3) := by decide +kernel
theorem dX5_init_26 : decode cX5_init 26 = .ok (.aload_n 0, 1) := by decide +kernel
theorem dX5_init_27 : decode cX5_init 27 = .ok (.iconst 3, 1) := by decide +kernel
theorem dX5_init_28 : decode cX5_init 28 = .ok (.anewarray 23, 3) := by decide +kernel
theorem dX5_init_31 : decode cX5_init 31 = .ok (.putfield 25, 3) := by decide +kernel
theorem dX5_init_34 : decode cX5_init 34 = .ok (.aload_n 0, 1) := by decide +kernel
theorem dX5_init_35 : decode cX5_init 35 = .ok (.bipush 8, 2) := by decide +kernel
theorem dX5_init_37 : decode cX5_init 37 = .ok (.anewarray 29, 3) := by decide +kernel
theorem dX5_init_40 : decode cX5_init 40 = .ok (.putfield 31, 3) := by decide +kernel
theorem dX5_init_43 : decode cX5_init 43 = .ok (.aload_n 0, 1) := by decide +kernel
theorem dX5_init_44 : decode cX5_init 44 = .ok (.new 35, 3) := by decide +kernel
theorem dX5_init_47 : decode cX5_init 47 = .ok (.dup, 1) := by decide +kernel
theorem dX5_init_48 : decode cX5_init 48 = .ok (.invokespecial 37, 3) := by decide +kernel
theorem dX5_init_51 : decode cX5_init 51 = .ok (.putfield 38, 3) := by decide +kernel
theorem dX5_init_54 : decode cX5_init 54 = .ok (.aload_n 0, 1) := by decide +kernel
theorem dX5_init_55 : decode cX5_init 55 = .ok (.iconst 3, 1) := by decide +kernel
theorem dX5_init_56 : decode cX5_init 56 = .ok (.newarray .int, 2) := by decide +kernel
theorem dX5_init_58 : decode cX5_init 58 = .ok (.putfield 42, 3) := by decide +kernel
theorem dX5_init_61 : decode cX5_init 61 = .ok (.aload_n 0, 1) := by decide +kernel
theorem dX5_init_62 : decode cX5_init 62 = .ok (.iconst 3, 1) := by decide +kernel
theorem dX5_init_63 : decode cX5_init 63 = .ok (.newarray .int, 2) := by decide +kernel
theorem dX5_init_65 : decode cX5_init 65 = .ok (.putfield 46, 3) := by decide +kernel
theorem dX5_init_68 : decode cX5_init 68 = .ok (.aload_n 0, 1) := by decide +kernel
theorem dX5_init_69 : decode cX5_init 69 = .ok (.iconst 3, 1) := by decide +kernel
theorem dX5_init_70 : decode cX5_init 70 = .ok (.newarray .int, 2) := by decide +kernel
theorem dX5_init_72 : decode cX5_init 72 = .ok (.putfield 49, 3) := by decide +kernel
theorem dX5_init_75 : decode cX5_init 75 = .ok (.iconst 0, 1) := by decide +kernel
theorem dX5_init_76 : decode cX5_init 76 = .ok (.istore_n 1, 1) := by decide +kernel
theorem dX5_init_77 : decode cX5_init 77 = .ok (.iload_n 1, 1) := by decide +kernel
theorem dX5_init_78 : decode cX5_init 78 = .ok (.iconst 3, 1) := by decide +kernel
theorem dX5_init_79 : decode cX5_init 79 = .ok (.if_icmp .ge 22, 3) := by decide +kernel
theorem dX5_init_82 : decode cX5_init 82 = .ok (.aload_n 0, 1) := by decide +kernel
theorem dX5_init_83 : decode cX5_init 83 = .ok (.getfield 25, 3) := by decide +kernel
theorem dX5_init_86 : decode cX5_init 86 = .ok (.iload_n 1, 1) := by decide +kernel
theorem dX5_init_87 : decode cX5_init 87 = .ok (.new 23, 3) := by decide +kernel
theorem dX5_init_90 : decode cX5_init 90 = .ok (.dup, 1) := by decide +kernel
theorem dX5_init_91 : decode cX5_init 91 = .ok (.invokespecial 52, 3) := by decide +kernel
theorem dX5_init_94 : decode cX5_init 94 = .ok (.aastore, 1) := by decide +kernel
theorem dX5_init_95 : decode cX5_init 95 = .ok (.iinc 1 1, 3) := by decide +kernel
theorem dX5_init_98 : decode cX5_init 98 = .ok (.goto (-21), 3) := by decide +kernel
theorem dX5_init_101 : decode cX5_init 101 = .ok (.iconst 0, 1) := by decide +kernel
theorem dX5_init_102 : decode cX5_init 102 = .ok (.istore_n 1, 1) := by decide +kernel
theorem dX5_init_103 : decode cX5_init 103 = .ok (.iload_n 1, 1) := by decide +kernel
theorem dX5_init_104 : decode cX5_init 104 = .ok (.bipush 8, 2) := by decide +kernel
theorem dX5_init_106 : decode cX5_init 106 = .ok (.if_icmp .ge 22, 3) := by decide +kernel
theorem dX5_init_109 : decode cX5_init 109 = .ok (.aload_n 0, 1) := by decide +kernel
theorem dX5_init_110 : decode cX5_init 110 = .ok (.getfield 31, 3) := by decide +kernel
theorem dX5_init_113 : decode cX5_init 113 = .ok (.iload_n 1, 1) := by decide +kernel
theorem dX5_init_114 : decode cX5_init 114 = .ok (.new 29, 3) := by decide +kernel
theorem dX5_init_117 : decode cX5_init 117 = .ok (.dup, 1) := by decide +kernel
theorem dX5_init_118 : decode cX5_init 118 = .ok (.invokespecial 53, 3) := by decide +kernel
theorem dX5_init_121 : decode cX5_init 121 = .ok (.aastore, 1) := by decide +kernel
theorem dX5_init_122 : decode cX5_init 122 = .ok (.iinc 1 1, 3) := by decide +kernel
theorem dX5_init_125 : decode cX5_init 125 = .ok (.goto (-22), 3) := by decide +kernel
theorem dX5_init_128 : decode cX5_init 128 = .ok (.return_, 1) := by decide +kernel
set_option maxRecDepth 20000 in
theorem ggX5_setBottle_X5_isWithin : GoodIn wsX5_setBottle wsX5_isWithin := goodIn_r _ [14] (by decide +kernel) (by decide +kernel)
set_option maxRecDepth 20000 in
theorem gX5_setBottle_X5_isWithin : GoodIn wsX5_setBottle (va_wsS RX5 54 yX5_isWithin wsX5_isWithin) := goodIn_app (goodIn_of _ (by decide +kernel)) ggX5_setBottle_X5_isWithin
theorem dX5_setBottle_0 : decode cX5_setBottle 0 = .ok (.iload_n 1, 1) := by decide +kernel
theorem dX5_setBottle_1 : decode cX5_setBottle 1 = .ok (.iconst 1, 1) := by decide +kernel
theorem dX5_setBottle_2 : decode cX5_setBottle 2 = .ok (.bipush 20, 2) := by decide +kernel
theorem dX5_setBottle_4 : decode cX5_setBottle 4 = .ok (.invokestatic 54, 3) := by decide +kernel
theorem dX5_setBottle_7 : decode cX5_setBottle 7 = .ok (.ifCond .eq 35, 3) := by decide +kernel
theorem dX5_setBottle_10 : decode cX5_setBottle 10 = .ok (.iload_n 2, 1) := by decide +kernel
theorem dX5_setBottle_11 : decode cX5_setBottle 11 = .ok (.iconst 5, 1) := by decide +kernel
theorem dX5_setBottle_12 : decode cX5_setBottle 12 = .ok (.bipush 60, 2) := by decide +kernel
theorem dX5_setBottle_14 : decode cX5_setBottle 14 = .ok (.invokestatic 54, 3) := by decide +kernel
theorem dX5_setBottle_17 : decode cX5_setBottle 17 = .ok (.ifCond .eq 25, 3) := by decide +kernel
theorem dX5_setBottle_20 : decode cX5_setBottle 20 = .ok (.iload_n 3, 1) := by decide +kernel
theorem dX5_setBottle_21 : decode cX5_setBottle 21 = .ok (.bipush 10, 2) := by decide +kernel
theorem dX5_setBottle_23 : decode cX5_setBottle 23 = .ok (.bipush 90, 2) := by decide +kernel
theorem dX5_setBottle_25 : decode cX5_setBottle 25 = .ok (.invokestatic 54, 3) := by decide +kernel
theorem dX5_setBottle_28 : decode cX5_setBottle 28 = .ok (.ifCond .eq 14, 3) := by decide +kernel
theorem dX5_setBottle_31 : decode cX5_setBottle 31 = .ok (.iload 4, 2) := by decide +kernel
theorem dX5_setBottle_33 : decode cX5_setBottle 33 = .ok (.iconst 0, 1) := by decide +kernel
theorem dX5_setBottle_34 : decode cX5_setBottle 34 = .ok (.bipush 20, 2) := by decide +kernel
theorem dX5_setBottle_36 : decode cX5_setBottle 36 = .ok (.invokestatic 54, 3) := by decide +kernel
theorem dX5_setBottle_39 : decode cX5_setBottle 39 = .ok (.ifCond .ne 13, 3) := by decide +kernel
theorem dX5_setBottle_42 : decode cX5_setBottle 42 = .ok (.new 58, 3) := by decide +kernel
theorem dX5_setBottle_45 : decode cX5_setBottle 45 = .ok (.dup, 1) := by decide +kernel
theorem dX5_setBottle_46 : decode cX5_setBottle 46 = .ok (.ldc 60, 2) := by decide +kernel
theorem dX5_setBottle_48 : decode cX5_setBottle 48 = .ok (.invokespecial 62, 3) := by decide +kernel
theorem dX5_setBottle_51 : decode cX5_setBottle 51 = .ok (.athrow, 1) := by decide +kernel
theorem dX5_setBottle_52 : decode cX5_setBottle 52 = .ok (.aload_n 0, 1) := by decide +kernel
theorem dX5_setBottle_53 : decode cX5_setBottle 53 = .ok (.getfield 65, 3) := by decide +kernel
theorem dX5_setBottle_56 : decode cX5_setBottle 56 = .ok (.ifCond .eq 13, 3) := by decide +kernel
theorem dX5_setBottle_59 : decode cX5_setBottle 59 = .ok (.new 69, 3) := by decide +kernel
theorem dX5_setBottle_62 : decode cX5_setBottle 62 = .ok (.dup, 1) := by decide +kernel
theorem dX5_setBottle_63 : decode cX5_setBottle 63 = .ok (.ldc 71, 2) := by decide +kernel
theorem dX5_setBottle_65 : decode cX5_setBottle 65 = .ok (.invokespecial 73, 3) := by decide +kernel
theorem dX5_setBottle_68 : decode cX5_setBottle 68 = .ok (.athrow, 1) := by decide +kernel
theorem dX5_setBottle_69 : decode cX5_setBottle 69 = .ok (.aload_n 0, 1) := by decide +kernel
theorem dX5_setBottle_70 : decode cX5_setBottle 70 = .ok (.getfield 10, 3) := by decide +kernel
theorem dX5_setBottle_73 : decode cX5_setBottle 73 = .ok (.getfield 74, 3) := by decide +kernel
theorem dX5_setBottle_76 : decode cX5_setBottle 76 = .ok (.istore 5, 2) := by decide +kernel
theorem dX5_setBottle_78 : decode cX5_setBottle 78 = .ok (.aload_n 0, 1) := by decide +kernel
theorem dX5_setBottle_79 : decode cX5_setBottle 79 = .ok (.getfield 10, 3) := by decide +kernel
theorem dX5_setBottle_82 : decode cX5_setBottle 82 = .ok (.iload_n 1, 1) := by decide +kernel
theorem dX5_setBottle_83 : decode cX5_setBottle 83 = .ok (.putfield 74, 3) := by decide +kernel
theorem dX5_setBottle_86 : decode cX5_setBottle 86 = .ok (.aload_n 0, 1) := by decide +kernel
theorem dX5_setBottle_87 : decode cX5_setBottle 87 = .ok (.getfield 10, 3) := by decide +kernel
theorem dX5_setBottle_90 : decode cX5_setBottle 90 = .ok (.iload_n 2, 1) := by decide +kernel
theorem dX5_setBottle_91 : decode cX5_setBottle 91 = .ok (.putfield 78, 3) := by decide +kernel
theorem dX5_setBottle_94 : decode cX5_setBottle 94 = .ok (.aload_n 0, 1) := by decide +kernel
theorem dX5_setBottle_95 : decode cX5_setBottle 95 = .ok (.getfield 10, 3) := by decide +kernel
theorem dX5_setBottle_98 : decode cX5_setBottle 98 = .ok (.iload_n 3, 1) := by decide +kernel
theorem dX5_setBottle_99 : decode cX5_setBottle 99 = .ok (.putfield 81, 3) := by decide +kernel
theorem dX5_setBottle_102 : decode cX5_setBottle 102 = .ok (.aload_n 0, 1) := by decide +kernel
theorem dX5_setBottle_103 : decode cX5_setBottle 103 = .ok (.getfield 10, 3) := by decide +kernel
theorem dX5_setBottle_106 : decode cX5_setBottle 106 = .ok (.iload 4, 2) := by decide +kernel
theorem dX5_setBottle_108 : decode cX5_setBottle 108 = .ok (.putfield 84, 3) := by decide +kernel
theorem dX5_setBottle_111 : decode cX5_setBottle 111 = .ok (.iload 5, 2) := by decide +kernel
theorem dX5_setBottle_113 : decode cX5_setBottle 113 = .ok (.ireturn, 1) := by decide +kernel
set_option maxRecDepth 20000 in
theorem ggX5_setHull_X5_isWithin : GoodIn wsX5_setHull wsX5_isWithin := goodIn_r _ [14] (by decide +kernel) (by decide +kernel)
set_option maxRecDepth 20000 in
theorem gX5_setHull_X5_isWithin : GoodIn wsX5_setHull (va_wsS RX5 54 yX5_isWithin wsX5_isWithin) := goodIn_app (goodIn_of _ (by decide +kernel)) ggX5_setHull_X5_isWithin
theorem dX5_setHull_0 : decode cX5_setHull 0 = .ok (.iload_n 1, 1) := by decide +kernel
theorem dX5_setHull_1 : decode cX5_setHull 1 = .ok (.iconst 5, 1) := by decide +kernel
theorem dX5_setHull_2 : decode cX5_setHull 2 = .ok (.bipush 80, 2) := by decide +kernel
theorem dX5_setHull_4 : decode cX5_setHull 4 = .ok (.invokestatic 54, 3) := by decide +kernel
theorem dX5_setHull_7 : decode cX5_setHull 7 = .ok (.ifCond .eq 23, 3) := by decide +kernel
theorem dX5_setHull_10 : decode cX5_setHull 10 = .ok (.iload_n 2, 1) := by decide +kernel
theorem dX5_setHull_11 : decode cX5_setHull 11 = .ok (.iconst 1, 1) := by decide +kernel
theorem dX5_setHull_12 : decode cX5_setHull 12 = .ok (.bipush 15, 2) := by decide +kernel
theorem dX5_setHull_14 : decode cX5_setHull 14 = .ok (.invokestatic 54, 3) := by decide +kernel
theorem dX5_setHull_17 : decode cX5_setHull 17 = .ok (.ifCond .eq 13, 3) := by decide +kernel
theorem dX5_setHull_20 : decode cX5_setHull 20 = .ok (.iload_n 3, 1) := by decide +kernel
theorem dX5_setHull_21 : decode cX5_setHull 21 = .ok (.iconst 1, 1) := by decide +kernel
theorem dX5_setHull_22 : decode cX5_setHull 22 = .ok (.bipush 15, 2) := by decide +kernel
theorem dX5_setHull_24 : decode cX5_setHull 24 = .ok (.invokestatic 54, 3) := by decide +kernel
theorem dX5_setHull_27 : decode cX5_setHull 27 = .ok (.ifCond .ne 13, 3) := by decide +kernel
theorem dX5_setHull_30 : decode cX5_setHull 30 = .ok (.new 58, 3) := by decide +kernel
theorem dX5_setHull_33 : decode cX5_setHull 33 = .ok (.dup, 1) := by decide +kernel
theorem dX5_setHull_34 : decode cX5_setHull 34 = .ok (.ldc 87, 2) := by decide +kernel
theorem dX5_setHull_36 : decode cX5_setHull 36 = .ok (.invokespecial 62, 3) := by decide +kernel
theorem dX5_setHull_39 : decode cX5_setHull 39 = .ok (.athrow, 1) := by decide +kernel
theorem dX5_setHull_40 : decode cX5_setHull 40 = .ok (.aload_n 0, 1) := by decide +kernel
theorem dX5_setHull_41 : decode cX5_setHull 41 = .ok (.getfield 89, 3) := by decide +kernel
theorem dX5_setHull_44 : decode cX5_setHull 44 = .ok (.ifCond .gt 10, 3) := by decide +kernel
theorem dX5_setHull_47 : decode cX5_setHull 47 = .ok (.aload_n 0, 1) := by decide +kernel
theorem dX5_setHull_48 : decode cX5_setHull 48 = .ok (.getfield 65, 3) := by decide +kernel
theorem dX5_setHull_51 : decode cX5_setHull 51 = .ok (.ifCond .eq 13, 3) := by decide +kernel
theorem dX5_setHull_54 : decode cX5_setHull 54 = .ok (.new 69, 3) := by decide +kernel
theorem dX5_setHull_57 : decode cX5_setHull 57 = .ok (.dup, 1) := by decide +kernel
theorem dX5_setHull_58 : decode cX5_setHull 58 = .ok (.ldc 92, 2) := by decide +kernel
theorem dX5_setHull_60 : decode cX5_setHull 60 = .ok (.invokespecial 73, 3) := by decide +kernel
theorem dX5_setHull_63 : decode cX5_setHull 63 = .ok (.athrow, 1) := by decide +kernel
theorem dX5_setHull_64 : decode cX5_setHull 64 = .ok (.aload_n 0, 1) := by decide +kernel
theorem dX5_setHull_65 : decode cX5_setHull 65 = .ok (.getfield 19, 3) := by decide +kernel
theorem dX5_setHull_68 : decode cX5_setHull 68 = .ok (.getfield 94, 3) := by decide +kernel
theorem dX5_setHull_71 : decode cX5_setHull 71 = .ok (.istore 4, 2) := by decide +kernel
theorem dX5_setHull_73 : decode cX5_setHull 73 = .ok (.aload_n 0, 1) := by decide +kernel
theorem dX5_setHull_74 : decode cX5_setHull 74 = .ok (.getfield 19, 3) := by decide +kernel
theorem dX5_setHull_77 : decode cX5_setHull 77 = .ok (.iload_n 1, 1) := by decide +kernel
theorem dX5_setHull_78 : decode cX5_setHull 78 = .ok (.putfield 94, 3) := by decide +kernel
theorem dX5_setHull_81 : decode cX5_setHull 81 = .ok (.aload_n 0, 1) := by decide +kernel
theorem dX5_setHull_82 : decode cX5_setHull 82 = .ok (.getfield 19, 3) := by decide +kernel
theorem dX5_setHull_85 : decode cX5_setHull 85 = .ok (.iload_n 2, 1) := by decide +kernel
theorem dX5_setHull_86 : decode cX5_setHull 86 = .ok (.putfield 95, 3) := by decide +kernel
theorem dX5_setHull_89 : decode cX5_setHull 89 = .ok (.aload_n 0, 1) := by decide +kernel
theorem dX5_setHull_90 : decode cX5_setHull 90 = .ok (.getfield 19, 3) := by decide +kernel
theorem dX5_setHull_93 : decode cX5_setHull 93 = .ok (.iload_n 3, 1) := by decide +kernel
theorem dX5_setHull_94 : decode cX5_setHull 94 = .ok (.putfield 98, 3) := by decide +kernel
theorem dX5_setHull_97 : decode cX5_setHull 97 = .ok (.iload 4, 2) := by decide +kernel
theorem dX5_setHull_99 : decode cX5_setHull 99 = .ok (.ireturn, 1) := by decide +kernel
set_option maxRecDepth 20000 in
theorem ggX5_step_X5_isWithin : GoodIn wsX5_step wsX5_isWithin := goodIn_r _ [16] (by decide +kernel) (by decide +kernel)
set_option maxRecDepth 20000 in
theorem gX5_step_X5_isWithin : GoodIn wsX5_step (va_wsS RX5 54 yX5_isWithin wsX5_isWithin) := goodIn_app (goodIn_of _ (by decide +kernel)) ggX5_step_X5_isWithin
set_option maxRecDepth 20000 in
theorem ggX5_step_X5_hasMastAt : GoodIn wsX5_step wsX5_hasMastAt := goodIn_r _ [20, 8, 9, 10, 21, 22, 23, 24, 25, 26, 27, 28, 29, 30, 31, 32, 33, 34, 38, 39, 40, 41] (by decide +kernel) (by decide +kernel)
set_option maxRecDepth 20000 in
theorem gX5_step_X5_hasMastAt : GoodIn wsX5_step (wsV RX5 103 RX5 yX5_hasMastAt wsX5_hasMastAt) := goodIn_app (goodIn_of _ (by decide +kernel)) ggX5_step_X5_hasMastAt
theorem dX5_step_0 : decode cX5_step 0 = .ok (.iload_n 1, 1) := by decide +kernel
theorem dX5_step_1 : decode cX5_step 1 = .ok (.iconst 0, 1) := by decide +kernel
theorem dX5_step_2 : decode cX5_step 2 = .ok (.aload_n 0, 1) := by decide +kernel
theorem dX5_step_3 : decode cX5_step 3 = .ok (.getfield 19, 3) := by decide +kernel
theorem dX5_step_6 : decode cX5_step 6 = .ok (.getfield 94, 3) := by decide +kernel
theorem dX5_step_9 : decode cX5_step 9 = .ok (.invokestatic 54, 3) := by decide +kernel
theorem dX5_step_12 : decode cX5_step 12 = .ok (.ifCond .eq 13, 3) := by decide +kernel
theorem dX5_step_15 : decode cX5_step 15 = .ok (.iload_n 2, 1) := by decide +kernel
theorem dX5_step_16 : decode cX5_step 16 = .ok (.iconst 1, 1) := by decide +kernel
theorem dX5_step_17 : decode cX5_step 17 = .ok (.bipush 50, 2) := by decide +kernel
theorem dX5_step_19 : decode cX5_step 19 = .ok (.invokestatic 54, 3) := by decide +kernel
