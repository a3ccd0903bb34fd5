theorem dX0_numberAt_9 : decode cX0_numberAt 9 = .ok (.lconst 0, 1) := by decide +kernel
theorem dX0_numberAt_10 : decode cX0_numberAt 10 = .ok (.goto 9, 3) := by decide +kernel
theorem dX0_numberAt_13 : decode cX0_numberAt 13 = .ok (.aload_n 0, 1) := by decide +kernel
theorem dX0_numberAt_14 : decode cX0_numberAt 14 = .ok (.getfield 9, 3) := by decide +kernel
theorem dX0_numberAt_17 : decode cX0_numberAt 17 = .ok (.iload_n 1, 1) := by decide +kernel
theorem dX0_numberAt_18 : decode cX0_numberAt 18 = .ok (.laload, 1) := by decide +kernel
theorem dX0_numberAt_19 : decode cX0_numberAt 19 = .ok (.lreturn, 1) := by decide +kernel
theorem dX1_init_0 : decode cX1_init 0 = .ok (.aload_n 0, 1) := by decide +kernel
theorem dX1_init_1 : decode cX1_init 1 = .ok (.invokespecial 3, 3) := by decide +kernel
theorem dX1_init_4 : decode cX1_init 4 = .ok (.aload_n 0, 1) := by decide +kernel
theorem dX1_init_5 : decode cX1_init 5 = .ok (.bipush 6, 2) := by decide +kernel
theorem dX1_init_7 : decode cX1_init 7 = .ok (.newarray .long, 2) := by decide +kernel
theorem dX1_init_9 : decode cX1_init 9 = .ok (.putfield 9, 3) := by decide +kernel
theorem dX1_init_12 : decode cX1_init 12 = .ok (.aload_n 0, 1) := by decide +kernel
theorem dX1_init_13 : decode cX1_init 13 = .ok (.iconst 4, 1) := by decide +kernel
theorem dX1_init_14 : decode cX1_init 14 = .ok (.newarray .long, 2) := by decide +kernel
theorem dX1_init_16 : decode cX1_init 16 = .ok (.putfield 15, 3) := by decide +kernel
theorem dX1_init_19 : decode cX1_init 19 = .ok (.aload_n 0, 1) := by decide +kernel
theorem dX1_init_20 : decode cX1_init 20 = .ok (.ldc2_w 18, 3) := by decide +kernel
theorem dX1_init_23 : decode cX1_init 23 = .ok (.putfield 20, 3) := by decide +kernel
theorem dX1_init_26 : decode cX1_init 26 = .ok (.return_, 1) := by decide +kernel
set_option maxRecDepth 20000 in
theorem ggX1_forwardDraft_J9_floorDiv_f86c9 : GoodIn wsX1_forwardDraft wsJ9_floorDiv_f86c9 := goodIn_r _ [6] (by decide +kernel) (by decide +kernel)
set_option maxRecDepth 20000 in
theorem gX1_forwardDraft_J9_floorDiv_f86c9 : GoodIn wsX1_forwardDraft (va_wsS RX1 26 yJ9_floorDiv_f86c9 wsJ9_floorDiv_f86c9) := goodIn_app (goodIn_of _ (by decide +kernel)) ggX1_forwardDraft_J9_floorDiv_f86c9
theorem dX1_forwardDraft_0 : decode cX1_forwardDraft 0 = .ok (.aload_n 0, 1) := by decide +kernel
theorem dX1_forwardDraft_1 : decode cX1_forwardDraft 1 = .ok (.getfield 9, 3) := by decide +kernel
theorem dX1_forwardDraft_4 : decode cX1_forwardDraft 4 = .ok (.iconst 0, 1) := by decide +kernel
theorem dX1_forwardDraft_5 : decode cX1_forwardDraft 5 = .ok (.laload, 1) := by decide +kernel
theorem dX1_forwardDraft_6 : decode cX1_forwardDraft 6 = .ok (.aload_n 0, 1) := by decide +kernel
theorem dX1_forwardDraft_7 : decode cX1_forwardDraft 7 = .ok (.getfield 9, 3) := by decide +kernel
theorem dX1_forwardDraft_10 : decode cX1_forwardDraft 10 = .ok (.iconst 1, 1) := by decide +kernel
theorem dX1_forwardDraft_11 : decode cX1_forwardDraft 11 = .ok (.laload, 1) := by decide +kernel
theorem dX1_forwardDraft_12 : decode cX1_forwardDraft 12 = .ok (.ladd, 1) := by decide +kernel
theorem dX1_forwardDraft_13 : decode cX1_forwardDraft 13 = .ok (.ldc2_w 24, 3) := by decide +kernel
theorem dX1_forwardDraft_16 : decode cX1_forwardDraft 16 = .ok (.invokestatic 26, 3) := by decide +kernel
theorem dX1_forwardDraft_19 : decode cX1_forwardDraft 19 = .ok (.lreturn, 1) := by decide +kernel
set_option maxRecDepth 20000 in
theorem ggX1_midshipDraft_J9_floorDiv_f86c9 : GoodIn wsX1_midshipDraft wsJ9_floorDiv_f86c9 := goodIn_r _ [6] (by decide +kernel) (by decide +kernel)
set_option maxRecDepth 20000 in
theorem gX1_midshipDraft_J9_floorDiv_f86c9 : GoodIn wsX1_midshipDraft (va_wsS RX1 26 yJ9_floorDiv_f86c9 wsJ9_floorDiv_f86c9) := goodIn_app (goodIn_of _ (by decide +kernel)) ggX1_midshipDraft_J9_floorDiv_f86c9
theorem dX1_midshipDraft_0 : decode cX1_midshipDraft 0 = .ok (.aload_n 0, 1) := by decide +kernel
theorem dX1_midshipDraft_1 : decode cX1_midshipDraft 1 = .ok (.getfield 9, 3) := by decide +kernel
theorem dX1_midshipDraft_4 : decode cX1_midshipDraft 4 = .ok (.iconst 2, 1) := by decide +kernel
theorem dX1_midshipDraft_5 : decode cX1_midshipDraft 5 = .ok (.laload, 1) := by decide +kernel
theorem dX1_midshipDraft_6 : decode cX1_midshipDraft 6 = .ok (.aload_n 0, 1) := by decide +kernel
theorem dX1_midshipDraft_7 : decode cX1_midshipDraft 7 = .ok (.getfield 9, 3) := by decide +kernel
theorem dX1_midshipDraft_10 : decode cX1_midshipDraft 10 = .ok (.iconst 3, 1) := by decide +kernel
theorem dX1_midshipDraft_11 : decode cX1_midshipDraft 11 = .ok (.laload, 1) := by decide +kernel
theorem dX1_midshipDraft_12 : decode cX1_midshipDraft 12 = .ok (.ladd, 1) := by decide +kernel
theorem dX1_midshipDraft_13 : decode cX1_midshipDraft 13 = .ok (.ldc2_w 24, 3) := by decide +kernel
theorem dX1_midshipDraft_16 : decode cX1_midshipDraft 16 = .ok (.invokestatic 26, 3) := by decide +kernel
theorem dX1_midshipDraft_19 : decode cX1_midshipDraft 19 = .ok (.lreturn, 1) := by decide +kernel
set_option maxRecDepth 20000 in
theorem ggX1_aftDraft_J9_floorDiv_f86c9 : GoodIn wsX1_aftDraft wsJ9_floorDiv_f86c9 := goodIn_r _ [6] (by decide +kernel) (by decide +kernel)
set_option maxRecDepth 20000 in
theorem gX1_aftDraft_J9_floorDiv_f86c9 : GoodIn wsX1_aftDraft (va_wsS RX1 26 yJ9_floorDiv_f86c9 wsJ9_floorDiv_f86c9) := goodIn_app (goodIn_of _ (by decide +kernel)) ggX1_aftDraft_J9_floorDiv_f86c9
theorem dX1_aftDraft_0 : decode cX1_aftDraft 0 = .ok (.aload_n 0, 1) := by decide +kernel
theorem dX1_aftDraft_1 : decode cX1_aftDraft 1 = .ok (.getfield 9, 3) := by decide +kernel
theorem dX1_aftDraft_4 : decode cX1_aftDraft 4 = .ok (.iconst 4, 1) := by decide +kernel
theorem dX1_aftDraft_5 : decode cX1_aftDraft 5 = .ok (.laload, 1) := by decide +kernel
theorem dX1_aftDraft_6 : decode cX1_aftDraft 6 = .ok (.aload_n 0, 1) := by decide +kernel
theorem dX1_aftDraft_7 : decode cX1_aftDraft 7 = .ok (.getfield 9, 3) := by decide +kernel
theorem dX1_aftDraft_10 : decode cX1_aftDraft 10 = .ok (.iconst 5, 1) := by decide +kernel
theorem dX1_aftDraft_11 : decode cX1_aftDraft 11 = .ok (.laload, 1) := by decide +kernel
theorem dX1_aftDraft_12 : decode cX1_aftDraft 12 = .ok (.ladd, 1) := by decide +kernel
theorem dX1_aftDraft_13 : decode cX1_aftDraft 13 = .ok (.ldc2_w 24, 3) := by decide +kernel
theorem dX1_aftDraft_16 : decode cX1_aftDraft 16 = .ok (.invokestatic 26, 3) := by decide +kernel
theorem dX1_aftDraft_19 : decode cX1_aftDraft 19 = .ok (.lreturn, 1) := by decide +kernel
set_option maxRecDepth 20000 in
theorem ggX1_sternTrim_X1_aftDraft : GoodIn wsX1_sternTrim wsX1_aftDraft := goodIn_r _ [5, 6, 7, 8, 9, 10, 11, 16, 17, 18] (by decide +kernel) (by decide +kernel)
set_option maxRecDepth 20000 in
theorem gX1_sternTrim_X1_aftDraft : GoodIn wsX1_sternTrim (wsV RX1 32 RX1 yX1_aftDraft wsX1_aftDraft) := goodIn_app (goodIn_of _ (by decide +kernel)) ggX1_sternTrim_X1_aftDraft
set_option maxRecDepth 20000 in
theorem ggX1_sternTrim_X1_forwardDraft : GoodIn wsX1_sternTrim wsX1_forwardDraft := goodIn_r _ [15, 6, 7, 8, 9, 10, 11, 16, 17, 18] (by decide +kernel) (by decide +kernel)
set_option maxRecDepth 20000 in
theorem gX1_sternTrim_X1_forwardDraft : GoodIn wsX1_sternTrim (wsV RX1 36 RX1 yX1_forwardDraft wsX1_forwardDraft) := goodIn_app (goodIn_of _ (by decide +kernel)) ggX1_sternTrim_X1_forwardDraft
theorem dX1_sternTrim_0 : decode cX1_sternTrim 0 = .ok (.aload_n 0, 1) := by decide +kernel
theorem dX1_sternTrim_1 : decode cX1_sternTrim 1 = .ok (.invokevirtual 32, 3) := by decide +kernel
theorem dX1_sternTrim_4 : decode cX1_sternTrim 4 = .ok (.aload_n 0, 1) := by decide +kernel
theorem dX1_sternTrim_5 : decode cX1_sternTrim 5 = .ok (.invokevirtual 36, 3) := by decide +kernel
theorem dX1_sternTrim_8 : decode cX1_sternTrim 8 = .ok (.lsub, 1) := by decide +kernel
theorem dX1_sternTrim_9 : decode cX1_sternTrim 9 = .ok (.lreturn, 1) := by decide +kernel
set_option maxRecDepth 20000 in
theorem ggX1_hullDeflection_X1_midshipDraft : GoodIn wsX1_hullDeflection wsX1_midshipDraft := goodIn_r _ [6, 7, 1, 8, 9, 10, 11, 20, 21, 22] (by decide +kernel) (by decide +kernel)
set_option maxRecDepth 20000 in
theorem gX1_hullDeflection_X1_midshipDraft : GoodIn wsX1_hullDeflection (wsV RX1 39 RX1 yX1_midshipDraft wsX1_midshipDraft) := goodIn_app (goodIn_of _ (by decide +kernel)) ggX1_hullDeflection_X1_midshipDraft
set_option maxRecDepth 20000 in
theorem ggX1_hullDeflection_X1_forwardDraft : GoodIn wsX1_hullDeflection wsX1_forwardDraft := goodIn_r _ [15, 7, 1, 8, 9, 10, 11, 20, 21, 22] (by decide +kernel) (by decide +kernel)
set_option maxRecDepth 20000 in
theorem gX1_hullDeflection_X1_forwardDraft : GoodIn wsX1_hullDeflection (wsV RX1 36 RX1 yX1_forwardDraft wsX1_forwardDraft) := goodIn_app (goodIn_of _ (by decide +kernel)) ggX1_hullDeflection_X1_forwardDraft
set_option maxRecDepth 20000 in
theorem ggX1_hullDeflection_X1_aftDraft : GoodIn wsX1_hullDeflection wsX1_aftDraft := goodIn_r _ [19, 7, 1, 8, 9, 10, 11, 20, 21, 22] (by decide +kernel) (by decide +kernel)
set_option maxRecDepth 20000 in
theorem gX1_hullDeflection_X1_aftDraft : GoodIn wsX1_hullDeflection (wsV RX1 32 RX1 yX1_aftDraft wsX1_aftDraft) := goodIn_app (goodIn_of _ (by decide +kernel)) ggX1_hullDeflection_X1_aftDraft
set_option maxRecDepth 20000 in
theorem ggX1_hullDeflection_J9_floorDiv_f86c9 : GoodIn wsX1_hullDeflection wsJ9_floorDiv_f86c9 := goodIn_r _ [11] (by decide +kernel) (by decide +kernel)
set_option maxRecDepth 20000 in
theorem gX1_hullDeflection_J9_floorDiv_f86c9 : GoodIn wsX1_hullDeflection (va_wsS RX1 26 yJ9_floorDiv_f86c9 wsJ9_floorDiv_f86c9) := goodIn_app (goodIn_of _ (by decide +kernel)) ggX1_hullDeflection_J9_floorDiv_f86c9
theorem dX1_hullDeflection_0 : decode cX1_hullDeflection 0 = .ok (.aload_n 0, 1) := by decide +kernel
theorem dX1_hullDeflection_1 : decode cX1_hullDeflection 1 = .ok (.invokevirtual 39, 3) := by decide +kernel
theorem dX1_hullDeflection_4 : decode cX1_hullDeflection 4 = .ok (.aload_n 0, 1) := by decide +kernel
theorem dX1_hullDeflection_5 : decode cX1_hullDeflection 5 = .ok (.invokevirtual 36, 3) := by decide +kernel
theorem dX1_hullDeflection_8 : decode cX1_hullDeflection 8 = .ok (.aload_n 0, 1) := by decide +kernel
theorem dX1_hullDeflection_9 : decode cX1_hullDeflection 9 = .ok (.invokevirtual 32, 3) := by decide +kernel
theorem dX1_hullDeflection_12 : decode cX1_hullDeflection 12 = .ok (.ladd, 1) := by decide +kernel
theorem dX1_hullDeflection_13 : decode cX1_hullDeflection 13 = .ok (.ldc2_w 24, 3) := by decide +kernel
theorem dX1_hullDeflection_16 : decode cX1_hullDeflection 16 = .ok (.invokestatic 26, 3) := by decide +kernel
theorem dX1_hullDeflection_19 : decode cX1_hullDeflection 19 = .ok (.lsub, 1) := by decide +kernel
theorem dX1_hullDeflection_20 : decode cX1_hullDeflection 20 = .ok (.lreturn, 1) := by decide +kernel
theorem dX1_starboardHeel_0 : decode cX1_starboardHeel 0 = .ok (.aload_n 0, 1) := by decide +kernel
theorem dX1_starboardHeel_1 : decode cX1_starboardHeel 1 = .ok (.getfield 9, 3) := by decide +kernel
theorem dX1_starboardHeel_4 : decode cX1_starboardHeel 4 = .ok (.iconst 3, 1) := by decide +kernel
theorem dX1_starboardHeel_5 : decode cX1_starboardHeel 5 = .ok (.laload, 1) := by decide +kernel
theorem dX1_starboardHeel_6 : decode cX1_starboardHeel 6 = .ok (.aload_n 0, 1) := by decide +kernel
theorem dX1_starboardHeel_7 : decode cX1_starboardHeel 7 = .ok (.getfield 9, 3) := by decide +kernel
theorem dX1_starboardHeel_10 : decode cX1_starboardHeel 10 = .ok (.iconst 2, 1) := by decide +kernel
theorem dX1_starboardHeel_11 : decode cX1_starboardHeel 11 = .ok (.laload, 1) := by decide +kernel
theorem dX1_starboardHeel_12 : decode cX1_starboardHeel 12 = .ok (.lsub, 1) := by decide +kernel
theorem dX1_starboardHeel_13 : decode cX1_starboardHeel 13 = .ok (.lreturn, 1) := by decide +kernel
set_option maxRecDepth 20000 in
theorem ggX1_meanDraft_X1_forwardDraft : GoodIn wsX1_meanDraft wsX1_forwardDraft := goodIn_r _ [7, 8, 9, 10, 11, 12, 13, 22, 23, 24] (by decide +kernel) (by decide +kernel)
set_option maxRecDepth 20000 in
theorem gX1_meanDraft_X1_forwardDraft : GoodIn wsX1_meanDraft (wsV RX1 36 RX1 yX1_forwardDraft wsX1_forwardDraft) := goodIn_app (goodIn_of _ (by decide +kernel)) ggX1_meanDraft_X1_forwardDraft
set_option maxRecDepth 20000 in
theorem ggX1_meanDraft_X1_midshipDraft : GoodIn wsX1_meanDraft wsX1_midshipDraft := goodIn_r _ [17, 8, 9, 10, 11, 12, 13, 22, 23, 24] (by decide +kernel) (by decide +kernel)
set_option maxRecDepth 20000 in
theorem gX1_meanDraft_X1_midshipDraft : GoodIn wsX1_meanDraft (wsV RX1 39 RX1 yX1_midshipDraft wsX1_midshipDraft) := goodIn_app (goodIn_of _ (by decide +kernel)) ggX1_meanDraft_X1_midshipDraft
set_option maxRecDepth 20000 in
theorem ggX1_meanDraft_X1_aftDraft : GoodIn wsX1_meanDraft wsX1_aftDraft := goodIn_r _ [21, 8, 9, 10, 11, 12, 13, 22, 23, 24] (by decide +kernel) (by decide +kernel)
set_option maxRecDepth 20000 in
theorem gX1_meanDraft_X1_aftDraft : GoodIn wsX1_meanDraft (wsV RX1 32 RX1 yX1_aftDraft wsX1_aftDraft) := goodIn_app (goodIn_of _ (by decide +kernel)) ggX1_meanDraft_X1_aftDraft
set_option maxRecDepth 20000 in
theorem ggX1_meanDraft_J9_floorDiv_f86c9 : GoodIn wsX1_meanDraft wsJ9_floorDiv_f86c9 := goodIn_r _ [13] (by decide +kernel) (by decide +kernel)
set_option maxRecDepth 20000 in
theorem gX1_meanDraft_J9_floorDiv_f86c9 : GoodIn wsX1_meanDraft (va_wsS RX1 26 yJ9_floorDiv_f86c9 wsJ9_floorDiv_f86c9) := goodIn_app (goodIn_of _ (by decide +kernel)) ggX1_meanDraft_J9_floorDiv_f86c9
theorem dX1_meanDraft_0 : decode cX1_meanDraft 0 = .ok (.aload_n 0, 1) := by decide +kernel
theorem dX1_meanDraft_1 : decode cX1_meanDraft 1 = .ok (.invokevirtual 36, 3) := by decide +kernel
theorem dX1_meanDraft_4 : decode cX1_meanDraft 4 = .ok (.ldc2_w 42, 3) := by decide +kernel
theorem dX1_meanDraft_7 : decode cX1_meanDraft 7 = .ok (.aload_n 0, 1) := by decide +kernel
theorem dX1_meanDraft_8 : decode cX1_meanDraft 8 = .ok (.invokevirtual 39, 3) := by decide +kernel
theorem dX1_meanDraft_11 : decode cX1_meanDraft 11 = .ok (.lmul, 1) := by decide +kernel
theorem dX1_meanDraft_12 : decode cX1_meanDraft 12 = .ok (.ladd, 1) := by decide +kernel
theorem dX1_meanDraft_13 : decode cX1_meanDraft 13 = .ok (.aload_n 0, 1) := by decide +kernel
theorem dX1_meanDraft_14 : decode cX1_meanDraft 14 = .ok (.invokevirtual 32, 3) := by decide +kernel
theorem dX1_meanDraft_17 : decode cX1_meanDraft 17 = .ok (.ladd, 1) := by decide +kernel
theorem dX1_meanDraft_18 : decode cX1_meanDraft 18 = .ok (.ldc2_w 44, 3) := by decide +kernel
theorem dX1_meanDraft_21 : decode cX1_meanDraft 21 = .ok (.invokestatic 26, 3) := by decide +kernel
theorem dX1_meanDraft_24 : decode cX1_meanDraft 24 = .ok (.lreturn, 1) := by decide +kernel
theorem dX1_deducted_0 : decode cX1_deducted 0 = .ok (.lconst 0, 1) := by decide +kernel
theorem dX1_deducted_1 : decode cX1_deducted 1 = .ok (.lstore_n 1, 1) := by decide +kernel
theorem dX1_deducted_2 : decode cX1_deducted 2 = .ok (.iconst 0, 1) := by decide +kernel
theorem dX1_deducted_3 : decode cX1_deducted 3 = .ok (.istore_n 3, 1) := by decide +kernel
theorem dX1_deducted_4 : decode cX1_deducted 4 = .ok (.iload_n 3, 1) := by decide +kernel
theorem dX1_deducted_5 : decode cX1_deducted 5 = .ok (.iconst 4, 1) := by decide +kernel
theorem dX1_deducted_6 : decode cX1_deducted 6 = .ok (.if_icmp .ge 18, 3) := by decide +kernel
theorem dX1_deducted_9 : decode cX1_deducted 9 = .ok (.lload_n 1, 1) := by decide +kernel
theorem dX1_deducted_10 : decode cX1_deducted 10 = .ok (.aload_n 0, 1) := by decide +kernel
theorem dX1_deducted_11 : decode cX1_deducted 11 = .ok (.getfield 15, 3) := by decide +kernel
theorem dX1_deducted_14 : decode cX1_deducted 14 = .ok (.iload_n 3, 1) := by decide +kernel
theorem dX1_deducted_15 : decode cX1_deducted 15 = .ok (.laload, 1) := by decide +kernel
theorem dX1_deducted_16 : decode cX1_deducted 16 = .ok (.ladd, 1) := by decide +kernel
theorem dX1_deducted_17 : decode cX1_deducted 17 = .ok (.lstore_n 1, 1) := by decide +kernel
theorem dX1_deducted_18 : decode cX1_deducted 18 = .ok (.iinc 3 1, 3) := by decide +kernel
theorem dX1_deducted_21 : decode cX1_deducted 21 = .ok (.goto (-17), 3) := by decide +kernel
theorem dX1_deducted_24 : decode cX1_deducted 24 = .ok (.lload_n 1, 1) := by decide +kernel
theorem dX1_deducted_25 : decode cX1_deducted 25 = .ok (.lreturn, 1) := by decide +kernel
theorem dX2_init_0 : decode cX2_init 0 = .ok (.aload_n 0, 1) := by decide +kernel
theorem dX2_init_1 : decode cX2_init 1 = .ok (.invokespecial 3, 3) := by decide +kernel
theorem dX2_init_4 : decode cX2_init 4 = .ok (.aload_n 0, 1) := by decide +kernel
theorem dX2_init_5 : decode cX2_init 5 = .ok (.bipush 50, 2) := by decide +kernel
theorem dX2_init_7 : decode cX2_init 7 = .ok (.newarray .long, 2) := by decide +kernel
theorem dX2_init_9 : decode cX2_init 9 = .ok (.putfield 9, 3) := by decide +kernel
theorem dX2_init_12 : decode cX2_init 12 = .ok (.return_, 1) := by decide +kernel
theorem dX2_cell_0 : decode cX2_cell 0 = .ok (.iload_n 1, 1) := by decide +kernel
theorem dX2_cell_1 : decode cX2_cell 1 = .ok (.ifCond .lt 26, 3) := by decide +kernel
theorem dX2_cell_4 : decode cX2_cell 4 = .ok (.iload_n 1, 1) := by decide +kernel
theorem dX2_cell_5 : decode cX2_cell 5 = .ok (.aload_n 0, 1) := by decide +kernel
theorem dX2_cell_6 : decode cX2_cell 6 = .ok (.getfield 15, 3) := by decide +kernel
theorem dX2_cell_9 : decode cX2_cell 9 = .ok (.if_icmp .ge 18, 3) := by decide +kernel
theorem dX2_cell_12 : decode cX2_cell 12 = .ok (.iload_n 1, 1) := by decide +kernel
theorem dX2_cell_13 : decode cX2_cell 13 = .ok (.bipush 10, 2) := by decide +kernel
theorem dX2_cell_15 : decode cX2_cell 15 = .ok (.if_icmp .ge 12, 3) := by decide +kernel
theorem dX2_cell_18 : decode cX2_cell 18 = .ok (.iload_n 2, 1) := by decide +kernel
theorem dX2_cell_19 : decode cX2_cell 19 = .ok (.ifCond .lt 8, 3) := by decide +kernel
theorem dX2_cell_22 : decode cX2_cell 22 = .ok (.iload_n 2, 1) := by decide +kernel
theorem dX2_cell_23 : decode cX2_cell 23 = .ok (.iconst 5, 1) := by decide +kernel
theorem dX2_cell_24 : decode cX2_cell 24 = .ok (.if_icmp .lt 5, 3) := by decide +kernel
theorem dX2_cell_27 : decode cX2_cell 27 = .ok (.lconst 0, 1) := by decide +kernel
theorem dX2_cell_28 : decode cX2_cell 28 = .ok (.lreturn, 1) := by decide +kernel
theorem dX2_cell_29 : decode cX2_cell 29 = .ok (.aload_n 0, 1) := by decide +kernel
theorem dX2_cell_30 : decode cX2_cell 30 = .ok (.getfield 9, 3) := by decide +kernel
theorem dX2_cell_33 : decode cX2_cell 33 = .ok (.iload_n 1, 1) := by decide +kernel
theorem dX2_cell_34 : decode cX2_cell 34 = .ok (.iconst 5, 1) := by decide +kernel
theorem dX2_cell_35 : decode cX2_cell 35 = .ok (.imul, 1) := by decide +kernel
theorem dX2_cell_36 : decode cX2_cell 36 = .ok (.iload_n 2, 1) := by decide +kernel
theorem dX2_cell_37 : decode cX2_cell 37 = .ok (.iadd, 1) := by decide +kernel
theorem dX2_cell_38 : decode cX2_cell 38 = .ok (.laload, 1) := by decide +kernel
theorem dX2_cell_39 : decode cX2_cell 39 = .ok (.lreturn, 1) := by decide +kernel
theorem dX2_isFull_0 : decode cX2_isFull 0 = .ok (.aload_n 0, 1) := by decide +kernel
theorem dX2_isFull_1 : decode cX2_isFull 1 = .ok (.getfield 15, 3) := by decide +kernel
theorem dX2_isFull_4 : decode cX2_isFull 4 = .ok (.bipush 10, 2) := by decide +kernel
theorem dX2_isFull_6 : decode cX2_isFull 6 = .ok (.if_icmp .lt 7, 3) := by decide +kernel
theorem dX2_isFull_9 : decode cX2_isFull 9 = .ok (.iconst 1, 1) := by decide +kernel
theorem dX2_isFull_10 : decode cX2_isFull 10 = .ok (.goto 4, 3) := by decide +kernel
theorem dX2_isFull_13 : decode cX2_isFull 13 = .ok (.iconst 0, 1) := by decide +kernel
theorem dX2_isFull_14 : decode cX2_isFull 14 = .ok (.ireturn, 1) := by decide +kernel
set_option maxRecDepth 20000 in
theorem ggX2_canFollow_X2_lastDraft : GoodIn wsX2_canFollow wsX2_lastDraft := goodIn_r _ [6, 1, 7, 8, 9, 5, 10, 11, 12, 13] (by decide +kernel) (by decide +kernel)
set_option maxRecDepth 20000 in
theorem gX2_canFollow_X2_lastDraft : GoodIn wsX2_canFollow (wsV RX2 19 RX2 yX2_lastDraft wsX2_lastDraft) := goodIn_app (goodIn_of _ (by decide +kernel)) ggX2_canFollow_X2_lastDraft
set_option maxRecDepth 20000 in
theorem ggX2_canFollow_X2_cell : GoodIn wsX2_canFollow wsX2_cell := goodIn_r _ [10, 1, 11, 12, 13] (by decide +kernel) (by decide +kernel)
set_option maxRecDepth 20000 in
theorem gX2_canFollow_X2_cell : GoodIn wsX2_canFollow (wsV RX2 23 RX2 yX2_cell wsX2_cell) := goodIn_app (goodIn_of _ (by decide +kernel)) ggX2_canFollow_X2_cell
theorem dX2_canFollow_0 : decode cX2_canFollow 0 = .ok (.aload_n 0, 1) := by decide +kernel
theorem dX2_canFollow_1 : decode cX2_canFollow 1 = .ok (.getfield 15, 3) := by decide +kernel
theorem dX2_canFollow_4 : decode cX2_canFollow 4 = .ok (.ifCond .eq 28, 3) := by decide +kernel
theorem dX2_canFollow_7 : decode cX2_canFollow 7 = .ok (.lload_n 1, 1) := by decide +kernel
theorem dX2_canFollow_8 : decode cX2_canFollow 8 = .ok (.aload_n 0, 1) := by decide +kernel
theorem dX2_canFollow_9 : decode cX2_canFollow 9 = .ok (.invokevirtual 19, 3) := by decide +kernel
theorem dX2_canFollow_12 : decode cX2_canFollow 12 = .ok (.lcmp, 1) := by decide +kernel
theorem dX2_canFollow_13 : decode cX2_canFollow 13 = .ok (.ifCond .le 23, 3) := by decide +kernel
theorem dX2_canFollow_16 : decode cX2_canFollow 16 = .ok (.lload_n 3, 1) := by decide +kernel
theorem dX2_canFollow_17 : decode cX2_canFollow 17 = .ok (.aload_n 0, 1) := by decide +kernel
theorem dX2_canFollow_18 : decode cX2_canFollow 18 = .ok (.aload_n 0, 1) := by decide +kernel
theorem dX2_canFollow_19 : decode cX2_canFollow 19 = .ok (.getfield 15, 3) := by decide +kernel
theorem dX2_canFollow_22 : decode cX2_canFollow 22 = .ok (.iconst 1, 1) := by decide +kernel
theorem dX2_canFollow_23 : decode cX2_canFollow 23 = .ok (.isub, 1) := by decide +kernel
theorem dX2_canFollow_24 : decode cX2_canFollow 24 = .ok (.iconst 1, 1) := by decide +kernel
theorem dX2_canFollow_25 : decode cX2_canFollow 25 = .ok (.invokevirtual 23, 3) := by decide +kernel
theorem dX2_canFollow_28 : decode cX2_canFollow 28 = .ok (.lcmp, 1) := by decide +kernel
theorem dX2_canFollow_29 : decode cX2_canFollow 29 = .ok (.ifCond .lt 7, 3) := by decide +kernel
theorem dX2_canFollow_32 : decode cX2_canFollow 32 = .ok (.iconst 1, 1) := by decide +kernel
theorem dX2_canFollow_33 : decode cX2_canFollow 33 = .ok (.goto 4, 3) := by decide +kernel
theorem dX2_canFollow_36 : decode cX2_canFollow 36 = .ok (.iconst 0, 1) := by decide +kernel
theorem dX2_canFollow_37 : decode cX2_canFollow 37 = .ok (.ireturn, 1) := by decide +kernel
set_option maxRecDepth 20000 in
theorem ggX2_add_X0_numberAt : GoodIn wsX2_add wsX0_numberAt := goodIn_r _ [7, 8, 11, 12, 13, 14, 15] (by decide +kernel) (by decide +kernel)
set_option maxRecDepth 20000 in
theorem gX2_add_X0_numberAt : GoodIn wsX2_add (wsV RX2 27 RX0 yX0_numberAt wsX0_numberAt) := goodIn_app (goodIn_of _ (by decide +kernel)) ggX2_add_X0_numberAt
theorem dX2_add_0 : decode cX2_add 0 = .ok (.aload_n 1, 1) := by decide +kernel
theorem dX2_add_1 : decode cX2_add 1 = .ok (.ifnull 19, 3) := by decide +kernel
theorem dX2_add_4 : decode cX2_add 4 = .ok (.aload_n 0, 1) := by decide +kernel
theorem dX2_add_5 : decode cX2_add 5 = .ok (.getfield 15, 3) := by decide +kernel
theorem dX2_add_8 : decode cX2_add 8 = .ok (.ifCond .lt 12, 3) := by decide +kernel
theorem dX2_add_11 : decode cX2_add 11 = .ok (.aload_n 0, 1) := by decide +kernel
theorem dX2_add_12 : decode cX2_add 12 = .ok (.getfield 15, 3) := by decide +kernel
theorem dX2_add_15 : decode cX2_add 15 = .ok (.bipush 10, 2) := by decide +kernel
theorem dX2_add_17 : decode cX2_add 17 = .ok (.if_icmp .lt 4, 3) := by decide +kernel
theorem dX2_add_20 : decode cX2_add 20 = .ok (.return_, 1) := by decide +kernel
theorem dX2_add_21 : decode cX2_add 21 = .ok (.iconst 0, 1) := by decide +kernel
theorem dX2_add_22 : decode cX2_add 22 = .ok (.istore_n 2, 1) := by decide +kernel
theorem dX2_add_23 : decode cX2_add 23 = .ok (.iload_n 2, 1) := by decide +kernel
theorem dX2_add_24 : decode cX2_add 24 = .ok (.iconst 5, 1) := by decide +kernel
theorem dX2_add_25 : decode cX2_add 25 = .ok (.if_icmp .ge 27, 3) := by decide +kernel
theorem dX2_add_28 : decode cX2_add 28 = .ok (.aload_n 0, 1) := by decide +kernel
theorem dX2_add_29 : decode cX2_add 29 = .ok (.getfield 9, 3) := by decide +kernel
theorem dX2_add_32 : decode cX2_add 32 = .ok (.aload_n 0, 1) := by decide +kernel
theorem dX2_add_33 : decode cX2_add 33 = .ok (.getfield 15, 3) := by decide +kernel
theorem dX2_add_36 : decode cX2_add 36 = .ok (.iconst 5, 1) := by decide +kernel
theorem dX2_add_37 : decode cX2_add 37 = .ok (.imul, 1) := by decide +kernel
theorem dX2_add_38 : decode cX2_add 38 = .ok (.iload_n 2, 1) := by decide +kernel
theorem dX2_add_39 : decode cX2_add 39 = .ok (.iadd, 1) := by decide +kernel
theorem dX2_add_40 : decode cX2_add 40 = .ok (.aload_n 1, 1) := by decide +kernel
theorem dX2_add_41 : decode cX2_add 41 = .ok (.iload_n 2, 1) := by decide +kernel
theorem dX2_add_42 : decode cX2_add 42 = .ok (.invokevirtual 27, 3) := by decide +kernel
theorem dX2_add_45 : decode cX2_add 45 = .ok (.lastore, 1) := by decide +kernel
theorem dX2_add_46 : decode cX2_add 46 = .ok (.iinc 2 1, 3) := by decide +kernel
theorem dX2_add_49 : decode cX2_add 49 = .ok (.goto (-26), 3) := by decide +kernel
theorem dX2_add_52 : decode cX2_add 52 = .ok (.aload_n 0, 1) := by decide +kernel
theorem dX2_add_53 : decode cX2_add 53 = .ok (.dup, 1) := by decide +kernel
theorem dX2_add_54 : decode cX2_add 54 = .ok (.getfield 15, 3) := by decide +kernel
theorem dX2_add_57 : decode cX2_add 57 = .ok (.iconst 1, 1) := by decide +kernel
theorem dX2_add_58 : decode cX2_add 58 = .ok (.iadd, 1) := by decide +kernel
theorem dX2_add_59 : decode cX2_add 59 = .ok (.putfield 15, 3) := by decide +kernel
theorem dX2_add_62 : decode cX2_add 62 = .ok (.return_, 1) := by decide +kernel
set_option maxRecDepth 20000 in
theorem ggX2_firstDraft_X2_cell : GoodIn wsX2_firstDraft wsX2_cell := goodIn_r _ [5, 6, 7, 8, 9] (by decide +kernel) (by decide +kernel)
set_option maxRecDepth 20000 in
theorem gX2_firstDraft_X2_cell : GoodIn wsX2_firstDraft (wsV RX2 23 RX2 yX2_cell wsX2_cell) := goodIn_app (goodIn_of _ (by decide +kernel)) ggX2_firstDraft_X2_cell
theorem dX2_firstDraft_0 : decode cX2_firstDraft 0 = .ok (.aload_n 0, 1) := by decide +kernel
theorem dX2_firstDraft_1 : decode cX2_firstDraft 1 = .ok (.iconst 0, 1) := by decide +kernel
theorem dX2_firstDraft_2 : decode cX2_firstDraft 2 = .ok (.iconst 0, 1) := by decide +kernel
theorem dX2_firstDraft_3 : decode cX2_firstDraft 3 = .ok (.invokevirtual 23, 3) := by decide +kernel
theorem dX2_firstDraft_6 : decode cX2_firstDraft 6 = .ok (.lreturn, 1) := by decide +kernel
set_option maxRecDepth 20000 in
theorem ggX2_lastDraft_X2_cell : GoodIn wsX2_lastDraft wsX2_cell := goodIn_r _ [6, 1, 7, 8, 9] (by decide +kernel) (by decide +kernel)
set_option maxRecDepth 20000 in
theorem gX2_lastDraft_X2_cell : GoodIn wsX2_lastDraft (wsV RX2 23 RX2 yX2_cell wsX2_cell) := goodIn_app (goodIn_of _ (by decide +kernel)) ggX2_lastDraft_X2_cell
theorem dX2_lastDraft_0 : decode cX2_lastDraft 0 = .ok (.aload_n 0, 1) := by decide +kernel
theorem dX2_lastDraft_1 : decode cX2_lastDraft 1 = .ok (.aload_n 0, 1) := by decide +kernel
theorem dX2_lastDraft_2 : decode cX2_lastDraft 2 = .ok (.getfield 15, 3) := by decide +kernel
theorem dX2_lastDraft_5 : decode cX2_lastDraft 5 = .ok (.iconst 1, 1) := by decide +kernel
theorem dX2_lastDraft_6 : decode cX2_lastDraft 6 = .ok (.isub, 1) := by decide +kernel
theorem dX2_lastDraft_7 : decode cX2_lastDraft 7 = .ok (.iconst 0, 1) := by decide +kernel
theorem dX2_lastDraft_8 : decode cX2_lastDraft 8 = .ok (.invokevirtual 23, 3) := by decide +kernel
theorem dX2_lastDraft_11 : decode cX2_lastDraft 11 = .ok (.lreturn, 1) := by decide +kernel
set_option maxRecDepth 20000 in
theorem ggX2_covers_X2_firstDraft : GoodIn wsX2_covers wsX2_firstDraft := goodIn_r _ [6, 7, 8, 9, 5, 10, 1, 11, 16, 17] (by decide +kernel) (by decide +kernel)
set_option maxRecDepth 20000 in
theorem gX2_covers_X2_firstDraft : GoodIn wsX2_covers (wsV RX2 33 RX2 yX2_firstDraft wsX2_firstDraft) := goodIn_app (goodIn_of _ (by decide +kernel)) ggX2_covers_X2_firstDraft
set_option maxRecDepth 20000 in
theorem ggX2_covers_X2_lastDraft : GoodIn wsX2_covers wsX2_lastDraft := goodIn_r _ [15, 1, 7, 8, 9, 5, 10, 11, 16, 17] (by decide +kernel) (by decide +kernel)
set_option maxRecDepth 20000 in
theorem gX2_covers_X2_lastDraft : GoodIn wsX2_covers (wsV RX2 19 RX2 yX2_lastDraft wsX2_lastDraft) := goodIn_app (goodIn_of _ (by decide +kernel)) ggX2_covers_X2_lastDraft
theorem dX2_covers_0 : decode cX2_covers 0 = .ok (.aload_n 0, 1) := by decide +kernel
theorem dX2_covers_1 : decode cX2_covers 1 = .ok (.getfield 15, 3) := by decide +kernel
theorem dX2_covers_4 : decode cX2_covers 4 = .ok (.ifCond .le 25, 3) := by decide +kernel
theorem dX2_covers_7 : decode cX2_covers 7 = .ok (.lload_n 1, 1) := by decide +kernel
theorem dX2_covers_8 : decode cX2_covers 8 = .ok (.aload_n 0, 1) := by decide +kernel
theorem dX2_covers_9 : decode cX2_covers 9 = .ok (.invokevirtual 33, 3) := by decide +kernel
theorem dX2_covers_12 : decode cX2_covers 12 = .ok (.lcmp, 1) := by decide +kernel
theorem dX2_covers_13 : decode cX2_covers 13 = .ok (.ifCond .lt 16, 3) := by decide +kernel
theorem dX2_covers_16 : decode cX2_covers 16 = .ok (.lload_n 1, 1) := by decide +kernel
theorem dX2_covers_17 : decode cX2_covers 17 = .ok (.aload_n 0, 1) := by decide +kernel
theorem dX2_covers_18 : decode cX2_covers 18 = .ok (.invokevirtual 19, 3) := by decide +kernel
theorem dX2_covers_21 : decode cX2_covers 21 = .ok (.lcmp, 1) := by decide +kernel
theorem dX2_covers_22 : decode cX2_covers 22 = .ok (.ifCond .gt 7, 3) := by decide +kernel
theorem dX2_covers_25 : decode cX2_covers 25 = .ok (.iconst 1, 1) := by decide +kernel
theorem dX2_covers_26 : decode cX2_covers 26 = .ok (.goto 4, 3) := by decide +kernel
theorem dX2_covers_29 : decode cX2_covers 29 = .ok (.iconst 0, 1) := by decide +kernel
theorem dX2_covers_30 : decode cX2_covers 30 = .ok (.ireturn, 1) := by decide +kernel
set_option maxRecDepth 20000 in
theorem ggX2_valueAt_X2_cell : GoodIn wsX2_valueAt wsX2_cell := goodIn_r _ [7, 1, 8, 13, 14] (by decide +kernel) (by decide +kernel)
set_option maxRecDepth 20000 in
theorem gX2_valueAt_X2_cell : GoodIn wsX2_valueAt (wsV RX2 23 RX2 yX2_cell wsX2_cell) := goodIn_app (goodIn_of _ (by decide +kernel)) ggX2_valueAt_X2_cell
set_option maxRecDepth 20000 in
theorem ggX2_valueAt_J9_floorDiv_f86c9 : GoodIn wsX2_valueAt wsJ9_floorDiv_f86c9 := goodIn_r _ [12] (by decide +kernel) (by decide +kernel)
set_option maxRecDepth 20000 in
theorem gX2_valueAt_J9_floorDiv_f86c9 : GoodIn wsX2_valueAt (va_wsS RX2 38 yJ9_floorDiv_f86c9 wsJ9_floorDiv_f86c9) := goodIn_app (goodIn_of _ (by decide +kernel)) ggX2_valueAt_J9_floorDiv_f86c9
theorem dX2_valueAt_0 : decode cX2_valueAt 0 = .ok (.iconst 0, 1) := by decide +kernel
theorem dX2_valueAt_1 : decode cX2_valueAt 1 = .ok (.istore 4, 2) := by decide +kernel
theorem dX2_valueAt_3 : decode cX2_valueAt 3 = .ok (.iload 4, 2) := by decide +kernel
theorem dX2_valueAt_5 : decode cX2_valueAt 5 = .ok (.aload_n 0, 1) := by decide +kernel
theorem dX2_valueAt_6 : decode cX2_valueAt 6 = .ok (.getfield 15, 3) := by decide +kernel
theorem dX2_valueAt_9 : decode cX2_valueAt 9 = .ok (.if_icmp .ge 21, 3) := by decide +kernel
theorem dX2_valueAt_12 : decode cX2_valueAt 12 = .ok (.aload_n 0, 1) := by decide +kernel
theorem dX2_valueAt_13 : decode cX2_valueAt 13 = .ok (.iload 4, 2) := by decide +kernel
theorem dX2_valueAt_15 : decode cX2_valueAt 15 = .ok (.iconst 0, 1) := by decide +kernel
theorem dX2_valueAt_16 : decode cX2_valueAt 16 = .ok (.invokevirtual 23, 3) := by decide +kernel
theorem dX2_valueAt_19 : decode cX2_valueAt 19 = .ok (.lload_n 2, 1) := by decide +kernel
theorem dX2_valueAt_20 : decode cX2_valueAt 20 = .ok (.lcmp, 1) := by decide +kernel
theorem dX2_valueAt_21 : decode cX2_valueAt 21 = .ok (.ifCond .ge 9, 3) := by decide +kernel
theorem dX2_valueAt_24 : decode cX2_valueAt 24 = .ok (.iinc 4 1, 3) := by decide +kernel
theorem dX2_valueAt_27 : decode cX2_valueAt 27 = .ok (.goto (-24), 3) := by decide +kernel
theorem dX2_valueAt_30 : decode cX2_valueAt 30 = .ok (.iload 4, 2) := by decide +kernel
theorem dX2_valueAt_32 : decode cX2_valueAt 32 = .ok (.aload_n 0, 1) := by decide +kernel
theorem dX2_valueAt_33 : decode cX2_valueAt 33 = .ok (.getfield 15, 3) := by decide +kernel
theorem dX2_valueAt_36 : decode cX2_valueAt 36 = .ok (.if_icmp .lt 7, 3) := by decide +kernel
theorem dX2_valueAt_39 : decode cX2_valueAt 39 = .ok (.ldc2_w 36, 3) := by decide +kernel
theorem dX2_valueAt_42 : decode cX2_valueAt 42 = .ok (.lreturn, 1) := by decide +kernel
theorem dX2_valueAt_43 : decode cX2_valueAt 43 = .ok (.aload_n 0, 1) := by decide +kernel
theorem dX2_valueAt_44 : decode cX2_valueAt 44 = .ok (.iload 4, 2) := by decide +kernel
theorem dX2_valueAt_46 : decode cX2_valueAt 46 = .ok (.iconst 0, 1) := by decide +kernel
theorem dX2_valueAt_47 : decode cX2_valueAt 47 = .ok (.invokevirtual 23, 3) := by decide +kernel
theorem dX2_valueAt_50 : decode cX2_valueAt 50 = .ok (.lstore 5, 2) := by decide +kernel
theorem dX2_valueAt_52 : decode cX2_valueAt 52 = .ok (.aload_n 0, 1) := by decide +kernel
theorem dX2_valueAt_53 : decode cX2_valueAt 53 = .ok (.iload 4, 2) := by decide +kernel
theorem dX2_valueAt_55 : decode cX2_valueAt 55 = .ok (.iload_n 1, 1) := by decide +kernel
theorem dX2_valueAt_56 : decode cX2_valueAt 56 = .ok (.invokevirtual 23, 3) := by decide +kernel
theorem dX2_valueAt_59 : decode cX2_valueAt 59 = .ok (.lstore 7, 2) := by decide +kernel
theorem dX2_valueAt_61 : decode cX2_valueAt 61 = .ok (.lload 5, 2) := by decide +kernel
theorem dX2_valueAt_63 : decode cX2_valueAt 63 = .ok (.lload_n 2, 1) := by decide +kernel
theorem dX2_valueAt_64 : decode cX2_valueAt 64 = .ok (.lcmp, 1) := by decide +kernel
theorem dX2_valueAt_65 : decode cX2_valueAt 65 = .ok (.ifCond .ne 6, 3) := by decide +kernel
theorem dX2_valueAt_68 : decode cX2_valueAt 68 = .ok (.lload 7, 2) := by decide +kernel
theorem dX2_valueAt_70 : decode cX2_valueAt 70 = .ok (.lreturn, 1) := by decide +kernel
theorem dX2_valueAt_71 : decode cX2_valueAt 71 = .ok (.iload 4, 2) := by decide +kernel
theorem dX2_valueAt_73 : decode cX2_valueAt 73 = .ok (.ifCond .ne 7, 3) := by decide +kernel
theorem dX2_valueAt_76 : decode cX2_valueAt 76 = .ok (.ldc2_w 36, 3) := by decide +kernel
theorem dX2_valueAt_79 : decode cX2_valueAt 79 = .ok (.lreturn, 1) := by decide +kernel
theorem dX2_valueAt_80 : decode cX2_valueAt 80 = .ok (.aload_n 0, 1) := by decide +kernel
theorem dX2_valueAt_81 : decode cX2_valueAt 81 = .ok (.iload 4, 2) := by decide +kernel
theorem dX2_valueAt_83 : decode cX2_valueAt 83 = .ok (.iconst 1, 1) := by decide +kernel
theorem dX2_valueAt_84 : decode cX2_valueAt 84 = .ok (.isub, 1) := by decide +kernel
theorem dX2_valueAt_85 : decode cX2_valueAt 85 = .ok (.iconst 0, 1) := by decide +kernel
theorem dX2_valueAt_86 : decode cX2_valueAt 86 = .ok (.invokevirtual 23, 3) := by decide +kernel
theorem dX2_valueAt_89 : decode cX2_valueAt 89 = .ok (.lstore 9, 2) := by decide +kernel
theorem dX2_valueAt_91 : decode cX2_valueAt 91 = .ok (.aload_n 0, 1) := by decide +kernel
theorem dX2_valueAt_92 : decode cX2_valueAt 92 = .ok (.iload 4, 2) := by decide +kernel
theorem dX2_valueAt_94 : decode cX2_valueAt 94 = .ok (.iconst 1, 1) := by decide +kernel
theorem dX2_valueAt_95 : decode cX2_valueAt 95 = .ok (.isub, 1) := by decide +kernel
theorem dX2_valueAt_96 : decode cX2_valueAt 96 = .ok (.iload_n 1, 1) := by decide +kernel
theorem dX2_valueAt_97 : decode cX2_valueAt 97 = .ok (.invokevirtual 23, 3) := by decide +kernel
theorem dX2_valueAt_100 : decode cX2_valueAt 100 = .ok (.lstore 11, 2) := by decide +kernel
theorem dX2_valueAt_102 : decode cX2_valueAt 102 = .ok (.lload 7, 2) := by decide +kernel
theorem dX2_valueAt_104 : decode cX2_valueAt 104 = .ok (.lload 11, 2) := by decide +kernel
theorem dX2_valueAt_106 : decode cX2_valueAt 106 = .ok (.lsub, 1) := by decide +kernel
theorem dX2_valueAt_107 : decode cX2_valueAt 107 = .ok (.lload_n 2, 1) := by decide +kernel
theorem dX2_valueAt_108 : decode cX2_valueAt 108 = .ok (.lload 9, 2) := by decide +kernel
theorem dX2_valueAt_110 : decode cX2_valueAt 110 = .ok (.lsub, 1) := by decide +kernel
theorem dX2_valueAt_111 : decode cX2_valueAt 111 = .ok (.lmul, 1) := by decide +kernel
theorem dX2_valueAt_112 : decode cX2_valueAt 112 = .ok (.lstore 13, 2) := by decide +kernel
theorem dX2_valueAt_114 : decode cX2_valueAt 114 = .ok (.lload 5, 2) := by decide +kernel
theorem dX2_valueAt_116 : decode cX2_valueAt 116 = .ok (.lload 9, 2) := by decide +kernel
theorem dX2_valueAt_118 : decode cX2_valueAt 118 = .ok (.lsub, 1) := by decide +kernel
theorem dX2_valueAt_119 : decode cX2_valueAt 119 = .ok (.lstore 15, 2) := by decide +kernel
theorem dX2_valueAt_121 : decode cX2_valueAt 121 = .ok (.lload 15, 2) := by decide +kernel
theorem dX2_valueAt_123 : decode cX2_valueAt 123 = .ok (.lconst 0, 1) := by decide +kernel
theorem dX2_valueAt_124 : decode cX2_valueAt 124 = .ok (.lcmp, 1) := by decide +kernel
theorem dX2_valueAt_125 : decode cX2_valueAt 125 = .ok (.ifCond .ne 8, 3) := by decide +kernel
theorem dX2_valueAt_128 : decode cX2_valueAt 128 = .ok (.lload 11, 2) := by decide +kernel
theorem dX2_valueAt_130 : decode cX2_valueAt 130 = .ok (.goto 13, 3) := by decide +kernel
theorem dX2_valueAt_133 : decode cX2_valueAt 133 = .ok (.lload 11, 2) := by decide +kernel
theorem dX2_valueAt_135 : decode cX2_valueAt 135 = .ok (.lload 13, 2) := by decide +kernel
theorem dX2_valueAt_137 : decode cX2_valueAt 137 = .ok (.lload 15, 2) := by decide +kernel
theorem dX2_valueAt_139 : decode cX2_valueAt 139 = .ok (.invokestatic 38, 3) := by decide +kernel
theorem dX2_valueAt_142 : decode cX2_valueAt 142 = .ok (.ladd, 1) := by decide +kernel
theorem dX2_valueAt_143 : decode cX2_valueAt 143 = .ok (.lreturn, 1) := by decide +kernel
set_option maxRecDepth 20000 in
theorem ggX2_leastDraftFor_X2_cell : GoodIn wsX2_leastDraftFor wsX2_cell := goodIn_r _ [7, 1, 8, 20, 21] (by decide +kernel) (by decide +kernel)
set_option maxRecDepth 20000 in
theorem gX2_leastDraftFor_X2_cell : GoodIn wsX2_leastDraftFor (wsV RX2 23 RX2 yX2_cell wsX2_cell) := goodIn_app (goodIn_of _ (by decide +kernel)) ggX2_leastDraftFor_X2_cell
set_option maxRecDepth 20000 in
theorem ggX2_leastDraftFor_X2_firstDraft : GoodIn wsX2_leastDraftFor wsX2_firstDraft := goodIn_r _ [12, 3, 4, 5, 6, 7, 1, 8, 20, 21] (by decide +kernel) (by decide +kernel)
set_option maxRecDepth 20000 in
theorem gX2_leastDraftFor_X2_firstDraft : GoodIn wsX2_leastDraftFor (wsV RX2 33 RX2 yX2_firstDraft wsX2_firstDraft) := goodIn_app (goodIn_of _ (by decide +kernel)) ggX2_leastDraftFor_X2_firstDraft
set_option maxRecDepth 20000 in
theorem ggX2_leastDraftFor_X3_quotient : GoodIn wsX2_leastDraftFor wsX3_quotient := goodIn_r _ [15, 16, 17, 18, 19] (by decide +kernel) (by decide +kernel)
set_option maxRecDepth 20000 in
theorem gX2_leastDraftFor_X3_quotient_n44 : GoodIn wsX2_leastDraftFor (wsX3_quotient) := ggX2_leastDraftFor_X3_quotient
theorem dX2_leastDraftFor_0 : decode cX2_leastDraftFor 0 = .ok (.iconst 0, 1) := by decide +kernel
theorem dX2_leastDraftFor_1 : decode cX2_leastDraftFor 1 = .ok (.istore_n 3, 1) := by decide +kernel
theorem dX2_leastDraftFor_2 : decode cX2_leastDraftFor 2 = .ok (.iload_n 3, 1) := by decide +kernel
theorem dX2_leastDraftFor_3 : decode cX2_leastDraftFor 3 = .ok (.aload_n 0, 1) := by decide +kernel
theorem dX2_leastDraftFor_4 : decode cX2_leastDraftFor 4 = .ok (.getfield 15, 3) := by decide +kernel
theorem dX2_leastDraftFor_7 : decode cX2_leastDraftFor 7 = .ok (.if_icmp .ge 20, 3) := by decide +kernel
theorem dX2_leastDraftFor_10 : decode cX2_leastDraftFor 10 = .ok (.aload_n 0, 1) := by decide +kernel
theorem dX2_leastDraftFor_11 : decode cX2_leastDraftFor 11 = .ok (.iload_n 3, 1) := by decide +kernel
theorem dX2_leastDraftFor_12 : decode cX2_leastDraftFor 12 = .ok (.iconst 1, 1) := by decide +kernel
theorem dX2_leastDraftFor_13 : decode cX2_leastDraftFor 13 = .ok (.invokevirtual 23, 3) := by decide +kernel
theorem dX2_leastDraftFor_16 : decode cX2_leastDraftFor 16 = .ok (.lload_n 1, 1) := by decide +kernel
theorem dX2_leastDraftFor_17 : decode cX2_leastDraftFor 17 = .ok (.lcmp, 1) := by decide +kernel
theorem dX2_leastDraftFor_18 : decode cX2_leastDraftFor 18 = .ok (.ifCond .ge 9, 3) := by decide +kernel
theorem dX2_leastDraftFor_21 : decode cX2_leastDraftFor 21 = .ok (.iinc 3 1, 3) := by decide +kernel
theorem dX2_leastDraftFor_24 : decode cX2_leastDraftFor 24 = .ok (.goto (-22), 3) := by decide +kernel
theorem dX2_leastDraftFor_27 : decode cX2_leastDraftFor 27 = .ok (.iload_n 3, 1) := by decide +kernel
theorem dX2_leastDraftFor_28 : decode cX2_leastDraftFor 28 = .ok (.aload_n 0, 1) := by decide +kernel
theorem dX2_leastDraftFor_29 : decode cX2_leastDraftFor 29 = .ok (.getfield 15, 3) := by decide +kernel
theorem dX2_leastDraftFor_32 : decode cX2_leastDraftFor 32 = .ok (.if_icmp .lt 7, 3) := by decide +kernel
theorem dX2_leastDraftFor_35 : decode cX2_leastDraftFor 35 = .ok (.ldc2_w 36, 3) := by decide +kernel
theorem dX2_leastDraftFor_38 : decode cX2_leastDraftFor 38 = .ok (.lreturn, 1) := by decide +kernel
theorem dX2_leastDraftFor_39 : decode cX2_leastDraftFor 39 = .ok (.iload_n 3, 1) := by decide +kernel
theorem dX2_leastDraftFor_40 : decode cX2_leastDraftFor 40 = .ok (.ifCond .ne 8, 3) := by decide +kernel
theorem dX2_leastDraftFor_43 : decode cX2_leastDraftFor 43 = .ok (.aload_n 0, 1) := by decide +kernel
theorem dX2_leastDraftFor_44 : decode cX2_leastDraftFor 44 = .ok (.invokevirtual 33, 3) := by decide +kernel
theorem dX2_leastDraftFor_47 : decode cX2_leastDraftFor 47 = .ok (.lreturn, 1) := by decide +kernel
theorem dX2_leastDraftFor_48 : decode cX2_leastDraftFor 48 = .ok (.aload_n 0, 1) := by decide +kernel
theorem dX2_leastDraftFor_49 : decode cX2_leastDraftFor 49 = .ok (.iload_n 3, 1) := by decide +kernel
theorem dX2_leastDraftFor_50 : decode cX2_leastDraftFor 50 = .ok (.iconst 1, 1) := by decide +kernel
theorem dX2_leastDraftFor_51 : decode cX2_leastDraftFor 51 = .ok (.isub, 1) := by decide +kernel
theorem dX2_leastDraftFor_52 : decode cX2_leastDraftFor 52 = .ok (.iconst 0, 1) := by decide +kernel
theorem dX2_leastDraftFor_53 : decode cX2_leastDraftFor 53 = .ok (.invokevirtual 23, 3) := by decide +kernel
theorem dX2_leastDraftFor_56 : decode cX2_leastDraftFor 56 = .ok (.lstore 4, 2) := by decide +kernel
theorem dX2_leastDraftFor_58 : decode cX2_leastDraftFor 58 = .ok (.aload_n 0, 1) := by decide +kernel
theorem dX2_leastDraftFor_59 : decode cX2_leastDraftFor 59 = .ok (.iload_n 3, 1) := by decide +kernel
theorem dX2_leastDraftFor_60 : decode cX2_leastDraftFor 60 = .ok (.iconst 1, 1) := by decide +kernel
theorem dX2_leastDraftFor_61 : decode cX2_leastDraftFor 61 = .ok (.isub, 1) := by decide +kernel
theorem dX2_leastDraftFor_62 : decode cX2_leastDraftFor 62 = .ok (.iconst 1, 1) := by decide +kernel
theorem dX2_leastDraftFor_63 : decode cX2_leastDraftFor 63 = .ok (.invokevirtual 23, 3) := by decide +kernel
theorem dX2_leastDraftFor_66 : decode cX2_leastDraftFor 66 = .ok (.lstore 6, 2) := by decide +kernel
theorem dX2_leastDraftFor_68 : decode cX2_leastDraftFor 68 = .ok (.aload_n 0, 1) := by decide +kernel
theorem dX2_leastDraftFor_69 : decode cX2_leastDraftFor 69 = .ok (.iload_n 3, 1) := by decide +kernel
theorem dX2_leastDraftFor_70 : decode cX2_leastDraftFor 70 = .ok (.iconst 0, 1) := by decide +kernel
theorem dX2_leastDraftFor_71 : decode cX2_leastDraftFor 71 = .ok (.invokevirtual 23, 3) := by decide +kernel
theorem dX2_leastDraftFor_74 : decode cX2_leastDraftFor 74 = .ok (.lload 4, 2) := by decide +kernel
theorem dX2_leastDraftFor_76 : decode cX2_leastDraftFor 76 = .ok (.lsub, 1) := by decide +kernel
theorem dX2_leastDraftFor_77 : decode cX2_leastDraftFor 77 = .ok (.lstore 8, 2) := by decide +kernel
theorem dX2_leastDraftFor_79 : decode cX2_leastDraftFor 79 = .ok (.aload_n 0, 1) := by decide +kernel
