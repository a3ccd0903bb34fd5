theorem dX2_leastDraftFor_80 : decode cX2_leastDraftFor 80 = .ok (.iload_n 3, 1) := by decide +kernel
theorem dX2_leastDraftFor_81 : decode cX2_leastDraftFor 81 = .ok (.iconst 1, 1) := by decide +kernel
theorem dX2_leastDraftFor_82 : decode cX2_leastDraftFor 82 = .ok (.invokevirtual 23, 3) := by decide +kernel
theorem dX2_leastDraftFor_85 : decode cX2_leastDraftFor 85 = .ok (.lload 6, 2) := by decide +kernel
theorem dX2_leastDraftFor_87 : decode cX2_leastDraftFor 87 = .ok (.lsub, 1) := by decide +kernel
theorem dX2_leastDraftFor_88 : decode cX2_leastDraftFor 88 = .ok (.lstore 10, 2) := by decide +kernel
theorem dX2_leastDraftFor_90 : decode cX2_leastDraftFor 90 = .ok (.lload_n 1, 1) := by decide +kernel
theorem dX2_leastDraftFor_91 : decode cX2_leastDraftFor 91 = .ok (.lload 6, 2) := by decide +kernel
theorem dX2_leastDraftFor_93 : decode cX2_leastDraftFor 93 = .ok (.lsub, 1) := by decide +kernel
theorem dX2_leastDraftFor_94 : decode cX2_leastDraftFor 94 = .ok (.lstore 12, 2) := by decide +kernel
theorem dX2_leastDraftFor_96 : decode cX2_leastDraftFor 96 = .ok (.lload 4, 2) := by decide +kernel
theorem dX2_leastDraftFor_98 : decode cX2_leastDraftFor 98 = .ok (.lload 12, 2) := by decide +kernel
theorem dX2_leastDraftFor_100 : decode cX2_leastDraftFor 100 = .ok (.lneg, 1) := by decide +kernel
theorem dX2_leastDraftFor_101 : decode cX2_leastDraftFor 101 = .ok (.lload 8, 2) := by decide +kernel
theorem dX2_leastDraftFor_103 : decode cX2_leastDraftFor 103 = .ok (.lmul, 1) := by decide +kernel
theorem dX2_leastDraftFor_104 : decode cX2_leastDraftFor 104 = .ok (.lload 10, 2) := by decide +kernel
theorem dX2_leastDraftFor_106 : decode cX2_leastDraftFor 106 = .ok (.invokestatic 44, 3) := by decide +kernel
theorem dX2_leastDraftFor_109 : decode cX2_leastDraftFor 109 = .ok (.lsub, 1) := by decide +kernel
theorem dX2_leastDraftFor_110 : decode cX2_leastDraftFor 110 = .ok (.lreturn, 1) := by decide +kernel
set_option maxRecDepth 20000 in
theorem ggX3_init_X0_init : GoodIn wsX3_init wsX0_init := goodIn_r _ [23, 24, 2, 3, 25, 26, 45, 46, 47, 48, 49] (by decide +kernel) (by decide +kernel)
set_option maxRecDepth 20000 in
theorem gX3_init_X0_init_n19 : GoodIn wsX3_init (wsX0_init) := ggX3_init_X0_init
set_option maxRecDepth 20000 in
theorem ggX3_init_X2_init : GoodIn wsX3_init wsX2_init := goodIn_r _ [28, 29, 2, 3, 25, 30, 50, 51] (by decide +kernel) (by decide +kernel)
set_option maxRecDepth 20000 in
theorem gX3_init_X2_init_n26 : GoodIn wsX3_init (wsX2_init) := ggX3_init_X2_init
set_option maxRecDepth 20000 in
theorem ggX3_init_X1_init : GoodIn wsX3_init wsX1_init := goodIn_r _ [32, 33, 2, 3, 25, 34, 35, 36, 37, 52, 53, 54] (by decide +kernel) (by decide +kernel)
set_option maxRecDepth 20000 in
theorem gX3_init_X1_init_n37 : GoodIn wsX3_init (wsX1_init) := ggX3_init_X1_init
theorem dX3_init_0 : decode cX3_init 0 = .ok (.aload_n 0, 1) := by decide +kernel
theorem dX3_init_1 : decode cX3_init 1 = .ok (.invokespecial 1, 3) := by decide +kernel
theorem dX3_init_4 : decode cX3_init 4 = .ok (.aload_n 0, 1) := by decide +kernel
theorem dX3_init_5 : decode cX3_init 5 = .ok (.bipush 40, 2) := by decide +kernel
theorem dX3_init_7 : decode cX3_init 7 = .ok (.newarray .int, 2) := by decide +kernel
theorem dX3_init_9 : decode cX3_init 9 = .ok (.putfield 9, 3) := by decide +kernel
theorem dX3_init_12 : decode cX3_init 12 = .ok (.aload_n 0, 1) := by decide +kernel
theorem dX3_init_13 : decode cX3_init 13 = .ok (.iconst 0, 1) := by decide +kernel
theorem dX3_init_14 : decode cX3_init 14 = .ok (.putfield 13, 3) := by decide +kernel
theorem dX3_init_17 : decode cX3_init 17 = .ok (.aload_n 0, 1) := by decide +kernel
theorem dX3_init_18 : decode cX3_init 18 = .ok (.new 17, 3) := by decide +kernel
theorem dX3_init_21 : decode cX3_init 21 = .ok (.dup, 1) := by decide +kernel
theorem dX3_init_22 : decode cX3_init 22 = .ok (.invokespecial 19, 3) := by decide +kernel
theorem dX3_init_25 : decode cX3_init 25 = .ok (.putfield 20, 3) := by decide +kernel
theorem dX3_init_28 : decode cX3_init 28 = .ok (.aload_n 0, 1) := by decide +kernel
theorem dX3_init_29 : decode cX3_init 29 = .ok (.new 24, 3) := by decide +kernel
theorem dX3_init_32 : decode cX3_init 32 = .ok (.dup, 1) := by decide +kernel
theorem dX3_init_33 : decode cX3_init 33 = .ok (.invokespecial 26, 3) := by decide +kernel
theorem dX3_init_36 : decode cX3_init 36 = .ok (.putfield 27, 3) := by decide +kernel
theorem dX3_init_39 : decode cX3_init 39 = .ok (.aload_n 0, 1) := by decide +kernel
theorem dX3_init_40 : decode cX3_init 40 = .ok (.iconst 4, 1) := by decide +kernel
theorem dX3_init_41 : decode cX3_init 41 = .ok (.anewarray 31, 3) := by decide +kernel
theorem dX3_init_44 : decode cX3_init 44 = .ok (.putfield 33, 3) := by decide +kernel
theorem dX3_init_47 : decode cX3_init 47 = .ok (.iconst 0, 1) := by decide +kernel
theorem dX3_init_48 : decode cX3_init 48 = .ok (.istore_n 1, 1) := by decide +kernel
theorem dX3_init_49 : decode cX3_init 49 = .ok (.iload_n 1, 1) := by decide +kernel
theorem dX3_init_50 : decode cX3_init 50 = .ok (.iconst 4, 1) := by decide +kernel
theorem dX3_init_51 : decode cX3_init 51 = .ok (.if_icmp .ge 22, 3) := by decide +kernel
theorem dX3_init_54 : decode cX3_init 54 = .ok (.aload_n 0, 1) := by decide +kernel
theorem dX3_init_55 : decode cX3_init 55 = .ok (.getfield 33, 3) := by decide +kernel
theorem dX3_init_58 : decode cX3_init 58 = .ok (.iload_n 1, 1) := by decide +kernel
theorem dX3_init_59 : decode cX3_init 59 = .ok (.new 31, 3) := by decide +kernel
theorem dX3_init_62 : decode cX3_init 62 = .ok (.dup, 1) := by decide +kernel
theorem dX3_init_63 : decode cX3_init 63 = .ok (.invokespecial 37, 3) := by decide +kernel
theorem dX3_init_66 : decode cX3_init 66 = .ok (.aastore, 1) := by decide +kernel
theorem dX3_init_67 : decode cX3_init 67 = .ok (.iinc 1 1, 3) := by decide +kernel
theorem dX3_init_70 : decode cX3_init 70 = .ok (.goto (-21), 3) := by decide +kernel
theorem dX3_init_73 : decode cX3_init 73 = .ok (.aload_n 0, 1) := by decide +kernel
theorem dX3_init_74 : decode cX3_init 74 = .ok (.ldc2_w 38, 3) := by decide +kernel
theorem dX3_init_77 : decode cX3_init 77 = .ok (.putfield 40, 3) := by decide +kernel
theorem dX3_init_80 : decode cX3_init 80 = .ok (.aload_n 0, 1) := by decide +kernel
theorem dX3_init_81 : decode cX3_init 81 = .ok (.lconst 0, 1) := by decide +kernel
theorem dX3_init_82 : decode cX3_init 82 = .ok (.putfield 44, 3) := by decide +kernel
theorem dX3_init_85 : decode cX3_init 85 = .ok (.return_, 1) := by decide +kernel
theorem dX3_append_0 : decode cX3_append 0 = .ok (.iload_n 1, 1) := by decide +kernel
theorem dX3_append_1 : decode cX3_append 1 = .ok (.bipush 32, 2) := by decide +kernel
theorem dX3_append_3 : decode cX3_append 3 = .ok (.if_icmp .lt 9, 3) := by decide +kernel
theorem dX3_append_6 : decode cX3_append 6 = .ok (.iload_n 1, 1) := by decide +kernel
theorem dX3_append_7 : decode cX3_append 7 = .ok (.bipush 126, 2) := by decide +kernel
theorem dX3_append_9 : decode cX3_append 9 = .ok (.if_icmp .le 7, 3) := by decide +kernel
theorem dX3_append_12 : decode cX3_append 12 = .ok (.ldc2_w 47, 3) := by decide +kernel
theorem dX3_append_15 : decode cX3_append 15 = .ok (.lreturn, 1) := by decide +kernel
theorem dX3_append_16 : decode cX3_append 16 = .ok (.aload_n 0, 1) := by decide +kernel
theorem dX3_append_17 : decode cX3_append 17 = .ok (.getfield 13, 3) := by decide +kernel
theorem dX3_append_20 : decode cX3_append 20 = .ok (.ifCond .lt 12, 3) := by decide +kernel
theorem dX3_append_23 : decode cX3_append 23 = .ok (.aload_n 0, 1) := by decide +kernel
theorem dX3_append_24 : decode cX3_append 24 = .ok (.getfield 13, 3) := by decide +kernel
theorem dX3_append_27 : decode cX3_append 27 = .ok (.bipush 40, 2) := by decide +kernel
theorem dX3_append_29 : decode cX3_append 29 = .ok (.if_icmp .lt 7, 3) := by decide +kernel
theorem dX3_append_32 : decode cX3_append 32 = .ok (.ldc2_w 49, 3) := by decide +kernel
theorem dX3_append_35 : decode cX3_append 35 = .ok (.lreturn, 1) := by decide +kernel
theorem dX3_append_36 : decode cX3_append 36 = .ok (.aload_n 0, 1) := by decide +kernel
theorem dX3_append_37 : decode cX3_append 37 = .ok (.getfield 9, 3) := by decide +kernel
theorem dX3_append_40 : decode cX3_append 40 = .ok (.aload_n 0, 1) := by decide +kernel
theorem dX3_append_41 : decode cX3_append 41 = .ok (.getfield 13, 3) := by decide +kernel
theorem dX3_append_44 : decode cX3_append 44 = .ok (.iload_n 1, 1) := by decide +kernel
theorem dX3_append_45 : decode cX3_append 45 = .ok (.iastore, 1) := by decide +kernel
theorem dX3_append_46 : decode cX3_append 46 = .ok (.aload_n 0, 1) := by decide +kernel
theorem dX3_append_47 : decode cX3_append 47 = .ok (.dup, 1) := by decide +kernel
theorem dX3_append_48 : decode cX3_append 48 = .ok (.getfield 13, 3) := by decide +kernel
theorem dX3_append_51 : decode cX3_append 51 = .ok (.iconst 1, 1) := by decide +kernel
theorem dX3_append_52 : decode cX3_append 52 = .ok (.iadd, 1) := by decide +kernel
theorem dX3_append_53 : decode cX3_append 53 = .ok (.putfield 13, 3) := by decide +kernel
theorem dX3_append_56 : decode cX3_append 56 = .ok (.aload_n 0, 1) := by decide +kernel
theorem dX3_append_57 : decode cX3_append 57 = .ok (.getfield 13, 3) := by decide +kernel
theorem dX3_append_60 : decode cX3_append 60 = .ok (.i2l, 1) := by decide +kernel
theorem dX3_append_61 : decode cX3_append 61 = .ok (.lreturn, 1) := by decide +kernel
theorem dX3_clearBuffer_0 : decode cX3_clearBuffer 0 = .ok (.aload_n 0, 1) := by decide +kernel
theorem dX3_clearBuffer_1 : decode cX3_clearBuffer 1 = .ok (.getfield 13, 3) := by decide +kernel
theorem dX3_clearBuffer_4 : decode cX3_clearBuffer 4 = .ok (.i2l, 1) := by decide +kernel
theorem dX3_clearBuffer_5 : decode cX3_clearBuffer 5 = .ok (.lstore_n 1, 1) := by decide +kernel
theorem dX3_clearBuffer_6 : decode cX3_clearBuffer 6 = .ok (.aload_n 0, 1) := by decide +kernel
theorem dX3_clearBuffer_7 : decode cX3_clearBuffer 7 = .ok (.iconst 0, 1) := by decide +kernel
theorem dX3_clearBuffer_8 : decode cX3_clearBuffer 8 = .ok (.putfield 13, 3) := by decide +kernel
theorem dX3_clearBuffer_11 : decode cX3_clearBuffer 11 = .ok (.lload_n 1, 1) := by decide +kernel
theorem dX3_clearBuffer_12 : decode cX3_clearBuffer 12 = .ok (.lreturn, 1) := by decide +kernel
set_option maxRecDepth 20000 in
theorem ggX3_errorPosition_X3_readBuffer : GoodIn wsX3_errorPosition wsX3_readBuffer := goodIn_r _ [5, 6, 7, 8, 9, 10, 11, 12, 13, 14, 15, 16, 17, 18, 19, 20, 21, 22, 23, 24, 25, 26, 27, 28, 29, 30, 31, 32, 33, 34, 35, 36, 37, 38, 39, 40, 41, 42, 43, 44, 45, 46, 47, 48, 49, 50, 51] (by decide +kernel) (by decide +kernel)
set_option maxRecDepth 20000 in
theorem gX3_errorPosition_X3_readBuffer : GoodIn wsX3_errorPosition (wsV RX3 51 RX3 yX3_readBuffer wsX3_readBuffer) := goodIn_app (goodIn_of _ (by decide +kernel)) ggX3_errorPosition_X3_readBuffer
theorem dX3_errorPosition_0 : decode cX3_errorPosition 0 = .ok (.aload_n 0, 1) := by decide +kernel
theorem dX3_errorPosition_1 : decode cX3_errorPosition 1 = .ok (.invokevirtual 51, 3) := by decide +kernel
theorem dX3_errorPosition_4 : decode cX3_errorPosition 4 = .ok (.i2l, 1) := by decide +kernel
theorem dX3_errorPosition_5 : decode cX3_errorPosition 5 = .ok (.lreturn, 1) := by decide +kernel
set_option maxRecDepth 20000 in
theorem ggX3_addRow_X3_readBuffer : GoodIn wsX3_addRow wsX3_readBuffer := goodIn_r _ [11, 2, 1, 12, 13, 14, 15, 16, 17, 18, 19, 20, 21, 22, 23, 24, 25, 26, 27, 28, 29, 30, 31, 32, 33, 34, 35, 36, 37, 38, 39, 40, 41, 42, 43, 76, 77, 78, 79, 80, 81, 82, 85, 86, 87, 88, 89] (by decide +kernel) (by decide +kernel)
set_option maxRecDepth 20000 in
theorem gX3_addRow_X3_readBuffer : GoodIn wsX3_addRow (wsV RX3 51 RX3 yX3_readBuffer wsX3_readBuffer) := goodIn_app (goodIn_of _ (by decide +kernel)) ggX3_addRow_X3_readBuffer
set_option maxRecDepth 20000 in
theorem ggX3_addRow_X0_isComplete : GoodIn wsX3_addRow wsX0_isComplete := goodIn_r _ [47, 18, 23, 85, 86, 87, 88, 89] (by decide +kernel) (by decide +kernel)
set_option maxRecDepth 20000 in
theorem gX3_addRow_X0_isComplete : GoodIn wsX3_addRow (wsV RX3 55 RX0 yX0_isComplete wsX0_isComplete) := goodIn_app (goodIn_of _ (by decide +kernel)) ggX3_addRow_X0_isComplete
set_option maxRecDepth 20000 in
theorem ggX3_addRow_X2_isFull : GoodIn wsX3_addRow wsX2_isFull := goodIn_r _ [52, 53, 83, 84] (by decide +kernel) (by decide +kernel)
set_option maxRecDepth 20000 in
theorem gX3_addRow_X2_isFull : GoodIn wsX3_addRow (wsV RX3 61 RX2 yX2_isFull wsX2_isFull) := goodIn_app (goodIn_of _ (by decide +kernel)) ggX3_addRow_X2_isFull
set_option maxRecDepth 20000 in
theorem ggX3_addRow_X0_numberAt : GoodIn wsX3_addRow wsX0_numberAt := goodIn_r _ [57, 43, 85, 86, 87, 88, 89] (by decide +kernel) (by decide +kernel)
set_option maxRecDepth 20000 in
theorem gX3_addRow_X0_numberAt : GoodIn wsX3_addRow (wsV RX3 64 RX0 yX0_numberAt wsX0_numberAt) := goodIn_app (goodIn_of _ (by decide +kernel)) ggX3_addRow_X0_numberAt
set_option maxRecDepth 20000 in
theorem ggX3_addRow_X2_canFollow : GoodIn wsX3_addRow wsX2_canFollow := goodIn_r _ [61, 53, 62, 63, 64, 51, 65, 66, 67, 68, 69, 70, 83, 84] (by decide +kernel) (by decide +kernel)
set_option maxRecDepth 20000 in
theorem gX3_addRow_X2_canFollow : GoodIn wsX3_addRow (wsV RX3 68 RX2 yX2_canFollow wsX2_canFollow) := goodIn_app (goodIn_of _ (by decide +kernel)) ggX3_addRow_X2_canFollow
set_option maxRecDepth 20000 in
theorem ggX3_addRow_X2_add : GoodIn wsX3_addRow wsX2_add := goodIn_r _ [74, 53, 70, 75, 55, 56, 16, 57, 43, 83, 84, 85, 86, 87, 88, 89] (by decide +kernel) (by decide +kernel)
set_option maxRecDepth 20000 in
theorem gX3_addRow_X2_add : GoodIn wsX3_addRow (wsV RX3 74 RX2 yX2_add wsX2_add) := goodIn_app (goodIn_of _ (by decide +kernel)) ggX3_addRow_X2_add
theorem dX3_addRow_0 : decode cX3_addRow 0 = .ok (.aload_n 0, 1) := by decide +kernel
theorem dX3_addRow_1 : decode cX3_addRow 1 = .ok (.invokevirtual 51, 3) := by decide +kernel
theorem dX3_addRow_4 : decode cX3_addRow 4 = .ok (.aload_n 0, 1) := by decide +kernel
theorem dX3_addRow_5 : decode cX3_addRow 5 = .ok (.getfield 13, 3) := by decide +kernel
theorem dX3_addRow_8 : decode cX3_addRow 8 = .ok (.if_icmp .lt 13, 3) := by decide +kernel
theorem dX3_addRow_11 : decode cX3_addRow 11 = .ok (.aload_n 0, 1) := by decide +kernel
theorem dX3_addRow_12 : decode cX3_addRow 12 = .ok (.getfield 20, 3) := by decide +kernel
theorem dX3_addRow_15 : decode cX3_addRow 15 = .ok (.invokevirtual 55, 3) := by decide +kernel
theorem dX3_addRow_18 : decode cX3_addRow 18 = .ok (.ifCond .ne 7, 3) := by decide +kernel
theorem dX3_addRow_21 : decode cX3_addRow 21 = .ok (.ldc2_w 59, 3) := by decide +kernel
theorem dX3_addRow_24 : decode cX3_addRow 24 = .ok (.lreturn, 1) := by decide +kernel
theorem dX3_addRow_25 : decode cX3_addRow 25 = .ok (.aload_n 0, 1) := by decide +kernel
theorem dX3_addRow_26 : decode cX3_addRow 26 = .ok (.getfield 27, 3) := by decide +kernel
theorem dX3_addRow_29 : decode cX3_addRow 29 = .ok (.invokevirtual 61, 3) := by decide +kernel
theorem dX3_addRow_32 : decode cX3_addRow 32 = .ok (.ifCond .eq 7, 3) := by decide +kernel
theorem dX3_addRow_35 : decode cX3_addRow 35 = .ok (.ldc2_w 49, 3) := by decide +kernel
theorem dX3_addRow_38 : decode cX3_addRow 38 = .ok (.lreturn, 1) := by decide +kernel
theorem dX3_addRow_39 : decode cX3_addRow 39 = .ok (.aload_n 0, 1) := by decide +kernel
theorem dX3_addRow_40 : decode cX3_addRow 40 = .ok (.getfield 27, 3) := by decide +kernel
theorem dX3_addRow_43 : decode cX3_addRow 43 = .ok (.aload_n 0, 1) := by decide +kernel
theorem dX3_addRow_44 : decode cX3_addRow 44 = .ok (.getfield 20, 3) := by decide +kernel
theorem dX3_addRow_47 : decode cX3_addRow 47 = .ok (.iconst 0, 1) := by decide +kernel
theorem dX3_addRow_48 : decode cX3_addRow 48 = .ok (.invokevirtual 64, 3) := by decide +kernel
theorem dX3_addRow_51 : decode cX3_addRow 51 = .ok (.aload_n 0, 1) := by decide +kernel
theorem dX3_addRow_52 : decode cX3_addRow 52 = .ok (.getfield 20, 3) := by decide +kernel
theorem dX3_addRow_55 : decode cX3_addRow 55 = .ok (.iconst 1, 1) := by decide +kernel
theorem dX3_addRow_56 : decode cX3_addRow 56 = .ok (.invokevirtual 64, 3) := by decide +kernel
theorem dX3_addRow_59 : decode cX3_addRow 59 = .ok (.invokevirtual 68, 3) := by decide +kernel
theorem dX3_addRow_62 : decode cX3_addRow 62 = .ok (.ifCond .ne 7, 3) := by decide +kernel
theorem dX3_addRow_65 : decode cX3_addRow 65 = .ok (.ldc2_w 72, 3) := by decide +kernel
theorem dX3_addRow_68 : decode cX3_addRow 68 = .ok (.lreturn, 1) := by decide +kernel
theorem dX3_addRow_69 : decode cX3_addRow 69 = .ok (.aload_n 0, 1) := by decide +kernel
theorem dX3_addRow_70 : decode cX3_addRow 70 = .ok (.getfield 27, 3) := by decide +kernel
theorem dX3_addRow_73 : decode cX3_addRow 73 = .ok (.aload_n 0, 1) := by decide +kernel
theorem dX3_addRow_74 : decode cX3_addRow 74 = .ok (.getfield 20, 3) := by decide +kernel
theorem dX3_addRow_77 : decode cX3_addRow 77 = .ok (.invokevirtual 74, 3) := by decide +kernel
theorem dX3_addRow_80 : decode cX3_addRow 80 = .ok (.aload_n 0, 1) := by decide +kernel
theorem dX3_addRow_81 : decode cX3_addRow 81 = .ok (.iconst 0, 1) := by decide +kernel
theorem dX3_addRow_82 : decode cX3_addRow 82 = .ok (.putfield 13, 3) := by decide +kernel
theorem dX3_addRow_85 : decode cX3_addRow 85 = .ok (.aload_n 0, 1) := by decide +kernel
theorem dX3_addRow_86 : decode cX3_addRow 86 = .ok (.getfield 27, 3) := by decide +kernel
theorem dX3_addRow_89 : decode cX3_addRow 89 = .ok (.getfield 78, 3) := by decide +kernel
theorem dX3_addRow_92 : decode cX3_addRow 92 = .ok (.i2l, 1) := by decide +kernel
theorem dX3_addRow_93 : decode cX3_addRow 93 = .ok (.lreturn, 1) := by decide +kernel
theorem dX3_clearTable_0 : decode cX3_clearTable 0 = .ok (.aload_n 0, 1) := by decide +kernel
theorem dX3_clearTable_1 : decode cX3_clearTable 1 = .ok (.getfield 27, 3) := by decide +kernel
theorem dX3_clearTable_4 : decode cX3_clearTable 4 = .ok (.getfield 78, 3) := by decide +kernel
theorem dX3_clearTable_7 : decode cX3_clearTable 7 = .ok (.i2l, 1) := by decide +kernel
theorem dX3_clearTable_8 : decode cX3_clearTable 8 = .ok (.lstore_n 1, 1) := by decide +kernel
theorem dX3_clearTable_9 : decode cX3_clearTable 9 = .ok (.aload_n 0, 1) := by decide +kernel
theorem dX3_clearTable_10 : decode cX3_clearTable 10 = .ok (.getfield 27, 3) := by decide +kernel
theorem dX3_clearTable_13 : decode cX3_clearTable 13 = .ok (.iconst 0, 1) := by decide +kernel
theorem dX3_clearTable_14 : decode cX3_clearTable 14 = .ok (.putfield 78, 3) := by decide +kernel
theorem dX3_clearTable_17 : decode cX3_clearTable 17 = .ok (.lload_n 1, 1) := by decide +kernel
theorem dX3_clearTable_18 : decode cX3_clearTable 18 = .ok (.lreturn, 1) := by decide +kernel
set_option maxRecDepth 20000 in
theorem ggX3_rowDraft_X2_cell : GoodIn wsX3_rowDraft wsX2_cell := goodIn_r _ [7, 8, 9, 17, 18] (by decide +kernel) (by decide +kernel)
set_option maxRecDepth 20000 in
theorem gX3_rowDraft_X2_cell : GoodIn wsX3_rowDraft (wsV RX3 83 RX2 yX2_cell wsX2_cell) := goodIn_app (goodIn_of _ (by decide +kernel)) ggX3_rowDraft_X2_cell
theorem dX3_rowDraft_0 : decode cX3_rowDraft 0 = .ok (.iload_n 1, 1) := by decide +kernel
theorem dX3_rowDraft_1 : decode cX3_rowDraft 1 = .ok (.ifCond .lt 14, 3) := by decide +kernel
theorem dX3_rowDraft_4 : decode cX3_rowDraft 4 = .ok (.iload_n 1, 1) := by decide +kernel
theorem dX3_rowDraft_5 : decode cX3_rowDraft 5 = .ok (.aload_n 0, 1) := by decide +kernel
theorem dX3_rowDraft_6 : decode cX3_rowDraft 6 = .ok (.getfield 27, 3) := by decide +kernel
theorem dX3_rowDraft_9 : decode cX3_rowDraft 9 = .ok (.getfield 78, 3) := by decide +kernel
theorem dX3_rowDraft_12 : decode cX3_rowDraft 12 = .ok (.if_icmp .lt 7, 3) := by decide +kernel
theorem dX3_rowDraft_15 : decode cX3_rowDraft 15 = .ok (.ldc2_w 81, 3) := by decide +kernel
theorem dX3_rowDraft_18 : decode cX3_rowDraft 18 = .ok (.lreturn, 1) := by decide +kernel
theorem dX3_rowDraft_19 : decode cX3_rowDraft 19 = .ok (.aload_n 0, 1) := by decide +kernel
theorem dX3_rowDraft_20 : decode cX3_rowDraft 20 = .ok (.getfield 27, 3) := by decide +kernel
theorem dX3_rowDraft_23 : decode cX3_rowDraft 23 = .ok (.iload_n 1, 1) := by decide +kernel
theorem dX3_rowDraft_24 : decode cX3_rowDraft 24 = .ok (.iconst 0, 1) := by decide +kernel
theorem dX3_rowDraft_25 : decode cX3_rowDraft 25 = .ok (.invokevirtual 83, 3) := by decide +kernel
theorem dX3_rowDraft_28 : decode cX3_rowDraft 28 = .ok (.lreturn, 1) := by decide +kernel
set_option maxRecDepth 20000 in
theorem ggX3_tableValue_X2_valueAt : GoodIn wsX3_tableValue wsX2_valueAt := goodIn_r _ [7, 8, 9, 10, 11, 12, 6, 13, 14, 15, 16, 17, 18, 26, 27] (by decide +kernel) (by decide +kernel)
set_option maxRecDepth 20000 in
theorem gX3_tableValue_X2_valueAt : GoodIn wsX3_tableValue (wsV RX3 87 RX2 yX2_valueAt wsX2_valueAt) := goodIn_app (goodIn_of _ (by decide +kernel)) ggX3_tableValue_X2_valueAt
theorem dX3_tableValue_0 : decode cX3_tableValue 0 = .ok (.iload_n 1, 1) := by decide +kernel
theorem dX3_tableValue_1 : decode cX3_tableValue 1 = .ok (.ifCond .lt 8, 3) := by decide +kernel
theorem dX3_tableValue_4 : decode cX3_tableValue 4 = .ok (.iload_n 1, 1) := by decide +kernel
theorem dX3_tableValue_5 : decode cX3_tableValue 5 = .ok (.iconst 4, 1) := by decide +kernel
theorem dX3_tableValue_6 : decode cX3_tableValue 6 = .ok (.if_icmp .lt 7, 3) := by decide +kernel
theorem dX3_tableValue_9 : decode cX3_tableValue 9 = .ok (.ldc2_w 81, 3) := by decide +kernel
theorem dX3_tableValue_12 : decode cX3_tableValue 12 = .ok (.lreturn, 1) := by decide +kernel
theorem dX3_tableValue_13 : decode cX3_tableValue 13 = .ok (.aload_n 0, 1) := by decide +kernel
theorem dX3_tableValue_14 : decode cX3_tableValue 14 = .ok (.getfield 27, 3) := by decide +kernel
theorem dX3_tableValue_17 : decode cX3_tableValue 17 = .ok (.iload_n 1, 1) := by decide +kernel
theorem dX3_tableValue_18 : decode cX3_tableValue 18 = .ok (.iconst 1, 1) := by decide +kernel
theorem dX3_tableValue_19 : decode cX3_tableValue 19 = .ok (.iadd, 1) := by decide +kernel
theorem dX3_tableValue_20 : decode cX3_tableValue 20 = .ok (.iload_n 2, 1) := by decide +kernel
theorem dX3_tableValue_21 : decode cX3_tableValue 21 = .ok (.i2l, 1) := by decide +kernel
theorem dX3_tableValue_22 : decode cX3_tableValue 22 = .ok (.invokevirtual 87, 3) := by decide +kernel
theorem dX3_tableValue_25 : decode cX3_tableValue 25 = .ok (.lreturn, 1) := by decide +kernel
theorem dX3_setLength_0 : decode cX3_setLength 0 = .ok (.iload_n 1, 1) := by decide +kernel
theorem dX3_setLength_1 : decode cX3_setLength 1 = .ok (.sipush 10000, 3) := by decide +kernel
theorem dX3_setLength_4 : decode cX3_setLength 4 = .ok (.if_icmp .lt 9, 3) := by decide +kernel
theorem dX3_setLength_7 : decode cX3_setLength 7 = .ok (.iload_n 1, 1) := by decide +kernel
theorem dX3_setLength_8 : decode cX3_setLength 8 = .ok (.ldc 91, 2) := by decide +kernel
theorem dX3_setLength_10 : decode cX3_setLength 10 = .ok (.if_icmp .le 7, 3) := by decide +kernel
theorem dX3_setLength_13 : decode cX3_setLength 13 = .ok (.ldc2_w 47, 3) := by decide +kernel
theorem dX3_setLength_16 : decode cX3_setLength 16 = .ok (.lreturn, 1) := by decide +kernel
theorem dX3_setLength_17 : decode cX3_setLength 17 = .ok (.aload_n 0, 1) := by decide +kernel
theorem dX3_setLength_18 : decode cX3_setLength 18 = .ok (.getfield 40, 3) := by decide +kernel
theorem dX3_setLength_21 : decode cX3_setLength 21 = .ok (.lstore_n 2, 1) := by decide +kernel
theorem dX3_setLength_22 : decode cX3_setLength 22 = .ok (.aload_n 0, 1) := by decide +kernel
theorem dX3_setLength_23 : decode cX3_setLength 23 = .ok (.iload_n 1, 1) := by decide +kernel
theorem dX3_setLength_24 : decode cX3_setLength 24 = .ok (.i2l, 1) := by decide +kernel
theorem dX3_setLength_25 : decode cX3_setLength 25 = .ok (.putfield 40, 3) := by decide +kernel
theorem dX3_setLength_28 : decode cX3_setLength 28 = .ok (.lload_n 2, 1) := by decide +kernel
theorem dX3_setLength_29 : decode cX3_setLength 29 = .ok (.lreturn, 1) := by decide +kernel
theorem dX3_setMargin_0 : decode cX3_setMargin 0 = .ok (.iload_n 1, 1) := by decide +kernel
theorem dX3_setMargin_1 : decode cX3_setMargin 1 = .ok (.ifCond .lt 9, 3) := by decide +kernel
theorem dX3_setMargin_4 : decode cX3_setMargin 4 = .ok (.iload_n 1, 1) := by decide +kernel
theorem dX3_setMargin_5 : decode cX3_setMargin 5 = .ok (.bipush 100, 2) := by decide +kernel
theorem dX3_setMargin_7 : decode cX3_setMargin 7 = .ok (.if_icmp .le 7, 3) := by decide +kernel
theorem dX3_setMargin_10 : decode cX3_setMargin 10 = .ok (.ldc2_w 47, 3) := by decide +kernel
theorem dX3_setMargin_13 : decode cX3_setMargin 13 = .ok (.lreturn, 1) := by decide +kernel
theorem dX3_setMargin_14 : decode cX3_setMargin 14 = .ok (.aload_n 0, 1) := by decide +kernel
theorem dX3_setMargin_15 : decode cX3_setMargin 15 = .ok (.getfield 44, 3) := by decide +kernel
theorem dX3_setMargin_18 : decode cX3_setMargin 18 = .ok (.lstore_n 2, 1) := by decide +kernel
theorem dX3_setMargin_19 : decode cX3_setMargin 19 = .ok (.aload_n 0, 1) := by decide +kernel
theorem dX3_setMargin_20 : decode cX3_setMargin 20 = .ok (.iload_n 1, 1) := by decide +kernel
theorem dX3_setMargin_21 : decode cX3_setMargin 21 = .ok (.i2l, 1) := by decide +kernel
theorem dX3_setMargin_22 : decode cX3_setMargin 22 = .ok (.putfield 44, 3) := by decide +kernel
theorem dX3_setMargin_25 : decode cX3_setMargin 25 = .ok (.lload_n 2, 1) := by decide +kernel
theorem dX3_setMargin_26 : decode cX3_setMargin 26 = .ok (.lreturn, 1) := by decide +kernel
set_option maxRecDepth 20000 in
theorem ggX3_setReading_X3_surveyAt : GoodIn wsX3_setReading wsX3_surveyAt := goodIn_r _ [8, 9, 13, 14, 15, 16, 17, 18, 19] (by decide +kernel) (by decide +kernel)
set_option maxRecDepth 20000 in
theorem gX3_setReading_X3_surveyAt : GoodIn wsX3_setReading (wsV RX3 92 RX3 yX3_surveyAt wsX3_surveyAt) := goodIn_app (goodIn_of _ (by decide +kernel)) ggX3_setReading_X3_surveyAt
theorem dX3_setReading_0 : decode cX3_setReading 0 = .ok (.aload_n 0, 1) := by decide +kernel
theorem dX3_setReading_1 : decode cX3_setReading 1 = .ok (.iload_n 1, 1) := by decide +kernel
theorem dX3_setReading_2 : decode cX3_setReading 2 = .ok (.invokevirtual 92, 3) := by decide +kernel
theorem dX3_setReading_5 : decode cX3_setReading 5 = .ok (.astore 4, 2) := by decide +kernel
theorem dX3_setReading_7 : decode cX3_setReading 7 = .ok (.aload 4, 2) := by decide +kernel
theorem dX3_setReading_9 : decode cX3_setReading 9 = .ok (.ifnonnull 7, 3) := by decide +kernel
theorem dX3_setReading_12 : decode cX3_setReading 12 = .ok (.ldc2_w 96, 3) := by decide +kernel
theorem dX3_setReading_15 : decode cX3_setReading 15 = .ok (.lreturn, 1) := by decide +kernel
theorem dX3_setReading_16 : decode cX3_setReading 16 = .ok (.iload_n 2, 1) := by decide +kernel
theorem dX3_setReading_17 : decode cX3_setReading 17 = .ok (.ifCond .lt 9, 3) := by decide +kernel
theorem dX3_setReading_20 : decode cX3_setReading 20 = .ok (.iload_n 2, 1) := by decide +kernel
theorem dX3_setReading_21 : decode cX3_setReading 21 = .ok (.bipush 6, 2) := by decide +kernel
theorem dX3_setReading_23 : decode cX3_setReading 23 = .ok (.if_icmp .lt 7, 3) := by decide +kernel
theorem dX3_setReading_26 : decode cX3_setReading 26 = .ok (.ldc2_w 81, 3) := by decide +kernel
theorem dX3_setReading_29 : decode cX3_setReading 29 = .ok (.lreturn, 1) := by decide +kernel
theorem dX3_setReading_30 : decode cX3_setReading 30 = .ok (.iload_n 3, 1) := by decide +kernel
theorem dX3_setReading_31 : decode cX3_setReading 31 = .ok (.ifCond .lt 10, 3) := by decide +kernel
theorem dX3_setReading_34 : decode cX3_setReading 34 = .ok (.iload_n 3, 1) := by decide +kernel
theorem dX3_setReading_35 : decode cX3_setReading 35 = .ok (.sipush 30000, 3) := by decide +kernel
theorem dX3_setReading_38 : decode cX3_setReading 38 = .ok (.if_icmp .le 7, 3) := by decide +kernel
theorem dX3_setReading_41 : decode cX3_setReading 41 = .ok (.ldc2_w 47, 3) := by decide +kernel
theorem dX3_setReading_44 : decode cX3_setReading 44 = .ok (.lreturn, 1) := by decide +kernel
theorem dX3_setReading_45 : decode cX3_setReading 45 = .ok (.aload 4, 2) := by decide +kernel
theorem dX3_setReading_47 : decode cX3_setReading 47 = .ok (.getfield 98, 3) := by decide +kernel
theorem dX3_setReading_50 : decode cX3_setReading 50 = .ok (.iload_n 2, 1) := by decide +kernel
theorem dX3_setReading_51 : decode cX3_setReading 51 = .ok (.laload, 1) := by decide +kernel
theorem dX3_setReading_52 : decode cX3_setReading 52 = .ok (.lstore 5, 2) := by decide +kernel
theorem dX3_setReading_54 : decode cX3_setReading 54 = .ok (.aload 4, 2) := by decide +kernel
theorem dX3_setReading_56 : decode cX3_setReading 56 = .ok (.getfield 98, 3) := by decide +kernel
theorem dX3_setReading_59 : decode cX3_setReading 59 = .ok (.iload_n 2, 1) := by decide +kernel
theorem dX3_setReading_60 : decode cX3_setReading 60 = .ok (.iload_n 3, 1) := by decide +kernel
theorem dX3_setReading_61 : decode cX3_setReading 61 = .ok (.i2l, 1) := by decide +kernel
theorem dX3_setReading_62 : decode cX3_setReading 62 = .ok (.lastore, 1) := by decide +kernel
theorem dX3_setReading_63 : decode cX3_setReading 63 = .ok (.lload 5, 2) := by decide +kernel
theorem dX3_setReading_65 : decode cX3_setReading 65 = .ok (.lreturn, 1) := by decide +kernel
set_option maxRecDepth 20000 in
theorem ggX3_reading_X3_surveyAt : GoodIn wsX3_reading wsX3_surveyAt := goodIn_r _ [7, 8, 12, 13, 14, 15, 16, 17, 18] (by decide +kernel) (by decide +kernel)
set_option maxRecDepth 20000 in
theorem gX3_reading_X3_surveyAt : GoodIn wsX3_reading (wsV RX3 92 RX3 yX3_surveyAt wsX3_surveyAt) := goodIn_app (goodIn_of _ (by decide +kernel)) ggX3_reading_X3_surveyAt
theorem dX3_reading_0 : decode cX3_reading 0 = .ok (.aload_n 0, 1) := by decide +kernel
theorem dX3_reading_1 : decode cX3_reading 1 = .ok (.iload_n 1, 1) := by decide +kernel
theorem dX3_reading_2 : decode cX3_reading 2 = .ok (.invokevirtual 92, 3) := by decide +kernel
theorem dX3_reading_5 : decode cX3_reading 5 = .ok (.astore_n 3, 1) := by decide +kernel
theorem dX3_reading_6 : decode cX3_reading 6 = .ok (.aload_n 3, 1) := by decide +kernel
theorem dX3_reading_7 : decode cX3_reading 7 = .ok (.ifnonnull 7, 3) := by decide +kernel
theorem dX3_reading_10 : decode cX3_reading 10 = .ok (.ldc2_w 96, 3) := by decide +kernel
theorem dX3_reading_13 : decode cX3_reading 13 = .ok (.lreturn, 1) := by decide +kernel
theorem dX3_reading_14 : decode cX3_reading 14 = .ok (.iload_n 2, 1) := by decide +kernel
theorem dX3_reading_15 : decode cX3_reading 15 = .ok (.ifCond .lt 9, 3) := by decide +kernel
theorem dX3_reading_18 : decode cX3_reading 18 = .ok (.iload_n 2, 1) := by decide +kernel
theorem dX3_reading_19 : decode cX3_reading 19 = .ok (.bipush 6, 2) := by decide +kernel
theorem dX3_reading_21 : decode cX3_reading 21 = .ok (.if_icmp .lt 7, 3) := by decide +kernel
theorem dX3_reading_24 : decode cX3_reading 24 = .ok (.ldc2_w 81, 3) := by decide +kernel
theorem dX3_reading_27 : decode cX3_reading 27 = .ok (.lreturn, 1) := by decide +kernel
theorem dX3_reading_28 : decode cX3_reading 28 = .ok (.aload_n 3, 1) := by decide +kernel
theorem dX3_reading_29 : decode cX3_reading 29 = .ok (.getfield 98, 3) := by decide +kernel
theorem dX3_reading_32 : decode cX3_reading 32 = .ok (.iload_n 2, 1) := by decide +kernel
theorem dX3_reading_33 : decode cX3_reading 33 = .ok (.laload, 1) := by decide +kernel
theorem dX3_reading_34 : decode cX3_reading 34 = .ok (.lreturn, 1) := by decide +kernel
set_option maxRecDepth 20000 in
theorem ggX3_setDensity_X3_surveyAt : GoodIn wsX3_setDensity wsX3_surveyAt := goodIn_r _ [7, 8, 12, 13, 14, 15, 16, 17, 18] (by decide +kernel) (by decide +kernel)
set_option maxRecDepth 20000 in
theorem gX3_setDensity_X3_surveyAt : GoodIn wsX3_setDensity (wsV RX3 92 RX3 yX3_surveyAt wsX3_surveyAt) := goodIn_app (goodIn_of _ (by decide +kernel)) ggX3_setDensity_X3_surveyAt
theorem dX3_setDensity_0 : decode cX3_setDensity 0 = .ok (.aload_n 0, 1) := by decide +kernel
theorem dX3_setDensity_1 : decode cX3_setDensity 1 = .ok (.iload_n 1, 1) := by decide +kernel
theorem dX3_setDensity_2 : decode cX3_setDensity 2 = .ok (.invokevirtual 92, 3) := by decide +kernel
theorem dX3_setDensity_5 : decode cX3_setDensity 5 = .ok (.astore_n 3, 1) := by decide +kernel
theorem dX3_setDensity_6 : decode cX3_setDensity 6 = .ok (.aload_n 3, 1) := by decide +kernel
theorem dX3_setDensity_7 : decode cX3_setDensity 7 = .ok (.ifnonnull 7, 3) := by decide +kernel
theorem dX3_setDensity_10 : decode cX3_setDensity 10 = .ok (.ldc2_w 96, 3) := by decide +kernel
theorem dX3_setDensity_13 : decode cX3_setDensity 13 = .ok (.lreturn, 1) := by decide +kernel
theorem dX3_setDensity_14 : decode cX3_setDensity 14 = .ok (.iload_n 2, 1) := by decide +kernel
theorem dX3_setDensity_15 : decode cX3_setDensity 15 = .ok (.sipush 950, 3) := by decide +kernel
theorem dX3_setDensity_18 : decode cX3_setDensity 18 = .ok (.if_icmp .lt 10, 3) := by decide +kernel
theorem dX3_setDensity_21 : decode cX3_setDensity 21 = .ok (.iload_n 2, 1) := by decide +kernel
theorem dX3_setDensity_22 : decode cX3_setDensity 22 = .ok (.sipush 1050, 3) := by decide +kernel
theorem dX3_setDensity_25 : decode cX3_setDensity 25 = .ok (.if_icmp .le 7, 3) := by decide +kernel
theorem dX3_setDensity_28 : decode cX3_setDensity 28 = .ok (.ldc2_w 47, 3) := by decide +kernel
theorem dX3_setDensity_31 : decode cX3_setDensity 31 = .ok (.lreturn, 1) := by decide +kernel
theorem dX3_setDensity_32 : decode cX3_setDensity 32 = .ok (.aload_n 3, 1) := by decide +kernel
theorem dX3_setDensity_33 : decode cX3_setDensity 33 = .ok (.getfield 102, 3) := by decide +kernel
theorem dX3_setDensity_36 : decode cX3_setDensity 36 = .ok (.lstore 4, 2) := by decide +kernel
theorem dX3_setDensity_38 : decode cX3_setDensity 38 = .ok (.aload_n 3, 1) := by decide +kernel
theorem dX3_setDensity_39 : decode cX3_setDensity 39 = .ok (.iload_n 2, 1) := by decide +kernel
theorem dX3_setDensity_40 : decode cX3_setDensity 40 = .ok (.i2l, 1) := by decide +kernel
theorem dX3_setDensity_41 : decode cX3_setDensity 41 = .ok (.putfield 102, 3) := by decide +kernel
theorem dX3_setDensity_44 : decode cX3_setDensity 44 = .ok (.lload 4, 2) := by decide +kernel
theorem dX3_setDensity_46 : decode cX3_setDensity 46 = .ok (.lreturn, 1) := by decide +kernel
set_option maxRecDepth 20000 in
theorem ggX3_setDeduction_X3_surveyAt : GoodIn wsX3_setDeduction wsX3_surveyAt := goodIn_r _ [9, 10, 14, 15, 16, 17, 18, 19, 20] (by decide +kernel) (by decide +kernel)
set_option maxRecDepth 20000 in
theorem gX3_setDeduction_X3_surveyAt : GoodIn wsX3_setDeduction (wsV RX3 92 RX3 yX3_surveyAt wsX3_surveyAt) := goodIn_app (goodIn_of _ (by decide +kernel)) ggX3_setDeduction_X3_surveyAt
theorem dX3_setDeduction_0 : decode cX3_setDeduction 0 = .ok (.aload_n 0, 1) := by decide +kernel
theorem dX3_setDeduction_1 : decode cX3_setDeduction 1 = .ok (.iload_n 1, 1) := by decide +kernel
theorem dX3_setDeduction_2 : decode cX3_setDeduction 2 = .ok (.invokevirtual 92, 3) := by decide +kernel
theorem dX3_setDeduction_5 : decode cX3_setDeduction 5 = .ok (.astore 4, 2) := by decide +kernel
theorem dX3_setDeduction_7 : decode cX3_setDeduction 7 = .ok (.aload 4, 2) := by decide +kernel
theorem dX3_setDeduction_9 : decode cX3_setDeduction 9 = .ok (.ifnonnull 7, 3) := by decide +kernel
theorem dX3_setDeduction_12 : decode cX3_setDeduction 12 = .ok (.ldc2_w 96, 3) := by decide +kernel
theorem dX3_setDeduction_15 : decode cX3_setDeduction 15 = .ok (.lreturn, 1) := by decide +kernel
theorem dX3_setDeduction_16 : decode cX3_setDeduction 16 = .ok (.iload_n 2, 1) := by decide +kernel
theorem dX3_setDeduction_17 : decode cX3_setDeduction 17 = .ok (.ifCond .lt 8, 3) := by decide +kernel
theorem dX3_setDeduction_20 : decode cX3_setDeduction 20 = .ok (.iload_n 2, 1) := by decide +kernel
theorem dX3_setDeduction_21 : decode cX3_setDeduction 21 = .ok (.iconst 4, 1) := by decide +kernel
theorem dX3_setDeduction_22 : decode cX3_setDeduction 22 = .ok (.if_icmp .lt 7, 3) := by decide +kernel
theorem dX3_setDeduction_25 : decode cX3_setDeduction 25 = .ok (.ldc2_w 81, 3) := by decide +kernel
theorem dX3_setDeduction_28 : decode cX3_setDeduction 28 = .ok (.lreturn, 1) := by decide +kernel
theorem dX3_setDeduction_29 : decode cX3_setDeduction 29 = .ok (.iload_n 3, 1) := by decide +kernel
theorem dX3_setDeduction_30 : decode cX3_setDeduction 30 = .ok (.ifCond .lt 9, 3) := by decide +kernel
theorem dX3_setDeduction_33 : decode cX3_setDeduction 33 = .ok (.iload_n 3, 1) := by decide +kernel
theorem dX3_setDeduction_34 : decode cX3_setDeduction 34 = .ok (.ldc 105, 2) := by decide +kernel
theorem dX3_setDeduction_36 : decode cX3_setDeduction 36 = .ok (.if_icmp .le 7, 3) := by decide +kernel
theorem dX3_setDeduction_39 : decode cX3_setDeduction 39 = .ok (.ldc2_w 47, 3) := by decide +kernel
theorem dX3_setDeduction_42 : decode cX3_setDeduction 42 = .ok (.lreturn, 1) := by decide +kernel
theorem dX3_setDeduction_43 : decode cX3_setDeduction 43 = .ok (.aload 4, 2) := by decide +kernel
theorem dX3_setDeduction_45 : decode cX3_setDeduction 45 = .ok (.getfield 106, 3) := by decide +kernel
theorem dX3_setDeduction_48 : decode cX3_setDeduction 48 = .ok (.iload_n 2, 1) := by decide +kernel
theorem dX3_setDeduction_49 : decode cX3_setDeduction 49 = .ok (.laload, 1) := by decide +kernel
theorem dX3_setDeduction_50 : decode cX3_setDeduction 50 = .ok (.lstore 5, 2) := by decide +kernel
theorem dX3_setDeduction_52 : decode cX3_setDeduction 52 = .ok (.aload 4, 2) := by decide +kernel
theorem dX3_setDeduction_54 : decode cX3_setDeduction 54 = .ok (.getfield 106, 3) := by decide +kernel
theorem dX3_setDeduction_57 : decode cX3_setDeduction 57 = .ok (.iload_n 2, 1) := by decide +kernel
theorem dX3_setDeduction_58 : decode cX3_setDeduction 58 = .ok (.iload_n 3, 1) := by decide +kernel
theorem dX3_setDeduction_59 : decode cX3_setDeduction 59 = .ok (.i2l, 1) := by decide +kernel
theorem dX3_setDeduction_60 : decode cX3_setDeduction 60 = .ok (.lastore, 1) := by decide +kernel
theorem dX3_setDeduction_61 : decode cX3_setDeduction 61 = .ok (.lload 5, 2) := by decide +kernel
theorem dX3_setDeduction_63 : decode cX3_setDeduction 63 = .ok (.lreturn, 1) := by decide +kernel
set_option maxRecDepth 20000 in
theorem ggX3_trim_X3_surveyAt : GoodIn wsX3_trim wsX3_surveyAt := goodIn_r _ [6, 7, 27, 28, 29, 30, 31, 32, 33] (by decide +kernel) (by decide +kernel)
set_option maxRecDepth 20000 in
theorem gX3_trim_X3_surveyAt : GoodIn wsX3_trim (wsV RX3 92 RX3 yX3_surveyAt wsX3_surveyAt) := goodIn_app (goodIn_of _ (by decide +kernel)) ggX3_trim_X3_surveyAt
set_option maxRecDepth 20000 in
theorem ggX3_trim_X1_sternTrim : GoodIn wsX3_trim wsX1_sternTrim := goodIn_r _ [12, 13, 14, 15, 11, 16, 17, 18, 19, 20, 21, 22, 23, 24, 25, 26, 34, 35, 36] (by decide +kernel) (by decide +kernel)
set_option maxRecDepth 20000 in
theorem gX3_trim_X1_sternTrim : GoodIn wsX3_trim (wsV RX3 109 RX1 yX1_sternTrim wsX1_sternTrim) := goodIn_app (goodIn_of _ (by decide +kernel)) ggX3_trim_X1_sternTrim
theorem dX3_trim_0 : decode cX3_trim 0 = .ok (.aload_n 0, 1) := by decide +kernel
theorem dX3_trim_1 : decode cX3_trim 1 = .ok (.iload_n 1, 1) := by decide +kernel
theorem dX3_trim_2 : decode cX3_trim 2 = .ok (.invokevirtual 92, 3) := by decide +kernel
theorem dX3_trim_5 : decode cX3_trim 5 = .ok (.astore_n 2, 1) := by decide +kernel
theorem dX3_trim_6 : decode cX3_trim 6 = .ok (.aload_n 2, 1) := by decide +kernel
theorem dX3_trim_7 : decode cX3_trim 7 = .ok (.ifnonnull 9, 3) := by decide +kernel
theorem dX3_trim_10 : decode cX3_trim 10 = .ok (.ldc2_w 96, 3) := by decide +kernel
theorem dX3_trim_13 : decode cX3_trim 13 = .ok (.goto 7, 3) := by decide +kernel
theorem dX3_trim_16 : decode cX3_trim 16 = .ok (.aload_n 2, 1) := by decide +kernel
theorem dX3_trim_17 : decode cX3_trim 17 = .ok (.invokevirtual 109, 3) := by decide +kernel
theorem dX3_trim_20 : decode cX3_trim 20 = .ok (.lreturn, 1) := by decide +kernel
set_option maxRecDepth 20000 in
theorem ggX3_deflection_X3_surveyAt : GoodIn wsX3_deflection wsX3_surveyAt := goodIn_r _ [6, 7, 31, 32, 33, 34, 35, 36, 37] (by decide +kernel) (by decide +kernel)
set_option maxRecDepth 20000 in
theorem gX3_deflection_X3_surveyAt : GoodIn wsX3_deflection (wsV RX3 92 RX3 yX3_surveyAt wsX3_surveyAt) := goodIn_app (goodIn_of _ (by decide +kernel)) ggX3_deflection_X3_surveyAt
set_option maxRecDepth 20000 in
theorem ggX3_deflection_X1_hullDeflection : GoodIn wsX3_deflection wsX1_hullDeflection := goodIn_r _ [12, 13, 14, 15, 16, 11, 17, 18, 19, 20, 21, 22, 23, 24, 25, 26, 27, 28, 29, 30, 38, 39, 40] (by decide +kernel) (by decide +kernel)
set_option maxRecDepth 20000 in
theorem gX3_deflection_X1_hullDeflection : GoodIn wsX3_deflection (wsV RX3 113 RX1 yX1_hullDeflection wsX1_hullDeflection) := goodIn_app (goodIn_of _ (by decide +kernel)) ggX3_deflection_X1_hullDeflection
theorem dX3_deflection_0 : decode cX3_deflection 0 = .ok (.aload_n 0, 1) := by decide +kernel
theorem dX3_deflection_1 : decode cX3_deflection 1 = .ok (.iload_n 1, 1) := by decide +kernel
theorem dX3_deflection_2 : decode cX3_deflection 2 = .ok (.invokevirtual 92, 3) := by decide +kernel
theorem dX3_deflection_5 : decode cX3_deflection 5 = .ok (.astore_n 2, 1) := by decide +kernel
theorem dX3_deflection_6 : decode cX3_deflection 6 = .ok (.aload_n 2, 1) := by decide +kernel
theorem dX3_deflection_7 : decode cX3_deflection 7 = .ok (.ifnonnull 9, 3) := by decide +kernel
theorem dX3_deflection_10 : decode cX3_deflection 10 = .ok (.ldc2_w 96, 3) := by decide +kernel
theorem dX3_deflection_13 : decode cX3_deflection 13 = .ok (.goto 7, 3) := by decide +kernel
theorem dX3_deflection_16 : decode cX3_deflection 16 = .ok (.aload_n 2, 1) := by decide +kernel
theorem dX3_deflection_17 : decode cX3_deflection 17 = .ok (.invokevirtual 113, 3) := by decide +kernel
theorem dX3_deflection_20 : decode cX3_deflection 20 = .ok (.lreturn, 1) := by decide +kernel
set_option maxRecDepth 20000 in
theorem ggX3_heel_X3_surveyAt : GoodIn wsX3_heel wsX3_surveyAt := goodIn_r _ [6, 7, 14, 15, 16, 17, 18, 19, 20] (by decide +kernel) (by decide +kernel)
set_option maxRecDepth 20000 in
theorem gX3_heel_X3_surveyAt : GoodIn wsX3_heel (wsV RX3 92 RX3 yX3_surveyAt wsX3_surveyAt) := goodIn_app (goodIn_of _ (by decide +kernel)) ggX3_heel_X3_surveyAt
set_option maxRecDepth 20000 in
theorem ggX3_heel_X1_starboardHeel : GoodIn wsX3_heel wsX1_starboardHeel := goodIn_r _ [12, 13, 21, 22, 23] (by decide +kernel) (by decide +kernel)
set_option maxRecDepth 20000 in
theorem gX3_heel_X1_starboardHeel : GoodIn wsX3_heel (wsV RX3 116 RX1 yX1_starboardHeel wsX1_starboardHeel) := goodIn_app (goodIn_of _ (by decide +kernel)) ggX3_heel_X1_starboardHeel
theorem dX3_heel_0 : decode cX3_heel 0 = .ok (.aload_n 0, 1) := by decide +kernel
theorem dX3_heel_1 : decode cX3_heel 1 = .ok (.iload_n 1, 1) := by decide +kernel
theorem dX3_heel_2 : decode cX3_heel 2 = .ok (.invokevirtual 92, 3) := by decide +kernel
theorem dX3_heel_5 : decode cX3_heel 5 = .ok (.astore_n 2, 1) := by decide +kernel
theorem dX3_heel_6 : decode cX3_heel 6 = .ok (.aload_n 2, 1) := by decide +kernel
theorem dX3_heel_7 : decode cX3_heel 7 = .ok (.ifnonnull 9, 3) := by decide +kernel
theorem dX3_heel_10 : decode cX3_heel 10 = .ok (.ldc2_w 96, 3) := by decide +kernel
theorem dX3_heel_13 : decode cX3_heel 13 = .ok (.goto 7, 3) := by decide +kernel
theorem dX3_heel_16 : decode cX3_heel 16 = .ok (.aload_n 2, 1) := by decide +kernel
theorem dX3_heel_17 : decode cX3_heel 17 = .ok (.invokevirtual 116, 3) := by decide +kernel
theorem dX3_heel_20 : decode cX3_heel 20 = .ok (.lreturn, 1) := by decide +kernel
set_option maxRecDepth 20000 in
theorem ggX3_quarterMean_X3_surveyAt : GoodIn wsX3_quarterMean wsX3_surveyAt := goodIn_r _ [6, 7, 33, 34, 35, 36, 37, 38, 39] (by decide +kernel) (by decide +kernel)
set_option maxRecDepth 20000 in
theorem gX3_quarterMean_X3_surveyAt : GoodIn wsX3_quarterMean (wsV RX3 92 RX3 yX3_surveyAt wsX3_surveyAt) := goodIn_app (goodIn_of _ (by decide +kernel)) ggX3_quarterMean_X3_surveyAt
set_option maxRecDepth 20000 in
theorem ggX3_quarterMean_X1_meanDraft : GoodIn wsX3_quarterMean wsX1_meanDraft := goodIn_r _ [12, 13, 14, 15, 16, 17, 11, 18, 19, 20, 21, 22, 23, 24, 25, 26, 27, 28, 29, 30, 31, 32, 40, 41, 42] (by decide +kernel) (by decide +kernel)
set_option maxRecDepth 20000 in
theorem gX3_quarterMean_X1_meanDraft : GoodIn wsX3_quarterMean (wsV RX3 119 RX1 yX1_meanDraft wsX1_meanDraft) := goodIn_app (goodIn_of _ (by decide +kernel)) ggX3_quarterMean_X1_meanDraft
theorem dX3_quarterMean_0 : decode cX3_quarterMean 0 = .ok (.aload_n 0, 1) := by decide +kernel
theorem dX3_quarterMean_1 : decode cX3_quarterMean 1 = .ok (.iload_n 1, 1) := by decide +kernel
theorem dX3_quarterMean_2 : decode cX3_quarterMean 2 = .ok (.invokevirtual 92, 3) := by decide +kernel
theorem dX3_quarterMean_5 : decode cX3_quarterMean 5 = .ok (.astore_n 2, 1) := by decide +kernel
theorem dX3_quarterMean_6 : decode cX3_quarterMean 6 = .ok (.aload_n 2, 1) := by decide +kernel
theorem dX3_quarterMean_7 : decode cX3_quarterMean 7 = .ok (.ifnonnull 9, 3) := by decide +kernel
theorem dX3_quarterMean_10 : decode cX3_quarterMean 10 = .ok (.ldc2_w 96, 3) := by decide +kernel
theorem dX3_quarterMean_13 : decode cX3_quarterMean 13 = .ok (.goto 7, 3) := by decide +kernel
theorem dX3_quarterMean_16 : decode cX3_quarterMean 16 = .ok (.aload_n 2, 1) := by decide +kernel
