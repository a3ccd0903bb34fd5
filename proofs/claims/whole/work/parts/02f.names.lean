theorem dX3_readBuffer_0 : decode cX3_readBuffer 0 = .ok (.aload_n 0, 1) := by decide +kernel
theorem dX3_readBuffer_1 : decode cX3_readBuffer 1 = .ok (.getfield 20, 3) := by decide +kernel
theorem dX3_readBuffer_4 : decode cX3_readBuffer 4 = .ok (.invokevirtual 184, 3) := by decide +kernel
theorem dX3_readBuffer_7 : decode cX3_readBuffer 7 = .ok (.iconst 0, 1) := by decide +kernel
theorem dX3_readBuffer_8 : decode cX3_readBuffer 8 = .ok (.istore_n 1, 1) := by decide +kernel
theorem dX3_readBuffer_9 : decode cX3_readBuffer 9 = .ok (.iload_n 1, 1) := by decide +kernel
theorem dX3_readBuffer_10 : decode cX3_readBuffer 10 = .ok (.aload_n 0, 1) := by decide +kernel
theorem dX3_readBuffer_11 : decode cX3_readBuffer 11 = .ok (.getfield 13, 3) := by decide +kernel
theorem dX3_readBuffer_14 : decode cX3_readBuffer 14 = .ok (.if_icmp .ge 33, 3) := by decide +kernel
theorem dX3_readBuffer_17 : decode cX3_readBuffer 17 = .ok (.iload_n 1, 1) := by decide +kernel
theorem dX3_readBuffer_18 : decode cX3_readBuffer 18 = .ok (.bipush 40, 2) := by decide +kernel
theorem dX3_readBuffer_20 : decode cX3_readBuffer 20 = .ok (.if_icmp .ge 27, 3) := by decide +kernel
theorem dX3_readBuffer_23 : decode cX3_readBuffer 23 = .ok (.aload_n 0, 1) := by decide +kernel
theorem dX3_readBuffer_24 : decode cX3_readBuffer 24 = .ok (.getfield 20, 3) := by decide +kernel
theorem dX3_readBuffer_27 : decode cX3_readBuffer 27 = .ok (.aload_n 0, 1) := by decide +kernel
theorem dX3_readBuffer_28 : decode cX3_readBuffer 28 = .ok (.getfield 9, 3) := by decide +kernel
theorem dX3_readBuffer_31 : decode cX3_readBuffer 31 = .ok (.iload_n 1, 1) := by decide +kernel
theorem dX3_readBuffer_32 : decode cX3_readBuffer 32 = .ok (.iaload, 1) := by decide +kernel
theorem dX3_readBuffer_33 : decode cX3_readBuffer 33 = .ok (.invokevirtual 187, 3) := by decide +kernel
theorem dX3_readBuffer_36 : decode cX3_readBuffer 36 = .ok (.ifCond .ne 5, 3) := by decide +kernel
theorem dX3_readBuffer_39 : decode cX3_readBuffer 39 = .ok (.iload_n 1, 1) := by decide +kernel
theorem dX3_readBuffer_40 : decode cX3_readBuffer 40 = .ok (.ireturn, 1) := by decide +kernel
theorem dX3_readBuffer_41 : decode cX3_readBuffer 41 = .ok (.iinc 1 1, 3) := by decide +kernel
theorem dX3_readBuffer_44 : decode cX3_readBuffer 44 = .ok (.goto (-35), 3) := by decide +kernel
theorem dX3_readBuffer_47 : decode cX3_readBuffer 47 = .ok (.aload_n 0, 1) := by decide +kernel
theorem dX3_readBuffer_48 : decode cX3_readBuffer 48 = .ok (.getfield 13, 3) := by decide +kernel
theorem dX3_readBuffer_51 : decode cX3_readBuffer 51 = .ok (.ireturn, 1) := by decide +kernel
set_option maxRecDepth 20000 in
theorem ggX3_canCompute_X1_meanDraft : GoodIn wsX3_canCompute wsX1_meanDraft := goodIn_r _ [6, 7, 8, 9, 10, 11, 5, 12, 13, 14, 15, 16, 17, 18, 19, 20, 21, 22, 23, 24, 25, 26, 53, 54, 55] (by decide +kernel) (by decide +kernel)
set_option maxRecDepth 20000 in
theorem gX3_canCompute_X1_meanDraft : GoodIn wsX3_canCompute (wsV RX3 119 RX1 yX1_meanDraft wsX1_meanDraft) := goodIn_app (goodIn_of _ (by decide +kernel)) ggX3_canCompute_X1_meanDraft
set_option maxRecDepth 20000 in
theorem ggX3_canCompute_X2_covers : GoodIn wsX3_canCompute wsX2_covers := goodIn_r _ [31, 32, 33, 34, 35, 30, 36, 37, 38, 39, 40, 41, 42, 43, 44, 45, 56, 57] (by decide +kernel) (by decide +kernel)
set_option maxRecDepth 20000 in
theorem gX3_canCompute_X2_covers : GoodIn wsX3_canCompute (wsV RX3 191 RX2 yX2_covers wsX2_covers) := goodIn_app (goodIn_of _ (by decide +kernel)) ggX3_canCompute_X2_covers
theorem dX3_canCompute_0 : decode cX3_canCompute 0 = .ok (.aload_n 0, 1) := by decide +kernel
theorem dX3_canCompute_1 : decode cX3_canCompute 1 = .ok (.getfield 27, 3) := by decide +kernel
theorem dX3_canCompute_4 : decode cX3_canCompute 4 = .ok (.aload_n 1, 1) := by decide +kernel
theorem dX3_canCompute_5 : decode cX3_canCompute 5 = .ok (.invokevirtual 119, 3) := by decide +kernel
theorem dX3_canCompute_8 : decode cX3_canCompute 8 = .ok (.lload_n 2, 1) := by decide +kernel
theorem dX3_canCompute_9 : decode cX3_canCompute 9 = .ok (.ladd, 1) := by decide +kernel
theorem dX3_canCompute_10 : decode cX3_canCompute 10 = .ok (.invokevirtual 191, 3) := by decide +kernel
theorem dX3_canCompute_13 : decode cX3_canCompute 13 = .ok (.ireturn, 1) := by decide +kernel
set_option maxRecDepth 20000 in
theorem ggX3_canComputeMargins_X3_canCompute : GoodIn wsX3_canComputeMargins wsX3_canCompute := goodIn_r _ [6, 7, 8, 9, 10, 11, 12, 13, 14, 15, 16, 17, 18, 19, 20, 21, 22, 23, 24, 25, 26, 27, 28, 29, 30, 31, 32, 33, 34, 35, 36, 37, 38, 39, 40, 41, 42, 43, 44, 45, 46, 47, 48, 49, 50, 51, 52, 53, 54, 55, 56, 57, 58, 59, 60, 61, 62, 63] (by decide +kernel) (by decide +kernel)
set_option maxRecDepth 20000 in
theorem gX3_canComputeMargins_X3_canCompute : GoodIn wsX3_canComputeMargins (wsV RX3 122 RX3 yX3_canCompute wsX3_canCompute) := goodIn_app (goodIn_of _ (by decide +kernel)) ggX3_canComputeMargins_X3_canCompute
theorem dX3_canComputeMargins_0 : decode cX3_canComputeMargins 0 = .ok (.aload_n 0, 1) := by decide +kernel
theorem dX3_canComputeMargins_1 : decode cX3_canComputeMargins 1 = .ok (.aload_n 1, 1) := by decide +kernel
theorem dX3_canComputeMargins_2 : decode cX3_canComputeMargins 2 = .ok (.aload_n 0, 1) := by decide +kernel
theorem dX3_canComputeMargins_3 : decode cX3_canComputeMargins 3 = .ok (.getfield 44, 3) := by decide +kernel
theorem dX3_canComputeMargins_6 : decode cX3_canComputeMargins 6 = .ok (.lneg, 1) := by decide +kernel
theorem dX3_canComputeMargins_7 : decode cX3_canComputeMargins 7 = .ok (.invokevirtual 122, 3) := by decide +kernel
theorem dX3_canComputeMargins_10 : decode cX3_canComputeMargins 10 = .ok (.ifCond .eq 19, 3) := by decide +kernel
theorem dX3_canComputeMargins_13 : decode cX3_canComputeMargins 13 = .ok (.aload_n 0, 1) := by decide +kernel
theorem dX3_canComputeMargins_14 : decode cX3_canComputeMargins 14 = .ok (.aload_n 1, 1) := by decide +kernel
theorem dX3_canComputeMargins_15 : decode cX3_canComputeMargins 15 = .ok (.aload_n 0, 1) := by decide +kernel
theorem dX3_canComputeMargins_16 : decode cX3_canComputeMargins 16 = .ok (.getfield 44, 3) := by decide +kernel
theorem dX3_canComputeMargins_19 : decode cX3_canComputeMargins 19 = .ok (.invokevirtual 122, 3) := by decide +kernel
theorem dX3_canComputeMargins_22 : decode cX3_canComputeMargins 22 = .ok (.ifCond .eq 7, 3) := by decide +kernel
theorem dX3_canComputeMargins_25 : decode cX3_canComputeMargins 25 = .ok (.iconst 1, 1) := by decide +kernel
theorem dX3_canComputeMargins_26 : decode cX3_canComputeMargins 26 = .ok (.goto 4, 3) := by decide +kernel
theorem dX3_canComputeMargins_29 : decode cX3_canComputeMargins 29 = .ok (.iconst 0, 1) := by decide +kernel
theorem dX3_canComputeMargins_30 : decode cX3_canComputeMargins 30 = .ok (.ireturn, 1) := by decide +kernel
set_option maxRecDepth 20000 in
theorem ggX3_firstCorrectionAt_X2_valueAt : GoodIn wsX3_firstCorrectionAt wsX2_valueAt := goodIn_r _ [8, 9, 10, 11, 12, 13, 7, 14, 15, 16, 17, 18, 19, 32, 33] (by decide +kernel) (by decide +kernel)
set_option maxRecDepth 20000 in
theorem gX3_firstCorrectionAt_X2_valueAt : GoodIn wsX3_firstCorrectionAt (wsV RX3 87 RX2 yX2_valueAt wsX2_valueAt) := goodIn_app (goodIn_of _ (by decide +kernel)) ggX3_firstCorrectionAt_X2_valueAt
set_option maxRecDepth 20000 in
theorem ggX3_firstCorrectionAt_X3_quotient : GoodIn wsX3_firstCorrectionAt wsX3_quotient := goodIn_r _ [23, 24, 17, 18, 19] (by decide +kernel) (by decide +kernel)
set_option maxRecDepth 20000 in
theorem gX3_firstCorrectionAt_X3_quotient : GoodIn wsX3_firstCorrectionAt (va_wsS RX3 197 yX3_quotient wsX3_quotient) := goodIn_app (goodIn_of _ (by decide +kernel)) ggX3_firstCorrectionAt_X3_quotient
theorem dX3_firstCorrectionAt_0 : decode cX3_firstCorrectionAt 0 = .ok (.lload_n 3, 1) := by decide +kernel
theorem dX3_firstCorrectionAt_1 : decode cX3_firstCorrectionAt 1 = .ok (.aload_n 0, 1) := by decide +kernel
theorem dX3_firstCorrectionAt_2 : decode cX3_firstCorrectionAt 2 = .ok (.getfield 27, 3) := by decide +kernel
theorem dX3_firstCorrectionAt_5 : decode cX3_firstCorrectionAt 5 = .ok (.iconst 2, 1) := by decide +kernel
theorem dX3_firstCorrectionAt_6 : decode cX3_firstCorrectionAt 6 = .ok (.lload_n 1, 1) := by decide +kernel
theorem dX3_firstCorrectionAt_7 : decode cX3_firstCorrectionAt 7 = .ok (.invokevirtual 87, 3) := by decide +kernel
theorem dX3_firstCorrectionAt_10 : decode cX3_firstCorrectionAt 10 = .ok (.lmul, 1) := by decide +kernel
theorem dX3_firstCorrectionAt_11 : decode cX3_firstCorrectionAt 11 = .ok (.aload_n 0, 1) := by decide +kernel
theorem dX3_firstCorrectionAt_12 : decode cX3_firstCorrectionAt 12 = .ok (.getfield 27, 3) := by decide +kernel
theorem dX3_firstCorrectionAt_15 : decode cX3_firstCorrectionAt 15 = .ok (.iconst 3, 1) := by decide +kernel
theorem dX3_firstCorrectionAt_16 : decode cX3_firstCorrectionAt 16 = .ok (.lload_n 1, 1) := by decide +kernel
theorem dX3_firstCorrectionAt_17 : decode cX3_firstCorrectionAt 17 = .ok (.invokevirtual 87, 3) := by decide +kernel
theorem dX3_firstCorrectionAt_20 : decode cX3_firstCorrectionAt 20 = .ok (.lmul, 1) := by decide +kernel
theorem dX3_firstCorrectionAt_21 : decode cX3_firstCorrectionAt 21 = .ok (.lstore 5, 2) := by decide +kernel
theorem dX3_firstCorrectionAt_23 : decode cX3_firstCorrectionAt 23 = .ok (.lload 5, 2) := by decide +kernel
theorem dX3_firstCorrectionAt_25 : decode cX3_firstCorrectionAt 25 = .ok (.ldc2_w 195, 3) := by decide +kernel
theorem dX3_firstCorrectionAt_28 : decode cX3_firstCorrectionAt 28 = .ok (.aload_n 0, 1) := by decide +kernel
theorem dX3_firstCorrectionAt_29 : decode cX3_firstCorrectionAt 29 = .ok (.getfield 40, 3) := by decide +kernel
theorem dX3_firstCorrectionAt_32 : decode cX3_firstCorrectionAt 32 = .ok (.lmul, 1) := by decide +kernel
theorem dX3_firstCorrectionAt_33 : decode cX3_firstCorrectionAt 33 = .ok (.invokestatic 197, 3) := by decide +kernel
theorem dX3_firstCorrectionAt_36 : decode cX3_firstCorrectionAt 36 = .ok (.lreturn, 1) := by decide +kernel
set_option maxRecDepth 20000 in
theorem ggX3_secondCorrectionAt_X2_firstDraft : GoodIn wsX3_secondCorrectionAt wsX2_firstDraft := goodIn_r _ [17, 18, 19, 20, 16, 21, 22, 23, 49, 50] (by decide +kernel) (by decide +kernel)
set_option maxRecDepth 20000 in
theorem gX3_secondCorrectionAt_X2_firstDraft : GoodIn wsX3_secondCorrectionAt (wsV RX3 202 RX2 yX2_firstDraft wsX2_firstDraft) := goodIn_app (goodIn_of _ (by decide +kernel)) ggX3_secondCorrectionAt_X2_firstDraft
set_option maxRecDepth 20000 in
theorem ggX3_secondCorrectionAt_X2_lastDraft : GoodIn wsX3_secondCorrectionAt wsX2_lastDraft := goodIn_r _ [27, 22, 18, 19, 20, 16, 21, 23, 49, 50] (by decide +kernel) (by decide +kernel)
set_option maxRecDepth 20000 in
theorem gX3_secondCorrectionAt_X2_lastDraft : GoodIn wsX3_secondCorrectionAt (wsV RX3 210 RX2 yX2_lastDraft wsX2_lastDraft) := goodIn_app (goodIn_of _ (by decide +kernel)) ggX3_secondCorrectionAt_X2_lastDraft
set_option maxRecDepth 20000 in
theorem ggX3_secondCorrectionAt_X2_valueAt : GoodIn wsX3_secondCorrectionAt wsX2_valueAt := goodIn_r _ [31, 22, 32, 18, 19, 20, 16, 21, 23, 33, 34, 35, 36, 49, 50] (by decide +kernel) (by decide +kernel)
set_option maxRecDepth 20000 in
theorem gX3_secondCorrectionAt_X2_valueAt : GoodIn wsX3_secondCorrectionAt (wsV RX3 87 RX2 yX2_valueAt wsX2_valueAt) := goodIn_app (goodIn_of _ (by decide +kernel)) ggX3_secondCorrectionAt_X2_valueAt
set_option maxRecDepth 20000 in
theorem ggX3_secondCorrectionAt_X3_quotient : GoodIn wsX3_secondCorrectionAt wsX3_quotient := goodIn_r _ [40, 41, 34, 35, 36] (by decide +kernel) (by decide +kernel)
set_option maxRecDepth 20000 in
theorem gX3_secondCorrectionAt_X3_quotient : GoodIn wsX3_secondCorrectionAt (va_wsS RX3 197 yX3_quotient wsX3_quotient) := goodIn_app (goodIn_of _ (by decide +kernel)) ggX3_secondCorrectionAt_X3_quotient
theorem dX3_secondCorrectionAt_0 : decode cX3_secondCorrectionAt 0 = .ok (.lload_n 1, 1) := by decide +kernel
theorem dX3_secondCorrectionAt_1 : decode cX3_secondCorrectionAt 1 = .ok (.ldc2_w 200, 3) := by decide +kernel
theorem dX3_secondCorrectionAt_4 : decode cX3_secondCorrectionAt 4 = .ok (.lsub, 1) := by decide +kernel
theorem dX3_secondCorrectionAt_5 : decode cX3_secondCorrectionAt 5 = .ok (.aload_n 0, 1) := by decide +kernel
theorem dX3_secondCorrectionAt_6 : decode cX3_secondCorrectionAt 6 = .ok (.getfield 27, 3) := by decide +kernel
theorem dX3_secondCorrectionAt_9 : decode cX3_secondCorrectionAt 9 = .ok (.invokevirtual 202, 3) := by decide +kernel
theorem dX3_secondCorrectionAt_12 : decode cX3_secondCorrectionAt 12 = .ok (.invokestatic 205, 3) := by decide +kernel
theorem dX3_secondCorrectionAt_15 : decode cX3_secondCorrectionAt 15 = .ok (.lstore 5, 2) := by decide +kernel
theorem dX3_secondCorrectionAt_17 : decode cX3_secondCorrectionAt 17 = .ok (.lload_n 1, 1) := by decide +kernel
theorem dX3_secondCorrectionAt_18 : decode cX3_secondCorrectionAt 18 = .ok (.ldc2_w 200, 3) := by decide +kernel
theorem dX3_secondCorrectionAt_21 : decode cX3_secondCorrectionAt 21 = .ok (.ladd, 1) := by decide +kernel
theorem dX3_secondCorrectionAt_22 : decode cX3_secondCorrectionAt 22 = .ok (.aload_n 0, 1) := by decide +kernel
theorem dX3_secondCorrectionAt_23 : decode cX3_secondCorrectionAt 23 = .ok (.getfield 27, 3) := by decide +kernel
theorem dX3_secondCorrectionAt_26 : decode cX3_secondCorrectionAt 26 = .ok (.invokevirtual 210, 3) := by decide +kernel
theorem dX3_secondCorrectionAt_29 : decode cX3_secondCorrectionAt 29 = .ok (.invokestatic 213, 3) := by decide +kernel
theorem dX3_secondCorrectionAt_32 : decode cX3_secondCorrectionAt 32 = .ok (.lstore 7, 2) := by decide +kernel
theorem dX3_secondCorrectionAt_34 : decode cX3_secondCorrectionAt 34 = .ok (.aload_n 0, 1) := by decide +kernel
theorem dX3_secondCorrectionAt_35 : decode cX3_secondCorrectionAt 35 = .ok (.getfield 27, 3) := by decide +kernel
theorem dX3_secondCorrectionAt_38 : decode cX3_secondCorrectionAt 38 = .ok (.iconst 4, 1) := by decide +kernel
theorem dX3_secondCorrectionAt_39 : decode cX3_secondCorrectionAt 39 = .ok (.lload 7, 2) := by decide +kernel
theorem dX3_secondCorrectionAt_41 : decode cX3_secondCorrectionAt 41 = .ok (.invokevirtual 87, 3) := by decide +kernel
theorem dX3_secondCorrectionAt_44 : decode cX3_secondCorrectionAt 44 = .ok (.aload_n 0, 1) := by decide +kernel
theorem dX3_secondCorrectionAt_45 : decode cX3_secondCorrectionAt 45 = .ok (.getfield 27, 3) := by decide +kernel
theorem dX3_secondCorrectionAt_48 : decode cX3_secondCorrectionAt 48 = .ok (.iconst 4, 1) := by decide +kernel
theorem dX3_secondCorrectionAt_49 : decode cX3_secondCorrectionAt 49 = .ok (.lload 5, 2) := by decide +kernel
theorem dX3_secondCorrectionAt_51 : decode cX3_secondCorrectionAt 51 = .ok (.invokevirtual 87, 3) := by decide +kernel
theorem dX3_secondCorrectionAt_54 : decode cX3_secondCorrectionAt 54 = .ok (.lsub, 1) := by decide +kernel
theorem dX3_secondCorrectionAt_55 : decode cX3_secondCorrectionAt 55 = .ok (.lstore 9, 2) := by decide +kernel
theorem dX3_secondCorrectionAt_57 : decode cX3_secondCorrectionAt 57 = .ok (.ldc2_w 216, 3) := by decide +kernel
theorem dX3_secondCorrectionAt_60 : decode cX3_secondCorrectionAt 60 = .ok (.lload_n 3, 1) := by decide +kernel
theorem dX3_secondCorrectionAt_61 : decode cX3_secondCorrectionAt 61 = .ok (.lmul, 1) := by decide +kernel
theorem dX3_secondCorrectionAt_62 : decode cX3_secondCorrectionAt 62 = .ok (.lload_n 3, 1) := by decide +kernel
theorem dX3_secondCorrectionAt_63 : decode cX3_secondCorrectionAt 63 = .ok (.lmul, 1) := by decide +kernel
theorem dX3_secondCorrectionAt_64 : decode cX3_secondCorrectionAt 64 = .ok (.lload 9, 2) := by decide +kernel
theorem dX3_secondCorrectionAt_66 : decode cX3_secondCorrectionAt 66 = .ok (.lmul, 1) := by decide +kernel
theorem dX3_secondCorrectionAt_67 : decode cX3_secondCorrectionAt 67 = .ok (.ldc2_w 218, 3) := by decide +kernel
theorem dX3_secondCorrectionAt_70 : decode cX3_secondCorrectionAt 70 = .ok (.aload_n 0, 1) := by decide +kernel
theorem dX3_secondCorrectionAt_71 : decode cX3_secondCorrectionAt 71 = .ok (.getfield 40, 3) := by decide +kernel
theorem dX3_secondCorrectionAt_74 : decode cX3_secondCorrectionAt 74 = .ok (.lmul, 1) := by decide +kernel
theorem dX3_secondCorrectionAt_75 : decode cX3_secondCorrectionAt 75 = .ok (.invokestatic 197, 3) := by decide +kernel
theorem dX3_secondCorrectionAt_78 : decode cX3_secondCorrectionAt 78 = .ok (.lreturn, 1) := by decide +kernel
set_option maxRecDepth 20000 in
theorem ggX3_displacementOf_X1_meanDraft : GoodIn wsX3_displacementOf wsX1_meanDraft := goodIn_r _ [7, 8, 9, 10, 11, 12, 6, 13, 14, 15, 16, 17, 18, 19, 20, 21, 22, 23, 24, 25, 26, 27, 85, 86, 87] (by decide +kernel) (by decide +kernel)
set_option maxRecDepth 20000 in
theorem gX3_displacementOf_X1_meanDraft : GoodIn wsX3_displacementOf (wsV RX3 119 RX1 yX1_meanDraft wsX1_meanDraft) := goodIn_app (goodIn_of _ (by decide +kernel)) ggX3_displacementOf_X1_meanDraft
set_option maxRecDepth 20000 in
theorem ggX3_displacementOf_X1_sternTrim : GoodIn wsX3_displacementOf wsX1_sternTrim := goodIn_r _ [31, 24, 25, 26, 6, 27, 14, 15, 16, 17, 18, 19, 10, 11, 12, 13, 85, 86, 87] (by decide +kernel) (by decide +kernel)
set_option maxRecDepth 20000 in
theorem gX3_displacementOf_X1_sternTrim : GoodIn wsX3_displacementOf (wsV RX3 109 RX1 yX1_sternTrim wsX1_sternTrim) := goodIn_app (goodIn_of _ (by decide +kernel)) ggX3_displacementOf_X1_sternTrim
set_option maxRecDepth 20000 in
theorem ggX3_displacementOf_X2_valueAt : GoodIn wsX3_displacementOf wsX2_valueAt := goodIn_r _ [36, 37, 38, 39, 40, 41, 35, 42, 43, 44, 17, 18, 19, 88, 89] (by decide +kernel) (by decide +kernel)
set_option maxRecDepth 20000 in
theorem gX3_displacementOf_X2_valueAt : GoodIn wsX3_displacementOf (wsV RX3 87 RX2 yX2_valueAt wsX2_valueAt) := goodIn_app (goodIn_of _ (by decide +kernel)) ggX3_displacementOf_X2_valueAt
set_option maxRecDepth 20000 in
theorem ggX3_displacementOf_X3_firstCorrectionAt : GoodIn wsX3_displacementOf wsX3_firstCorrectionAt := goodIn_r _ [49, 1, 50, 51, 32, 33, 34, 35, 36, 37, 38, 39, 40, 41, 42, 43, 44, 17, 18, 19, 52, 53, 48, 54, 55, 78, 79, 80, 81, 82, 83, 84, 88, 89] (by decide +kernel) (by decide +kernel)
set_option maxRecDepth 20000 in
theorem gX3_displacementOf_X3_firstCorrectionAt : GoodIn wsX3_displacementOf (wsV RX3 128 RX3 yX3_firstCorrectionAt wsX3_firstCorrectionAt) := goodIn_app (goodIn_of _ (by decide +kernel)) ggX3_displacementOf_X3_firstCorrectionAt
set_option maxRecDepth 20000 in
theorem ggX3_displacementOf_X3_secondCorrectionAt : GoodIn wsX3_displacementOf wsX3_secondCorrectionAt := goodIn_r _ [59, 60, 1, 61, 62, 63, 64, 65, 66, 67, 68, 69, 51, 70, 71, 72, 35, 73, 39, 40, 41, 42, 37, 43, 74, 75, 76, 77, 32, 33, 34, 36, 38, 44, 17, 18, 19, 52, 53, 48, 54, 55, 78, 79, 80, 81, 82, 83, 84, 88, 89] (by decide +kernel) (by decide +kernel)
set_option maxRecDepth 20000 in
theorem gX3_displacementOf_X3_secondCorrectionAt : GoodIn wsX3_displacementOf (wsV RX3 132 RX3 yX3_secondCorrectionAt wsX3_secondCorrectionAt) := goodIn_app (goodIn_of _ (by decide +kernel)) ggX3_displacementOf_X3_secondCorrectionAt
set_option maxRecDepth 20000 in
theorem ggX3_displacementOf_J9_floorDiv_f86c9 : GoodIn wsX3_displacementOf wsJ9_floorDiv_f86c9 := goodIn_r _ [19] (by decide +kernel) (by decide +kernel)
set_option maxRecDepth 20000 in
theorem gX3_displacementOf_J9_floorDiv_f86c9 : GoodIn wsX3_displacementOf (va_wsS RX3 222 yJ9_floorDiv_f86c9 wsJ9_floorDiv_f86c9) := goodIn_app (goodIn_of _ (by decide +kernel)) ggX3_displacementOf_J9_floorDiv_f86c9
theorem dX3_displacementOf_0 : decode cX3_displacementOf 0 = .ok (.aload_n 1, 1) := by decide +kernel
theorem dX3_displacementOf_1 : decode cX3_displacementOf 1 = .ok (.invokevirtual 119, 3) := by decide +kernel
theorem dX3_displacementOf_4 : decode cX3_displacementOf 4 = .ok (.lload_n 2, 1) := by decide +kernel
theorem dX3_displacementOf_5 : decode cX3_displacementOf 5 = .ok (.ladd, 1) := by decide +kernel
theorem dX3_displacementOf_6 : decode cX3_displacementOf 6 = .ok (.lstore 4, 2) := by decide +kernel
theorem dX3_displacementOf_8 : decode cX3_displacementOf 8 = .ok (.aload_n 1, 1) := by decide +kernel
theorem dX3_displacementOf_9 : decode cX3_displacementOf 9 = .ok (.invokevirtual 109, 3) := by decide +kernel
theorem dX3_displacementOf_12 : decode cX3_displacementOf 12 = .ok (.lstore 6, 2) := by decide +kernel
theorem dX3_displacementOf_14 : decode cX3_displacementOf 14 = .ok (.aload_n 0, 1) := by decide +kernel
theorem dX3_displacementOf_15 : decode cX3_displacementOf 15 = .ok (.getfield 27, 3) := by decide +kernel
theorem dX3_displacementOf_18 : decode cX3_displacementOf 18 = .ok (.iconst 1, 1) := by decide +kernel
theorem dX3_displacementOf_19 : decode cX3_displacementOf 19 = .ok (.lload 4, 2) := by decide +kernel
theorem dX3_displacementOf_21 : decode cX3_displacementOf 21 = .ok (.invokevirtual 87, 3) := by decide +kernel
theorem dX3_displacementOf_24 : decode cX3_displacementOf 24 = .ok (.aload_n 0, 1) := by decide +kernel
theorem dX3_displacementOf_25 : decode cX3_displacementOf 25 = .ok (.lload 4, 2) := by decide +kernel
theorem dX3_displacementOf_27 : decode cX3_displacementOf 27 = .ok (.lload 6, 2) := by decide +kernel
theorem dX3_displacementOf_29 : decode cX3_displacementOf 29 = .ok (.invokevirtual 128, 3) := by decide +kernel
theorem dX3_displacementOf_32 : decode cX3_displacementOf 32 = .ok (.ladd, 1) := by decide +kernel
theorem dX3_displacementOf_33 : decode cX3_displacementOf 33 = .ok (.aload_n 0, 1) := by decide +kernel
theorem dX3_displacementOf_34 : decode cX3_displacementOf 34 = .ok (.lload 4, 2) := by decide +kernel
theorem dX3_displacementOf_36 : decode cX3_displacementOf 36 = .ok (.lload 6, 2) := by decide +kernel
theorem dX3_displacementOf_38 : decode cX3_displacementOf 38 = .ok (.invokevirtual 132, 3) := by decide +kernel
theorem dX3_displacementOf_41 : decode cX3_displacementOf 41 = .ok (.ladd, 1) := by decide +kernel
theorem dX3_displacementOf_42 : decode cX3_displacementOf 42 = .ok (.lstore 8, 2) := by decide +kernel
theorem dX3_displacementOf_44 : decode cX3_displacementOf 44 = .ok (.lload 8, 2) := by decide +kernel
theorem dX3_displacementOf_46 : decode cX3_displacementOf 46 = .ok (.aload_n 1, 1) := by decide +kernel
theorem dX3_displacementOf_47 : decode cX3_displacementOf 47 = .ok (.getfield 102, 3) := by decide +kernel
theorem dX3_displacementOf_50 : decode cX3_displacementOf 50 = .ok (.lmul, 1) := by decide +kernel
theorem dX3_displacementOf_51 : decode cX3_displacementOf 51 = .ok (.ldc2_w 220, 3) := by decide +kernel
theorem dX3_displacementOf_54 : decode cX3_displacementOf 54 = .ok (.invokestatic 222, 3) := by decide +kernel
theorem dX3_displacementOf_57 : decode cX3_displacementOf 57 = .ok (.lreturn, 1) := by decide +kernel
set_option maxRecDepth 20000 in
theorem ggX3_netWeightOf_X3_displacementOf : GoodIn wsX3_netWeightOf wsX3_displacementOf := goodIn_r _ [5, 6, 7, 8, 9, 10, 11, 12, 13, 14, 15, 16, 17, 18, 19, 20, 21, 22, 23, 24, 25, 26, 27, 28, 29, 30, 31, 32, 33, 34, 35, 36, 37, 38, 39, 40, 41, 42, 43, 44, 45, 46, 47, 48, 49, 50, 51, 52, 4, 53, 54, 55, 56, 57, 58, 59, 60, 61, 62, 63, 64, 65, 66, 67, 68, 69, 70, 71, 72, 73, 74, 75, 76, 77, 78, 79, 80, 81, 87, 88, 89, 90, 91, 92, 93, 94, 95, 96, 97, 98] (by decide +kernel) (by decide +kernel)
set_option maxRecDepth 20000 in
theorem gX3_netWeightOf_X3_displacementOf : GoodIn wsX3_netWeightOf (wsV RX3 135 RX3 yX3_displacementOf wsX3_displacementOf) := goodIn_app (goodIn_of _ (by decide +kernel)) ggX3_netWeightOf_X3_displacementOf
set_option maxRecDepth 20000 in
theorem ggX3_netWeightOf_X1_deducted : GoodIn wsX3_netWeightOf wsX1_deducted := goodIn_r _ [85, 86, 94, 95, 96] (by decide +kernel) (by decide +kernel)
set_option maxRecDepth 20000 in
theorem gX3_netWeightOf_X1_deducted : GoodIn wsX3_netWeightOf (wsV RX3 225 RX1 yX1_deducted wsX1_deducted) := goodIn_app (goodIn_of _ (by decide +kernel)) ggX3_netWeightOf_X1_deducted
theorem dX3_netWeightOf_0 : decode cX3_netWeightOf 0 = .ok (.aload_n 0, 1) := by decide +kernel
theorem dX3_netWeightOf_1 : decode cX3_netWeightOf 1 = .ok (.aload_n 1, 1) := by decide +kernel
theorem dX3_netWeightOf_2 : decode cX3_netWeightOf 2 = .ok (.lload_n 2, 1) := by decide +kernel
theorem dX3_netWeightOf_3 : decode cX3_netWeightOf 3 = .ok (.invokevirtual 135, 3) := by decide +kernel
theorem dX3_netWeightOf_6 : decode cX3_netWeightOf 6 = .ok (.aload_n 1, 1) := by decide +kernel
theorem dX3_netWeightOf_7 : decode cX3_netWeightOf 7 = .ok (.invokevirtual 225, 3) := by decide +kernel
theorem dX3_netWeightOf_10 : decode cX3_netWeightOf 10 = .ok (.lsub, 1) := by decide +kernel
theorem dX3_netWeightOf_11 : decode cX3_netWeightOf 11 = .ok (.lreturn, 1) := by decide +kernel
set_option maxRecDepth 20000 in
theorem ggX3_lightWeight_X3_netWeightOf : GoodIn wsX3_lightWeight wsX3_netWeightOf := goodIn_r _ [10, 11, 12, 13, 9, 14, 15, 16, 17, 18, 19, 20, 21, 22, 23, 24, 25, 26, 27, 28, 29, 30, 31, 32, 33, 34, 35, 36, 37, 38, 39, 40, 41, 42, 43, 44, 45, 46, 47, 48, 49, 50, 51, 52, 53, 54, 55, 56, 57, 58, 59, 60, 61, 62, 63, 64, 65, 66, 67, 68, 69, 70, 71, 72, 73, 74, 75, 4, 76, 2, 3, 5, 77, 78, 79, 80, 81, 82, 83, 84, 85, 86, 87, 88, 89, 90, 91, 92, 93, 94, 95, 96, 97, 98, 99, 100, 101, 102, 103] (by decide +kernel) (by decide +kernel)
set_option maxRecDepth 20000 in
theorem gX3_lightWeight_X3_netWeightOf : GoodIn wsX3_lightWeight (wsV RX3 139 RX3 yX3_netWeightOf wsX3_netWeightOf) := goodIn_app (goodIn_of _ (by decide +kernel)) ggX3_lightWeight_X3_netWeightOf
theorem dX3_lightWeight_0 : decode cX3_lightWeight 0 = .ok (.aload_n 0, 1) := by decide +kernel
theorem dX3_lightWeight_1 : decode cX3_lightWeight 1 = .ok (.aload_n 1, 1) := by decide +kernel
theorem dX3_lightWeight_2 : decode cX3_lightWeight 2 = .ok (.aload_n 0, 1) := by decide +kernel
theorem dX3_lightWeight_3 : decode cX3_lightWeight 3 = .ok (.getfield 44, 3) := by decide +kernel
theorem dX3_lightWeight_6 : decode cX3_lightWeight 6 = .ok (.lneg, 1) := by decide +kernel
theorem dX3_lightWeight_7 : decode cX3_lightWeight 7 = .ok (.invokevirtual 139, 3) := by decide +kernel
theorem dX3_lightWeight_10 : decode cX3_lightWeight 10 = .ok (.aload_n 0, 1) := by decide +kernel
theorem dX3_lightWeight_11 : decode cX3_lightWeight 11 = .ok (.aload_n 1, 1) := by decide +kernel
theorem dX3_lightWeight_12 : decode cX3_lightWeight 12 = .ok (.aload_n 0, 1) := by decide +kernel
theorem dX3_lightWeight_13 : decode cX3_lightWeight 13 = .ok (.getfield 44, 3) := by decide +kernel
theorem dX3_lightWeight_16 : decode cX3_lightWeight 16 = .ok (.invokevirtual 139, 3) := by decide +kernel
theorem dX3_lightWeight_19 : decode cX3_lightWeight 19 = .ok (.invokestatic 213, 3) := by decide +kernel
theorem dX3_lightWeight_22 : decode cX3_lightWeight 22 = .ok (.lreturn, 1) := by decide +kernel
set_option maxRecDepth 20000 in
theorem ggX3_heavyWeight_X3_netWeightOf : GoodIn wsX3_heavyWeight wsX3_netWeightOf := goodIn_r _ [10, 11, 12, 13, 9, 14, 15, 16, 17, 18, 19, 20, 21, 22, 23, 24, 25, 26, 27, 28, 29, 30, 31, 32, 33, 34, 35, 36, 37, 38, 39, 40, 41, 42, 43, 44, 45, 46, 47, 48, 49, 50, 51, 52, 53, 54, 55, 56, 57, 58, 59, 60, 61, 62, 63, 64, 65, 66, 67, 68, 69, 70, 71, 72, 73, 2, 3, 4, 5, 74, 75, 76, 77, 78, 79, 80, 81, 82, 83, 84, 85, 86, 87, 88, 89, 90, 91, 92, 93, 94, 95, 96, 97, 98, 99, 100, 101, 102, 103] (by decide +kernel) (by decide +kernel)
set_option maxRecDepth 20000 in
theorem gX3_heavyWeight_X3_netWeightOf : GoodIn wsX3_heavyWeight (wsV RX3 139 RX3 yX3_netWeightOf wsX3_netWeightOf) := goodIn_app (goodIn_of _ (by decide +kernel)) ggX3_heavyWeight_X3_netWeightOf
theorem dX3_heavyWeight_0 : decode cX3_heavyWeight 0 = .ok (.aload_n 0, 1) := by decide +kernel
theorem dX3_heavyWeight_1 : decode cX3_heavyWeight 1 = .ok (.aload_n 1, 1) := by decide +kernel
theorem dX3_heavyWeight_2 : decode cX3_heavyWeight 2 = .ok (.aload_n 0, 1) := by decide +kernel
theorem dX3_heavyWeight_3 : decode cX3_heavyWeight 3 = .ok (.getfield 44, 3) := by decide +kernel
theorem dX3_heavyWeight_6 : decode cX3_heavyWeight 6 = .ok (.lneg, 1) := by decide +kernel
theorem dX3_heavyWeight_7 : decode cX3_heavyWeight 7 = .ok (.invokevirtual 139, 3) := by decide +kernel
theorem dX3_heavyWeight_10 : decode cX3_heavyWeight 10 = .ok (.aload_n 0, 1) := by decide +kernel
theorem dX3_heavyWeight_11 : decode cX3_heavyWeight 11 = .ok (.aload_n 1, 1) := by decide +kernel
theorem dX3_heavyWeight_12 : decode cX3_heavyWeight 12 = .ok (.aload_n 0, 1) := by decide +kernel
theorem dX3_heavyWeight_13 : decode cX3_heavyWeight 13 = .ok (.getfield 44, 3) := by decide +kernel
theorem dX3_heavyWeight_16 : decode cX3_heavyWeight 16 = .ok (.invokevirtual 139, 3) := by decide +kernel
theorem dX3_heavyWeight_19 : decode cX3_heavyWeight 19 = .ok (.invokestatic 205, 3) := by decide +kernel
theorem dX3_heavyWeight_22 : decode cX3_heavyWeight 22 = .ok (.lreturn, 1) := by decide +kernel
set_option maxRecDepth 20000 in
theorem ggX3_quotient_J9_floorDiv_f86c9 : GoodIn wsX3_quotient wsJ9_floorDiv_f86c9 := goodIn_r _ [4] (by decide +kernel) (by decide +kernel)
set_option maxRecDepth 20000 in
theorem gX3_quotient_J9_floorDiv_f86c9 : GoodIn wsX3_quotient (va_wsS RX3 222 yJ9_floorDiv_f86c9 wsJ9_floorDiv_f86c9) := goodIn_app (goodIn_of _ (by decide +kernel)) ggX3_quotient_J9_floorDiv_f86c9
theorem dX3_quotient_0 : decode cX3_quotient 0 = .ok (.lload_n 2, 1) := by decide +kernel
theorem dX3_quotient_1 : decode cX3_quotient 1 = .ok (.lconst 0, 1) := by decide +kernel
theorem dX3_quotient_2 : decode cX3_quotient 2 = .ok (.lcmp, 1) := by decide +kernel
theorem dX3_quotient_3 : decode cX3_quotient 3 = .ok (.ifCond .ne 7, 3) := by decide +kernel
theorem dX3_quotient_6 : decode cX3_quotient 6 = .ok (.lconst 0, 1) := by decide +kernel
theorem dX3_quotient_7 : decode cX3_quotient 7 = .ok (.goto 8, 3) := by decide +kernel
theorem dX3_quotient_10 : decode cX3_quotient 10 = .ok (.lload_n 0, 1) := by decide +kernel
theorem dX3_quotient_11 : decode cX3_quotient 11 = .ok (.lload_n 2, 1) := by decide +kernel
theorem dX3_quotient_12 : decode cX3_quotient 12 = .ok (.invokestatic 222, 3) := by decide +kernel
theorem dX3_quotient_15 : decode cX3_quotient 15 = .ok (.lreturn, 1) := by decide +kernel
theorem dX3_hashWith_0 : decode cX3_hashWith 0 = .ok (.ldc2_w 228, 3) := by decide +kernel
theorem dX3_hashWith_3 : decode cX3_hashWith 3 = .ok (.lload_n 0, 1) := by decide +kernel
theorem dX3_hashWith_4 : decode cX3_hashWith 4 = .ok (.lmul, 1) := by decide +kernel
theorem dX3_hashWith_5 : decode cX3_hashWith 5 = .ok (.lload_n 2, 1) := by decide +kernel
theorem dX3_hashWith_6 : decode cX3_hashWith 6 = .ok (.ladd, 1) := by decide +kernel
theorem dX3_hashWith_7 : decode cX3_hashWith 7 = .ok (.lreturn, 1) := by decide +kernel
set_option maxRecDepth 20000 in
theorem ggX3_hashOfTable_X3_hashWith : GoodIn wsX3_hashOfTable wsX3_hashWith := goodIn_r _ [5, 6] (by decide +kernel) (by decide +kernel)
set_option maxRecDepth 20000 in
theorem gX3_hashOfTable_X3_hashWith : GoodIn wsX3_hashOfTable (va_wsS RX3 169 yX3_hashWith wsX3_hashWith) := goodIn_app (goodIn_of _ (by decide +kernel)) ggX3_hashOfTable_X3_hashWith
set_option maxRecDepth 20000 in
theorem ggX3_hashOfTable_X2_cell : GoodIn wsX3_hashOfTable wsX2_cell := goodIn_r _ [11, 12, 13, 21, 22] (by decide +kernel) (by decide +kernel)
set_option maxRecDepth 20000 in
theorem gX3_hashOfTable_X2_cell : GoodIn wsX3_hashOfTable (wsV RX3 83 RX2 yX2_cell wsX2_cell) := goodIn_app (goodIn_of _ (by decide +kernel)) ggX3_hashOfTable_X2_cell
theorem dX3_hashOfTable_0 : decode cX3_hashOfTable 0 = .ok (.lload_n 1, 1) := by decide +kernel
theorem dX3_hashOfTable_1 : decode cX3_hashOfTable 1 = .ok (.aload_n 0, 1) := by decide +kernel
theorem dX3_hashOfTable_2 : decode cX3_hashOfTable 2 = .ok (.getfield 27, 3) := by decide +kernel
theorem dX3_hashOfTable_5 : decode cX3_hashOfTable 5 = .ok (.getfield 78, 3) := by decide +kernel
theorem dX3_hashOfTable_8 : decode cX3_hashOfTable 8 = .ok (.i2l, 1) := by decide +kernel
theorem dX3_hashOfTable_9 : decode cX3_hashOfTable 9 = .ok (.invokestatic 169, 3) := by decide +kernel
theorem dX3_hashOfTable_12 : decode cX3_hashOfTable 12 = .ok (.lstore_n 3, 1) := by decide +kernel
theorem dX3_hashOfTable_13 : decode cX3_hashOfTable 13 = .ok (.iconst 0, 1) := by decide +kernel
theorem dX3_hashOfTable_14 : decode cX3_hashOfTable 14 = .ok (.istore 5, 2) := by decide +kernel
theorem dX3_hashOfTable_16 : decode cX3_hashOfTable 16 = .ok (.iload 5, 2) := by decide +kernel
theorem dX3_hashOfTable_18 : decode cX3_hashOfTable 18 = .ok (.aload_n 0, 1) := by decide +kernel
theorem dX3_hashOfTable_19 : decode cX3_hashOfTable 19 = .ok (.getfield 27, 3) := by decide +kernel
theorem dX3_hashOfTable_22 : decode cX3_hashOfTable 22 = .ok (.getfield 78, 3) := by decide +kernel
theorem dX3_hashOfTable_25 : decode cX3_hashOfTable 25 = .ok (.if_icmp .ge 40, 3) := by decide +kernel
theorem dX3_hashOfTable_28 : decode cX3_hashOfTable 28 = .ok (.iconst 0, 1) := by decide +kernel
theorem dX3_hashOfTable_29 : decode cX3_hashOfTable 29 = .ok (.istore 6, 2) := by decide +kernel
theorem dX3_hashOfTable_31 : decode cX3_hashOfTable 31 = .ok (.iload 6, 2) := by decide +kernel
theorem dX3_hashOfTable_33 : decode cX3_hashOfTable 33 = .ok (.iconst 5, 1) := by decide +kernel
theorem dX3_hashOfTable_34 : decode cX3_hashOfTable 34 = .ok (.if_icmp .ge 25, 3) := by decide +kernel
theorem dX3_hashOfTable_37 : decode cX3_hashOfTable 37 = .ok (.lload_n 3, 1) := by decide +kernel
theorem dX3_hashOfTable_38 : decode cX3_hashOfTable 38 = .ok (.aload_n 0, 1) := by decide +kernel
theorem dX3_hashOfTable_39 : decode cX3_hashOfTable 39 = .ok (.getfield 27, 3) := by decide +kernel
theorem dX3_hashOfTable_42 : decode cX3_hashOfTable 42 = .ok (.iload 5, 2) := by decide +kernel
theorem dX3_hashOfTable_44 : decode cX3_hashOfTable 44 = .ok (.iload 6, 2) := by decide +kernel
theorem dX3_hashOfTable_46 : decode cX3_hashOfTable 46 = .ok (.invokevirtual 83, 3) := by decide +kernel
theorem dX3_hashOfTable_49 : decode cX3_hashOfTable 49 = .ok (.invokestatic 169, 3) := by decide +kernel
theorem dX3_hashOfTable_52 : decode cX3_hashOfTable 52 = .ok (.lstore_n 3, 1) := by decide +kernel
theorem dX3_hashOfTable_53 : decode cX3_hashOfTable 53 = .ok (.iinc 6 1, 3) := by decide +kernel
theorem dX3_hashOfTable_56 : decode cX3_hashOfTable 56 = .ok (.goto (-25), 3) := by decide +kernel
theorem dX3_hashOfTable_59 : decode cX3_hashOfTable 59 = .ok (.iinc 5 1, 3) := by decide +kernel
theorem dX3_hashOfTable_62 : decode cX3_hashOfTable 62 = .ok (.goto (-46), 3) := by decide +kernel
theorem dX3_hashOfTable_65 : decode cX3_hashOfTable 65 = .ok (.lload_n 3, 1) := by decide +kernel
theorem dX3_hashOfTable_66 : decode cX3_hashOfTable 66 = .ok (.lreturn, 1) := by decide +kernel
set_option maxRecDepth 20000 in
theorem ggX3_hashOfSurvey_X3_reading : GoodIn wsX3_hashOfSurvey wsX3_reading := goodIn_r _ [5, 6, 7, 8, 9, 10, 4, 11, 12, 158, 159, 160, 161, 162, 163, 164, 165, 166, 167] (by decide +kernel) (by decide +kernel)
set_option maxRecDepth 20000 in
theorem gX3_hashOfSurvey_X3_reading : GoodIn wsX3_hashOfSurvey (wsV RX3 230 RX3 yX3_reading wsX3_reading) := goodIn_app (goodIn_of _ (by decide +kernel)) ggX3_hashOfSurvey_X3_reading
set_option maxRecDepth 20000 in
theorem ggX3_hashOfSurvey_X3_hashWith : GoodIn wsX3_hashOfSurvey wsX3_hashWith := goodIn_r _ [15, 16] (by decide +kernel) (by decide +kernel)
set_option maxRecDepth 20000 in
theorem gX3_hashOfSurvey_X3_hashWith : GoodIn wsX3_hashOfSurvey (va_wsS RX3 169 yX3_hashWith wsX3_hashWith) := goodIn_app (goodIn_of _ (by decide +kernel)) ggX3_hashOfSurvey_X3_hashWith
set_option maxRecDepth 20000 in
theorem ggX3_hashOfSurvey_X3_trim : GoodIn wsX3_hashOfSurvey wsX3_trim := goodIn_r _ [20, 6, 8, 9, 10, 4, 11, 12, 21, 22, 23, 24, 25, 26, 27, 28, 29, 30, 31, 32, 33, 34, 35, 36, 37, 38, 39, 161, 162, 163, 164, 165, 166, 167, 158, 159, 160] (by decide +kernel) (by decide +kernel)
set_option maxRecDepth 20000 in
theorem gX3_hashOfSurvey_X3_trim : GoodIn wsX3_hashOfSurvey (wsV RX3 233 RX3 yX3_trim wsX3_trim) := goodIn_app (goodIn_of _ (by decide +kernel)) ggX3_hashOfSurvey_X3_trim
set_option maxRecDepth 20000 in
theorem ggX3_hashOfSurvey_X3_deflection : GoodIn wsX3_hashOfSurvey wsX3_deflection := goodIn_r _ [43, 6, 8, 9, 10, 4, 11, 12, 44, 45, 46, 24, 47, 31, 48, 49, 50, 51, 30, 32, 33, 34, 35, 36, 37, 38, 39, 26, 27, 28, 29, 161, 162, 163, 164, 165, 166, 167, 158, 159, 160] (by decide +kernel) (by decide +kernel)
set_option maxRecDepth 20000 in
theorem gX3_hashOfSurvey_X3_deflection : GoodIn wsX3_hashOfSurvey (wsV RX3 236 RX3 yX3_deflection wsX3_deflection) := goodIn_app (goodIn_of _ (by decide +kernel)) ggX3_hashOfSurvey_X3_deflection
set_option maxRecDepth 20000 in
theorem ggX3_hashOfSurvey_X3_heel : GoodIn wsX3_hashOfSurvey wsX3_heel := goodIn_r _ [55, 6, 8, 9, 10, 4, 11, 12, 56, 57, 58, 24, 59, 30, 161, 162, 163, 164, 165, 166, 167, 158, 159, 160] (by decide +kernel) (by decide +kernel)
set_option maxRecDepth 20000 in
theorem gX3_hashOfSurvey_X3_heel : GoodIn wsX3_hashOfSurvey (wsV RX3 239 RX3 yX3_heel wsX3_heel) := goodIn_app (goodIn_of _ (by decide +kernel)) ggX3_hashOfSurvey_X3_heel
set_option maxRecDepth 20000 in
theorem ggX3_hashOfSurvey_X3_quarterMean : GoodIn wsX3_hashOfSurvey wsX3_quarterMean := goodIn_r _ [63, 6, 8, 9, 10, 4, 11, 12, 64, 65, 66, 24, 67, 68, 69, 36, 37, 38, 39, 30, 31, 32, 33, 34, 35, 48, 49, 50, 51, 26, 27, 28, 29, 161, 162, 163, 164, 165, 166, 167, 158, 159, 160] (by decide +kernel) (by decide +kernel)
set_option maxRecDepth 20000 in
theorem gX3_hashOfSurvey_X3_quarterMean : GoodIn wsX3_hashOfSurvey (wsV RX3 242 RX3 yX3_quarterMean wsX3_quarterMean) := goodIn_app (goodIn_of _ (by decide +kernel)) ggX3_hashOfSurvey_X3_quarterMean
set_option maxRecDepth 20000 in
theorem ggX3_hashOfSurvey_X3_firstCorrection : GoodIn wsX3_hashOfSurvey wsX3_firstCorrection := goodIn_r _ [73, 6, 74, 8, 9, 10, 4, 11, 12, 75, 76, 77, 78, 79, 64, 65, 66, 24, 67, 68, 69, 36, 37, 38, 39, 30, 31, 32, 33, 34, 35, 48, 49, 50, 51, 26, 27, 28, 29, 80, 81, 82, 83, 84, 85, 86, 87, 88, 89, 90, 91, 92, 93, 94, 95, 96, 97, 98, 21, 22, 23, 25, 99, 100, 101, 102, 103, 104, 105, 106, 107, 108, 109, 110, 111, 112, 113, 114, 161, 162, 163, 164, 165, 166, 167, 158, 159, 160, 168, 169] (by decide +kernel) (by decide +kernel)
set_option maxRecDepth 20000 in
theorem gX3_hashOfSurvey_X3_firstCorrection : GoodIn wsX3_hashOfSurvey (wsV RX3 245 RX3 yX3_firstCorrection wsX3_firstCorrection) := goodIn_app (goodIn_of _ (by decide +kernel)) ggX3_hashOfSurvey_X3_firstCorrection
set_option maxRecDepth 20000 in
theorem ggX3_hashOfSurvey_X3_secondCorrection : GoodIn wsX3_hashOfSurvey wsX3_secondCorrection := goodIn_r _ [118, 6, 74, 8, 9, 10, 4, 11, 12, 75, 76, 77, 78, 79, 64, 65, 66, 24, 67, 68, 69, 36, 37, 38, 39, 30, 31, 32, 33, 34, 35, 48, 49, 50, 51, 26, 27, 28, 29, 80, 81, 82, 83, 84, 85, 86, 87, 88, 89, 90, 91, 92, 93, 94, 95, 96, 97, 98, 21, 22, 23, 25, 119, 120, 121, 122, 123, 124, 125, 126, 127, 128, 129, 130, 131, 132, 104, 133, 134, 105, 106, 107, 108, 109, 110, 111, 112, 113, 114, 161, 162, 163, 164, 165, 166, 167, 158, 159, 160, 168, 169] (by decide +kernel) (by decide +kernel)
set_option maxRecDepth 20000 in
theorem gX3_hashOfSurvey_X3_secondCorrection : GoodIn wsX3_hashOfSurvey (wsV RX3 248 RX3 yX3_secondCorrection wsX3_secondCorrection) := goodIn_app (goodIn_of _ (by decide +kernel)) ggX3_hashOfSurvey_X3_secondCorrection
set_option maxRecDepth 20000 in
theorem ggX3_hashOfSurvey_X3_displacement : GoodIn wsX3_hashOfSurvey wsX3_displacement := goodIn_r _ [138, 6, 139, 74, 8, 9, 10, 4, 11, 12, 75, 76, 77, 78, 79, 64, 65, 66, 24, 67, 68, 69, 36, 37, 38, 39, 30, 31, 32, 33, 34, 35, 48, 49, 50, 51, 26, 27, 28, 29, 80, 81, 82, 83, 84, 85, 86, 87, 88, 89, 90, 91, 92, 93, 94, 95, 96, 97, 98, 140, 141, 142, 143, 144, 21, 22, 23, 25, 105, 106, 107, 108, 109, 110, 99, 100, 101, 102, 103, 104, 111, 112, 113, 114, 119, 120, 121, 122, 123, 124, 125, 126, 127, 128, 129, 130, 131, 132, 133, 134, 161, 162, 163, 164, 165, 166, 167, 158, 159, 160, 168, 169] (by decide +kernel) (by decide +kernel)
set_option maxRecDepth 20000 in
theorem gX3_hashOfSurvey_X3_displacement : GoodIn wsX3_hashOfSurvey (wsV RX3 251 RX3 yX3_displacement wsX3_displacement) := goodIn_app (goodIn_of _ (by decide +kernel)) ggX3_hashOfSurvey_X3_displacement
set_option maxRecDepth 20000 in
theorem ggX3_hashOfSurvey_X3_netWeight : GoodIn wsX3_hashOfSurvey wsX3_netWeight := goodIn_r _ [148, 6, 74, 8, 9, 10, 4, 11, 12, 75, 76, 77, 78, 79, 64, 65, 66, 24, 67, 68, 69, 36, 37, 38, 39, 30, 31, 32, 33, 34, 35, 48, 49, 50, 51, 26, 27, 28, 29, 80, 81, 82, 83, 84, 85, 86, 87, 88, 89, 90, 91, 92, 93, 94, 95, 96, 97, 98, 149, 150, 151, 152, 140, 141, 142, 143, 144, 21, 22, 23, 25, 105, 106, 107, 108, 109, 110, 99, 100, 101, 102, 103, 104, 111, 112, 113, 114, 119, 120, 121, 122, 123, 124, 125, 126, 127, 128, 129, 130, 131, 132, 133, 134, 153, 154, 155, 156, 157, 161, 162, 163, 164, 165, 166, 167, 158, 159, 160, 168, 169] (by decide +kernel) (by decide +kernel)
set_option maxRecDepth 20000 in
theorem gX3_hashOfSurvey_X3_netWeight : GoodIn wsX3_hashOfSurvey (wsV RX3 254 RX3 yX3_netWeight wsX3_netWeight) := goodIn_app (goodIn_of _ (by decide +kernel)) ggX3_hashOfSurvey_X3_netWeight
theorem dX3_hashOfSurvey_0 : decode cX3_hashOfSurvey 0 = .ok (.lload_n 1, 1) := by decide +kernel
theorem dX3_hashOfSurvey_1 : decode cX3_hashOfSurvey 1 = .ok (.lstore 4, 2) := by decide +kernel
theorem dX3_hashOfSurvey_3 : decode cX3_hashOfSurvey 3 = .ok (.iconst 0, 1) := by decide +kernel
theorem dX3_hashOfSurvey_4 : decode cX3_hashOfSurvey 4 = .ok (.istore 6, 2) := by decide +kernel
theorem dX3_hashOfSurvey_6 : decode cX3_hashOfSurvey 6 = .ok (.iload 6, 2) := by decide +kernel
theorem dX3_hashOfSurvey_8 : decode cX3_hashOfSurvey 8 = .ok (.bipush 6, 2) := by decide +kernel
theorem dX3_hashOfSurvey_10 : decode cX3_hashOfSurvey 10 = .ok (.if_icmp .ge 23, 3) := by decide +kernel
theorem dX3_hashOfSurvey_13 : decode cX3_hashOfSurvey 13 = .ok (.lload 4, 2) := by decide +kernel
theorem dX3_hashOfSurvey_15 : decode cX3_hashOfSurvey 15 = .ok (.aload_n 0, 1) := by decide +kernel
theorem dX3_hashOfSurvey_16 : decode cX3_hashOfSurvey 16 = .ok (.iload_n 3, 1) := by decide +kernel
theorem dX3_hashOfSurvey_17 : decode cX3_hashOfSurvey 17 = .ok (.iload 6, 2) := by decide +kernel
theorem dX3_hashOfSurvey_19 : decode cX3_hashOfSurvey 19 = .ok (.invokevirtual 230, 3) := by decide +kernel
theorem dX3_hashOfSurvey_22 : decode cX3_hashOfSurvey 22 = .ok (.invokestatic 169, 3) := by decide +kernel
theorem dX3_hashOfSurvey_25 : decode cX3_hashOfSurvey 25 = .ok (.lstore 4, 2) := by decide +kernel
theorem dX3_hashOfSurvey_27 : decode cX3_hashOfSurvey 27 = .ok (.iinc 6 1, 3) := by decide +kernel
theorem dX3_hashOfSurvey_30 : decode cX3_hashOfSurvey 30 = .ok (.goto (-24), 3) := by decide +kernel
theorem dX3_hashOfSurvey_33 : decode cX3_hashOfSurvey 33 = .ok (.lload 4, 2) := by decide +kernel
theorem dX3_hashOfSurvey_35 : decode cX3_hashOfSurvey 35 = .ok (.aload_n 0, 1) := by decide +kernel
theorem dX3_hashOfSurvey_36 : decode cX3_hashOfSurvey 36 = .ok (.iload_n 3, 1) := by decide +kernel
theorem dX3_hashOfSurvey_37 : decode cX3_hashOfSurvey 37 = .ok (.invokevirtual 233, 3) := by decide +kernel
theorem dX3_hashOfSurvey_40 : decode cX3_hashOfSurvey 40 = .ok (.invokestatic 169, 3) := by decide +kernel
theorem dX3_hashOfSurvey_43 : decode cX3_hashOfSurvey 43 = .ok (.lstore 4, 2) := by decide +kernel
theorem dX3_hashOfSurvey_45 : decode cX3_hashOfSurvey 45 = .ok (.lload 4, 2) := by decide +kernel
theorem dX3_hashOfSurvey_47 : decode cX3_hashOfSurvey 47 = .ok (.aload_n 0, 1) := by decide +kernel
theorem dX3_hashOfSurvey_48 : decode cX3_hashOfSurvey 48 = .ok (.iload_n 3, 1) := by decide +kernel
theorem dX3_hashOfSurvey_49 : decode cX3_hashOfSurvey 49 = .ok (.invokevirtual 236, 3) := by decide +kernel
theorem dX3_hashOfSurvey_52 : decode cX3_hashOfSurvey 52 = .ok (.invokestatic 169, 3) := by decide +kernel
theorem dX3_hashOfSurvey_55 : decode cX3_hashOfSurvey 55 = .ok (.lstore 4, 2) := by decide +kernel
theorem dX3_hashOfSurvey_57 : decode cX3_hashOfSurvey 57 = .ok (.lload 4, 2) := by decide +kernel
theorem dX3_hashOfSurvey_59 : decode cX3_hashOfSurvey 59 = .ok (.aload_n 0, 1) := by decide +kernel
theorem dX3_hashOfSurvey_60 : decode cX3_hashOfSurvey 60 = .ok (.iload_n 3, 1) := by decide +kernel
theorem dX3_hashOfSurvey_61 : decode cX3_hashOfSurvey 61 = .ok (.invokevirtual 239, 3) := by decide +kernel
theorem dX3_hashOfSurvey_64 : decode cX3_hashOfSurvey 64 = .ok (.invokestatic 169, 3) := by decide +kernel
theorem dX3_hashOfSurvey_67 : decode cX3_hashOfSurvey 67 = .ok (.lstore 4, 2) := by decide +kernel
theorem dX3_hashOfSurvey_69 : decode cX3_hashOfSurvey 69 = .ok (.lload 4, 2) := by decide +kernel
theorem dX3_hashOfSurvey_71 : decode cX3_hashOfSurvey 71 = .ok (.aload_n 0, 1) := by decide +kernel
theorem dX3_hashOfSurvey_72 : decode cX3_hashOfSurvey 72 = .ok (.iload_n 3, 1) := by decide +kernel
theorem dX3_hashOfSurvey_73 : decode cX3_hashOfSurvey 73 = .ok (.invokevirtual 242, 3) := by decide +kernel
theorem dX3_hashOfSurvey_76 : decode cX3_hashOfSurvey 76 = .ok (.invokestatic 169, 3) := by decide +kernel
theorem dX3_hashOfSurvey_79 : decode cX3_hashOfSurvey 79 = .ok (.lstore 4, 2) := by decide +kernel
theorem dX3_hashOfSurvey_81 : decode cX3_hashOfSurvey 81 = .ok (.lload 4, 2) := by decide +kernel
theorem dX3_hashOfSurvey_83 : decode cX3_hashOfSurvey 83 = .ok (.aload_n 0, 1) := by decide +kernel
theorem dX3_hashOfSurvey_84 : decode cX3_hashOfSurvey 84 = .ok (.iload_n 3, 1) := by decide +kernel
theorem dX3_hashOfSurvey_85 : decode cX3_hashOfSurvey 85 = .ok (.invokevirtual 245, 3) := by decide +kernel
theorem dX3_hashOfSurvey_88 : decode cX3_hashOfSurvey 88 = .ok (.invokestatic 169, 3) := by decide +kernel
theorem dX3_hashOfSurvey_91 : decode cX3_hashOfSurvey 91 = .ok (.lstore 4, 2) := by decide +kernel
theorem dX3_hashOfSurvey_93 : decode cX3_hashOfSurvey 93 = .ok (.lload 4, 2) := by decide +kernel
theorem dX3_hashOfSurvey_95 : decode cX3_hashOfSurvey 95 = .ok (.aload_n 0, 1) := by decide +kernel
theorem dX3_hashOfSurvey_96 : decode cX3_hashOfSurvey 96 = .ok (.iload_n 3, 1) := by decide +kernel
theorem dX3_hashOfSurvey_97 : decode cX3_hashOfSurvey 97 = .ok (.invokevirtual 248, 3) := by decide +kernel
theorem dX3_hashOfSurvey_100 : decode cX3_hashOfSurvey 100 = .ok (.invokestatic 169, 3) := by decide +kernel
theorem dX3_hashOfSurvey_103 : decode cX3_hashOfSurvey 103 = .ok (.lstore 4, 2) := by decide +kernel
theorem dX3_hashOfSurvey_105 : decode cX3_hashOfSurvey 105 = .ok (.lload 4, 2) := by decide +kernel
theorem dX3_hashOfSurvey_107 : decode cX3_hashOfSurvey 107 = .ok (.aload_n 0, 1) := by decide +kernel
theorem dX3_hashOfSurvey_108 : decode cX3_hashOfSurvey 108 = .ok (.iload_n 3, 1) := by decide +kernel
theorem dX3_hashOfSurvey_109 : decode cX3_hashOfSurvey 109 = .ok (.sipush (-500), 3) := by decide +kernel
theorem dX3_hashOfSurvey_112 : decode cX3_hashOfSurvey 112 = .ok (.invokevirtual 251, 3) := by decide +kernel
theorem dX3_hashOfSurvey_115 : decode cX3_hashOfSurvey 115 = .ok (.invokestatic 169, 3) := by decide +kernel
theorem dX3_hashOfSurvey_118 : decode cX3_hashOfSurvey 118 = .ok (.lstore 4, 2) := by decide +kernel
theorem dX3_hashOfSurvey_120 : decode cX3_hashOfSurvey 120 = .ok (.lload 4, 2) := by decide +kernel
theorem dX3_hashOfSurvey_122 : decode cX3_hashOfSurvey 122 = .ok (.aload_n 0, 1) := by decide +kernel
theorem dX3_hashOfSurvey_123 : decode cX3_hashOfSurvey 123 = .ok (.iload_n 3, 1) := by decide +kernel
theorem dX3_hashOfSurvey_124 : decode cX3_hashOfSurvey 124 = .ok (.iconst 0, 1) := by decide +kernel
theorem dX3_hashOfSurvey_125 : decode cX3_hashOfSurvey 125 = .ok (.invokevirtual 251, 3) := by decide +kernel
theorem dX3_hashOfSurvey_128 : decode cX3_hashOfSurvey 128 = .ok (.invokestatic 169, 3) := by decide +kernel
theorem dX3_hashOfSurvey_131 : decode cX3_hashOfSurvey 131 = .ok (.lstore 4, 2) := by decide +kernel
theorem dX3_hashOfSurvey_133 : decode cX3_hashOfSurvey 133 = .ok (.lload 4, 2) := by decide +kernel
theorem dX3_hashOfSurvey_135 : decode cX3_hashOfSurvey 135 = .ok (.aload_n 0, 1) := by decide +kernel
theorem dX3_hashOfSurvey_136 : decode cX3_hashOfSurvey 136 = .ok (.iload_n 3, 1) := by decide +kernel
theorem dX3_hashOfSurvey_137 : decode cX3_hashOfSurvey 137 = .ok (.sipush 500, 3) := by decide +kernel
theorem dX3_hashOfSurvey_140 : decode cX3_hashOfSurvey 140 = .ok (.invokevirtual 251, 3) := by decide +kernel
theorem dX3_hashOfSurvey_143 : decode cX3_hashOfSurvey 143 = .ok (.invokestatic 169, 3) := by decide +kernel
theorem dX3_hashOfSurvey_146 : decode cX3_hashOfSurvey 146 = .ok (.lstore 4, 2) := by decide +kernel
theorem dX3_hashOfSurvey_148 : decode cX3_hashOfSurvey 148 = .ok (.lload 4, 2) := by decide +kernel
theorem dX3_hashOfSurvey_150 : decode cX3_hashOfSurvey 150 = .ok (.aload_n 0, 1) := by decide +kernel
theorem dX3_hashOfSurvey_151 : decode cX3_hashOfSurvey 151 = .ok (.iload_n 3, 1) := by decide +kernel
theorem dX3_hashOfSurvey_152 : decode cX3_hashOfSurvey 152 = .ok (.invokevirtual 254, 3) := by decide +kernel
theorem dX3_hashOfSurvey_155 : decode cX3_hashOfSurvey 155 = .ok (.invokestatic 169, 3) := by decide +kernel
theorem dX3_hashOfSurvey_158 : decode cX3_hashOfSurvey 158 = .ok (.lreturn, 1) := by decide +kernel
set_option maxRecDepth 20000 in
theorem ggX3_hashOfBuffer_X3_hashWith : GoodIn wsX3_hashOfBuffer wsX3_hashWith := goodIn_r _ [6, 7] (by decide +kernel) (by decide +kernel)
set_option maxRecDepth 20000 in
theorem gX3_hashOfBuffer_X3_hashWith : GoodIn wsX3_hashOfBuffer (va_wsS RX3 169 yX3_hashWith wsX3_hashWith) := goodIn_app (goodIn_of _ (by decide +kernel)) ggX3_hashOfBuffer_X3_hashWith
theorem dX3_hashOfBuffer_0 : decode cX3_hashOfBuffer 0 = .ok (.lload_n 1, 1) := by decide +kernel
theorem dX3_hashOfBuffer_1 : decode cX3_hashOfBuffer 1 = .ok (.aload_n 0, 1) := by decide +kernel
theorem dX3_hashOfBuffer_2 : decode cX3_hashOfBuffer 2 = .ok (.getfield 13, 3) := by decide +kernel
theorem dX3_hashOfBuffer_5 : decode cX3_hashOfBuffer 5 = .ok (.i2l, 1) := by decide +kernel
theorem dX3_hashOfBuffer_6 : decode cX3_hashOfBuffer 6 = .ok (.invokestatic 169, 3) := by decide +kernel
theorem dX3_hashOfBuffer_9 : decode cX3_hashOfBuffer 9 = .ok (.lstore_n 3, 1) := by decide +kernel
theorem dX3_hashOfBuffer_10 : decode cX3_hashOfBuffer 10 = .ok (.iconst 0, 1) := by decide +kernel
theorem dX3_hashOfBuffer_11 : decode cX3_hashOfBuffer 11 = .ok (.istore 5, 2) := by decide +kernel
theorem dX3_hashOfBuffer_13 : decode cX3_hashOfBuffer 13 = .ok (.iload 5, 2) := by decide +kernel
theorem dX3_hashOfBuffer_15 : decode cX3_hashOfBuffer 15 = .ok (.aload_n 0, 1) := by decide +kernel
theorem dX3_hashOfBuffer_16 : decode cX3_hashOfBuffer 16 = .ok (.getfield 13, 3) := by decide +kernel
theorem dX3_hashOfBuffer_19 : decode cX3_hashOfBuffer 19 = .ok (.if_icmp .ge 29, 3) := by decide +kernel
theorem dX3_hashOfBuffer_22 : decode cX3_hashOfBuffer 22 = .ok (.iload 5, 2) := by decide +kernel
theorem dX3_hashOfBuffer_24 : decode cX3_hashOfBuffer 24 = .ok (.bipush 40, 2) := by decide +kernel
theorem dX3_hashOfBuffer_26 : decode cX3_hashOfBuffer 26 = .ok (.if_icmp .ge 22, 3) := by decide +kernel
theorem dX3_hashOfBuffer_29 : decode cX3_hashOfBuffer 29 = .ok (.lload_n 3, 1) := by decide +kernel
theorem dX3_hashOfBuffer_30 : decode cX3_hashOfBuffer 30 = .ok (.aload_n 0, 1) := by decide +kernel
theorem dX3_hashOfBuffer_31 : decode cX3_hashOfBuffer 31 = .ok (.getfield 9, 3) := by decide +kernel
theorem dX3_hashOfBuffer_34 : decode cX3_hashOfBuffer 34 = .ok (.iload 5, 2) := by decide +kernel
theorem dX3_hashOfBuffer_36 : decode cX3_hashOfBuffer 36 = .ok (.iaload, 1) := by decide +kernel
theorem dX3_hashOfBuffer_37 : decode cX3_hashOfBuffer 37 = .ok (.i2l, 1) := by decide +kernel
theorem dX3_hashOfBuffer_38 : decode cX3_hashOfBuffer 38 = .ok (.invokestatic 169, 3) := by decide +kernel
theorem dX3_hashOfBuffer_41 : decode cX3_hashOfBuffer 41 = .ok (.lstore_n 3, 1) := by decide +kernel
theorem dX3_hashOfBuffer_42 : decode cX3_hashOfBuffer 42 = .ok (.iinc 5 1, 3) := by decide +kernel
theorem dX3_hashOfBuffer_45 : decode cX3_hashOfBuffer 45 = .ok (.goto (-32), 3) := by decide +kernel
theorem dX3_hashOfBuffer_48 : decode cX3_hashOfBuffer 48 = .ok (.lload_n 3, 1) := by decide +kernel
theorem dX3_hashOfBuffer_49 : decode cX3_hashOfBuffer 49 = .ok (.lreturn, 1) := by decide +kernel
theorem dX4_init_0 : decode cX4_init 0 = .ok (.aload_n 0, 1) := by decide +kernel
theorem dX4_init_1 : decode cX4_init 1 = .ok (.invokespecial 1, 3) := by decide +kernel
theorem dX4_init_4 : decode cX4_init 4 = .ok (.aload_n 0, 1) := by decide +kernel
theorem dX4_init_5 : decode cX4_init 5 = .ok (.bipush 40, 2) := by decide +kernel
theorem dX4_init_7 : decode cX4_init 7 = .ok (.newarray .int, 2) := by decide +kernel
theorem dX4_init_9 : decode cX4_init 9 = .ok (.putfield 7, 3) := by decide +kernel
theorem dX4_init_12 : decode cX4_init 12 = .ok (.aload_n 0, 1) := by decide +kernel
theorem dX4_init_13 : decode cX4_init 13 = .ok (.bipush 50, 2) := by decide +kernel
theorem dX4_init_15 : decode cX4_init 15 = .ok (.newarray .long, 2) := by decide +kernel
theorem dX4_init_17 : decode cX4_init 17 = .ok (.putfield 13, 3) := by decide +kernel
theorem dX4_init_20 : decode cX4_init 20 = .ok (.aload_n 0, 1) := by decide +kernel
theorem dX4_init_21 : decode cX4_init 21 = .ok (.bipush 24, 2) := by decide +kernel
theorem dX4_init_23 : decode cX4_init 23 = .ok (.newarray .long, 2) := by decide +kernel
theorem dX4_init_25 : decode cX4_init 25 = .ok (.putfield 17, 3) := by decide +kernel
theorem dX4_init_28 : decode cX4_init 28 = .ok (.aload_n 0, 1) := by decide +kernel
