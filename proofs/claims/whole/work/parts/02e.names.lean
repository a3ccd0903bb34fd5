theorem dX3_quarterMean_17 : decode cX3_quarterMean 17 = .ok (.invokevirtual 119, 3) := by decide +kernel
theorem dX3_quarterMean_20 : decode cX3_quarterMean 20 = .ok (.lreturn, 1) := by decide +kernel
set_option maxRecDepth 20000 in
theorem ggX3_firstCorrection_X3_surveyAt : GoodIn wsX3_firstCorrection wsX3_surveyAt := goodIn_r _ [7, 8, 78, 79, 80, 81, 82, 83, 84] (by decide +kernel) (by decide +kernel)
set_option maxRecDepth 20000 in
theorem gX3_firstCorrection_X3_surveyAt : GoodIn wsX3_firstCorrection (wsV RX3 92 RX3 yX3_surveyAt wsX3_surveyAt) := goodIn_app (goodIn_of _ (by decide +kernel)) ggX3_firstCorrection_X3_surveyAt
set_option maxRecDepth 20000 in
theorem ggX3_firstCorrection_X3_canCompute : GoodIn wsX3_firstCorrection wsX3_canCompute := goodIn_r _ [12, 13, 14, 15, 16, 17, 18, 19, 20, 21, 22, 23, 24, 25, 26, 27, 28, 29, 30, 31, 32, 33, 34, 35, 36, 37, 38, 39, 40, 41, 42, 43, 44, 45, 46, 47, 48, 49, 50, 51, 52, 53, 54, 55, 56, 57, 78, 79, 80, 81, 82, 83, 84, 85, 86, 87, 88, 89] (by decide +kernel) (by decide +kernel)
set_option maxRecDepth 20000 in
theorem gX3_firstCorrection_X3_canCompute : GoodIn wsX3_firstCorrection (wsV RX3 122 RX3 yX3_canCompute wsX3_canCompute) := goodIn_app (goodIn_of _ (by decide +kernel)) ggX3_firstCorrection_X3_canCompute
set_option maxRecDepth 20000 in
theorem ggX3_firstCorrection_X1_meanDraft : GoodIn wsX3_firstCorrection wsX1_meanDraft := goodIn_r _ [18, 19, 20, 21, 22, 23, 17, 24, 25, 26, 27, 28, 29, 30, 31, 32, 33, 34, 35, 36, 37, 38, 85, 86, 87] (by decide +kernel) (by decide +kernel)
set_option maxRecDepth 20000 in
theorem gX3_firstCorrection_X1_meanDraft : GoodIn wsX3_firstCorrection (wsV RX3 119 RX1 yX1_meanDraft wsX1_meanDraft) := goodIn_app (goodIn_of _ (by decide +kernel)) ggX3_firstCorrection_X1_meanDraft
set_option maxRecDepth 20000 in
theorem ggX3_firstCorrection_X1_sternTrim : GoodIn wsX3_firstCorrection wsX1_sternTrim := goodIn_r _ [61, 35, 36, 37, 17, 38, 25, 26, 27, 28, 29, 30, 21, 22, 23, 24, 85, 86, 87] (by decide +kernel) (by decide +kernel)
set_option maxRecDepth 20000 in
theorem gX3_firstCorrection_X1_sternTrim : GoodIn wsX3_firstCorrection (wsV RX3 109 RX1 yX1_sternTrim wsX1_sternTrim) := goodIn_app (goodIn_of _ (by decide +kernel)) ggX3_firstCorrection_X1_sternTrim
set_option maxRecDepth 20000 in
theorem ggX3_firstCorrection_X3_firstCorrectionAt : GoodIn wsX3_firstCorrection wsX3_firstCorrectionAt := goodIn_r _ [65, 13, 66, 67, 68, 69, 70, 42, 71, 44, 72, 49, 50, 51, 52, 53, 73, 28, 29, 30, 74, 75, 6, 76, 77, 78, 79, 80, 81, 82, 83, 84, 88, 89] (by decide +kernel) (by decide +kernel)
set_option maxRecDepth 20000 in
theorem gX3_firstCorrection_X3_firstCorrectionAt : GoodIn wsX3_firstCorrection (wsV RX3 128 RX3 yX3_firstCorrectionAt wsX3_firstCorrectionAt) := goodIn_app (goodIn_of _ (by decide +kernel)) ggX3_firstCorrection_X3_firstCorrectionAt
theorem dX3_firstCorrection_0 : decode cX3_firstCorrection 0 = .ok (.aload_n 0, 1) := by decide +kernel
theorem dX3_firstCorrection_1 : decode cX3_firstCorrection 1 = .ok (.iload_n 1, 1) := by decide +kernel
theorem dX3_firstCorrection_2 : decode cX3_firstCorrection 2 = .ok (.invokevirtual 92, 3) := by decide +kernel
theorem dX3_firstCorrection_5 : decode cX3_firstCorrection 5 = .ok (.astore_n 2, 1) := by decide +kernel
theorem dX3_firstCorrection_6 : decode cX3_firstCorrection 6 = .ok (.aload_n 2, 1) := by decide +kernel
theorem dX3_firstCorrection_7 : decode cX3_firstCorrection 7 = .ok (.ifnonnull 7, 3) := by decide +kernel
theorem dX3_firstCorrection_10 : decode cX3_firstCorrection 10 = .ok (.ldc2_w 96, 3) := by decide +kernel
theorem dX3_firstCorrection_13 : decode cX3_firstCorrection 13 = .ok (.lreturn, 1) := by decide +kernel
theorem dX3_firstCorrection_14 : decode cX3_firstCorrection 14 = .ok (.aload_n 0, 1) := by decide +kernel
theorem dX3_firstCorrection_15 : decode cX3_firstCorrection 15 = .ok (.aload_n 2, 1) := by decide +kernel
theorem dX3_firstCorrection_16 : decode cX3_firstCorrection 16 = .ok (.lconst 0, 1) := by decide +kernel
theorem dX3_firstCorrection_17 : decode cX3_firstCorrection 17 = .ok (.invokevirtual 122, 3) := by decide +kernel
theorem dX3_firstCorrection_20 : decode cX3_firstCorrection 20 = .ok (.ifCond .ne 7, 3) := by decide +kernel
theorem dX3_firstCorrection_23 : decode cX3_firstCorrection 23 = .ok (.ldc2_w 126, 3) := by decide +kernel
theorem dX3_firstCorrection_26 : decode cX3_firstCorrection 26 = .ok (.lreturn, 1) := by decide +kernel
theorem dX3_firstCorrection_27 : decode cX3_firstCorrection 27 = .ok (.aload_n 0, 1) := by decide +kernel
theorem dX3_firstCorrection_28 : decode cX3_firstCorrection 28 = .ok (.aload_n 2, 1) := by decide +kernel
theorem dX3_firstCorrection_29 : decode cX3_firstCorrection 29 = .ok (.invokevirtual 119, 3) := by decide +kernel
theorem dX3_firstCorrection_32 : decode cX3_firstCorrection 32 = .ok (.aload_n 2, 1) := by decide +kernel
theorem dX3_firstCorrection_33 : decode cX3_firstCorrection 33 = .ok (.invokevirtual 109, 3) := by decide +kernel
theorem dX3_firstCorrection_36 : decode cX3_firstCorrection 36 = .ok (.invokevirtual 128, 3) := by decide +kernel
theorem dX3_firstCorrection_39 : decode cX3_firstCorrection 39 = .ok (.lreturn, 1) := by decide +kernel
set_option maxRecDepth 20000 in
theorem ggX3_secondCorrection_X3_surveyAt : GoodIn wsX3_secondCorrection wsX3_surveyAt := goodIn_r _ [7, 8, 89, 90, 91, 92, 93, 94, 95] (by decide +kernel) (by decide +kernel)
set_option maxRecDepth 20000 in
theorem gX3_secondCorrection_X3_surveyAt : GoodIn wsX3_secondCorrection (wsV RX3 92 RX3 yX3_surveyAt wsX3_surveyAt) := goodIn_app (goodIn_of _ (by decide +kernel)) ggX3_secondCorrection_X3_surveyAt
set_option maxRecDepth 20000 in
theorem ggX3_secondCorrection_X3_canCompute : GoodIn wsX3_secondCorrection wsX3_canCompute := goodIn_r _ [12, 13, 14, 15, 16, 17, 18, 19, 20, 21, 22, 23, 24, 25, 26, 27, 28, 29, 30, 31, 32, 33, 34, 35, 36, 37, 38, 39, 40, 41, 42, 43, 44, 45, 46, 47, 48, 49, 50, 51, 52, 53, 54, 55, 56, 57, 89, 90, 91, 92, 93, 94, 95, 96, 97, 98, 99, 100] (by decide +kernel) (by decide +kernel)
set_option maxRecDepth 20000 in
theorem gX3_secondCorrection_X3_canCompute : GoodIn wsX3_secondCorrection (wsV RX3 122 RX3 yX3_canCompute wsX3_canCompute) := goodIn_app (goodIn_of _ (by decide +kernel)) ggX3_secondCorrection_X3_canCompute
set_option maxRecDepth 20000 in
theorem ggX3_secondCorrection_X1_meanDraft : GoodIn wsX3_secondCorrection wsX1_meanDraft := goodIn_r _ [18, 19, 20, 21, 22, 23, 17, 24, 25, 26, 27, 28, 29, 30, 31, 32, 33, 34, 35, 36, 37, 38, 96, 97, 98] (by decide +kernel) (by decide +kernel)
set_option maxRecDepth 20000 in
theorem gX3_secondCorrection_X1_meanDraft : GoodIn wsX3_secondCorrection (wsV RX3 119 RX1 yX1_meanDraft wsX1_meanDraft) := goodIn_app (goodIn_of _ (by decide +kernel)) ggX3_secondCorrection_X1_meanDraft
set_option maxRecDepth 20000 in
theorem ggX3_secondCorrection_X1_sternTrim : GoodIn wsX3_secondCorrection wsX1_sternTrim := goodIn_r _ [61, 35, 36, 37, 17, 38, 25, 26, 27, 28, 29, 30, 21, 22, 23, 24, 96, 97, 98] (by decide +kernel) (by decide +kernel)
set_option maxRecDepth 20000 in
theorem gX3_secondCorrection_X1_sternTrim : GoodIn wsX3_secondCorrection (wsV RX3 109 RX1 yX1_sternTrim wsX1_sternTrim) := goodIn_app (goodIn_of _ (by decide +kernel)) ggX3_secondCorrection_X1_sternTrim
set_option maxRecDepth 20000 in
theorem ggX3_secondCorrection_X3_secondCorrectionAt : GoodIn wsX3_secondCorrection wsX3_secondCorrectionAt := goodIn_r _ [65, 66, 13, 67, 68, 69, 70, 71, 72, 73, 74, 75, 76, 77, 46, 47, 42, 48, 49, 50, 51, 52, 44, 53, 78, 55, 56, 57, 79, 80, 81, 82, 83, 84, 28, 29, 30, 85, 86, 6, 87, 88, 89, 90, 91, 92, 93, 94, 95, 99, 100] (by decide +kernel) (by decide +kernel)
set_option maxRecDepth 20000 in
theorem gX3_secondCorrection_X3_secondCorrectionAt : GoodIn wsX3_secondCorrection (wsV RX3 132 RX3 yX3_secondCorrectionAt wsX3_secondCorrectionAt) := goodIn_app (goodIn_of _ (by decide +kernel)) ggX3_secondCorrection_X3_secondCorrectionAt
theorem dX3_secondCorrection_0 : decode cX3_secondCorrection 0 = .ok (.aload_n 0, 1) := by decide +kernel
theorem dX3_secondCorrection_1 : decode cX3_secondCorrection 1 = .ok (.iload_n 1, 1) := by decide +kernel
theorem dX3_secondCorrection_2 : decode cX3_secondCorrection 2 = .ok (.invokevirtual 92, 3) := by decide +kernel
theorem dX3_secondCorrection_5 : decode cX3_secondCorrection 5 = .ok (.astore_n 2, 1) := by decide +kernel
theorem dX3_secondCorrection_6 : decode cX3_secondCorrection 6 = .ok (.aload_n 2, 1) := by decide +kernel
theorem dX3_secondCorrection_7 : decode cX3_secondCorrection 7 = .ok (.ifnonnull 7, 3) := by decide +kernel
theorem dX3_secondCorrection_10 : decode cX3_secondCorrection 10 = .ok (.ldc2_w 96, 3) := by decide +kernel
theorem dX3_secondCorrection_13 : decode cX3_secondCorrection 13 = .ok (.lreturn, 1) := by decide +kernel
theorem dX3_secondCorrection_14 : decode cX3_secondCorrection 14 = .ok (.aload_n 0, 1) := by decide +kernel
theorem dX3_secondCorrection_15 : decode cX3_secondCorrection 15 = .ok (.aload_n 2, 1) := by decide +kernel
theorem dX3_secondCorrection_16 : decode cX3_secondCorrection 16 = .ok (.lconst 0, 1) := by decide +kernel
theorem dX3_secondCorrection_17 : decode cX3_secondCorrection 17 = .ok (.invokevirtual 122, 3) := by decide +kernel
theorem dX3_secondCorrection_20 : decode cX3_secondCorrection 20 = .ok (.ifCond .ne 7, 3) := by decide +kernel
theorem dX3_secondCorrection_23 : decode cX3_secondCorrection 23 = .ok (.ldc2_w 126, 3) := by decide +kernel
theorem dX3_secondCorrection_26 : decode cX3_secondCorrection 26 = .ok (.lreturn, 1) := by decide +kernel
theorem dX3_secondCorrection_27 : decode cX3_secondCorrection 27 = .ok (.aload_n 0, 1) := by decide +kernel
theorem dX3_secondCorrection_28 : decode cX3_secondCorrection 28 = .ok (.aload_n 2, 1) := by decide +kernel
theorem dX3_secondCorrection_29 : decode cX3_secondCorrection 29 = .ok (.invokevirtual 119, 3) := by decide +kernel
theorem dX3_secondCorrection_32 : decode cX3_secondCorrection 32 = .ok (.aload_n 2, 1) := by decide +kernel
theorem dX3_secondCorrection_33 : decode cX3_secondCorrection 33 = .ok (.invokevirtual 109, 3) := by decide +kernel
theorem dX3_secondCorrection_36 : decode cX3_secondCorrection 36 = .ok (.invokevirtual 132, 3) := by decide +kernel
theorem dX3_secondCorrection_39 : decode cX3_secondCorrection 39 = .ok (.lreturn, 1) := by decide +kernel
set_option maxRecDepth 20000 in
theorem ggX3_displacement_X3_surveyAt : GoodIn wsX3_displacement wsX3_surveyAt := goodIn_r _ [8, 9, 100, 101, 102, 103, 104, 105, 106] (by decide +kernel) (by decide +kernel)
set_option maxRecDepth 20000 in
theorem gX3_displacement_X3_surveyAt : GoodIn wsX3_displacement (wsV RX3 92 RX3 yX3_surveyAt wsX3_surveyAt) := goodIn_app (goodIn_of _ (by decide +kernel)) ggX3_displacement_X3_surveyAt
set_option maxRecDepth 20000 in
theorem ggX3_displacement_X3_canCompute : GoodIn wsX3_displacement wsX3_canCompute := goodIn_r _ [13, 14, 15, 16, 17, 18, 19, 20, 21, 22, 23, 24, 25, 26, 27, 28, 29, 30, 31, 32, 33, 34, 35, 36, 37, 38, 39, 40, 41, 42, 43, 44, 45, 46, 47, 48, 49, 50, 51, 52, 53, 54, 55, 56, 57, 58, 100, 101, 102, 103, 104, 105, 106, 107, 108, 109, 110, 111] (by decide +kernel) (by decide +kernel)
set_option maxRecDepth 20000 in
theorem gX3_displacement_X3_canCompute : GoodIn wsX3_displacement (wsV RX3 122 RX3 yX3_canCompute wsX3_canCompute) := goodIn_app (goodIn_of _ (by decide +kernel)) ggX3_displacement_X3_canCompute
set_option maxRecDepth 20000 in
theorem ggX3_displacement_X3_displacementOf : GoodIn wsX3_displacement wsX3_displacementOf := goodIn_r _ [62, 14, 63, 15, 16, 17, 18, 19, 20, 21, 22, 23, 24, 25, 26, 27, 28, 29, 30, 31, 32, 33, 34, 35, 36, 37, 38, 39, 64, 65, 66, 67, 68, 69, 70, 43, 71, 45, 72, 50, 51, 52, 53, 54, 73, 74, 75, 76, 7, 77, 78, 79, 80, 81, 82, 83, 84, 85, 86, 87, 88, 89, 90, 91, 92, 93, 94, 95, 96, 97, 98, 47, 48, 49, 99, 56, 57, 58, 100, 101, 102, 103, 104, 105, 106, 107, 108, 109, 110, 111] (by decide +kernel) (by decide +kernel)
set_option maxRecDepth 20000 in
theorem gX3_displacement_X3_displacementOf : GoodIn wsX3_displacement (wsV RX3 135 RX3 yX3_displacementOf wsX3_displacementOf) := goodIn_app (goodIn_of _ (by decide +kernel)) ggX3_displacement_X3_displacementOf
theorem dX3_displacement_0 : decode cX3_displacement 0 = .ok (.aload_n 0, 1) := by decide +kernel
theorem dX3_displacement_1 : decode cX3_displacement 1 = .ok (.iload_n 1, 1) := by decide +kernel
theorem dX3_displacement_2 : decode cX3_displacement 2 = .ok (.invokevirtual 92, 3) := by decide +kernel
theorem dX3_displacement_5 : decode cX3_displacement 5 = .ok (.astore_n 3, 1) := by decide +kernel
theorem dX3_displacement_6 : decode cX3_displacement 6 = .ok (.aload_n 3, 1) := by decide +kernel
theorem dX3_displacement_7 : decode cX3_displacement 7 = .ok (.ifnonnull 7, 3) := by decide +kernel
theorem dX3_displacement_10 : decode cX3_displacement 10 = .ok (.ldc2_w 96, 3) := by decide +kernel
theorem dX3_displacement_13 : decode cX3_displacement 13 = .ok (.lreturn, 1) := by decide +kernel
theorem dX3_displacement_14 : decode cX3_displacement 14 = .ok (.iload_n 2, 1) := by decide +kernel
theorem dX3_displacement_15 : decode cX3_displacement 15 = .ok (.sipush (-1000), 3) := by decide +kernel
theorem dX3_displacement_18 : decode cX3_displacement 18 = .ok (.if_icmp .lt 10, 3) := by decide +kernel
theorem dX3_displacement_21 : decode cX3_displacement 21 = .ok (.iload_n 2, 1) := by decide +kernel
theorem dX3_displacement_22 : decode cX3_displacement 22 = .ok (.sipush 1000, 3) := by decide +kernel
theorem dX3_displacement_25 : decode cX3_displacement 25 = .ok (.if_icmp .le 7, 3) := by decide +kernel
theorem dX3_displacement_28 : decode cX3_displacement 28 = .ok (.ldc2_w 47, 3) := by decide +kernel
theorem dX3_displacement_31 : decode cX3_displacement 31 = .ok (.lreturn, 1) := by decide +kernel
theorem dX3_displacement_32 : decode cX3_displacement 32 = .ok (.aload_n 0, 1) := by decide +kernel
theorem dX3_displacement_33 : decode cX3_displacement 33 = .ok (.aload_n 3, 1) := by decide +kernel
theorem dX3_displacement_34 : decode cX3_displacement 34 = .ok (.iload_n 2, 1) := by decide +kernel
theorem dX3_displacement_35 : decode cX3_displacement 35 = .ok (.i2l, 1) := by decide +kernel
theorem dX3_displacement_36 : decode cX3_displacement 36 = .ok (.invokevirtual 122, 3) := by decide +kernel
theorem dX3_displacement_39 : decode cX3_displacement 39 = .ok (.ifCond .ne 7, 3) := by decide +kernel
theorem dX3_displacement_42 : decode cX3_displacement 42 = .ok (.ldc2_w 126, 3) := by decide +kernel
theorem dX3_displacement_45 : decode cX3_displacement 45 = .ok (.lreturn, 1) := by decide +kernel
theorem dX3_displacement_46 : decode cX3_displacement 46 = .ok (.aload_n 0, 1) := by decide +kernel
theorem dX3_displacement_47 : decode cX3_displacement 47 = .ok (.aload_n 3, 1) := by decide +kernel
theorem dX3_displacement_48 : decode cX3_displacement 48 = .ok (.iload_n 2, 1) := by decide +kernel
theorem dX3_displacement_49 : decode cX3_displacement 49 = .ok (.i2l, 1) := by decide +kernel
theorem dX3_displacement_50 : decode cX3_displacement 50 = .ok (.invokevirtual 135, 3) := by decide +kernel
theorem dX3_displacement_53 : decode cX3_displacement 53 = .ok (.lreturn, 1) := by decide +kernel
set_option maxRecDepth 20000 in
theorem ggX3_netWeight_X3_surveyAt : GoodIn wsX3_netWeight wsX3_surveyAt := goodIn_r _ [7, 8, 108, 109, 110, 111, 112, 113, 114] (by decide +kernel) (by decide +kernel)
set_option maxRecDepth 20000 in
theorem gX3_netWeight_X3_surveyAt : GoodIn wsX3_netWeight (wsV RX3 92 RX3 yX3_surveyAt wsX3_surveyAt) := goodIn_app (goodIn_of _ (by decide +kernel)) ggX3_netWeight_X3_surveyAt
set_option maxRecDepth 20000 in
theorem ggX3_netWeight_X3_canCompute : GoodIn wsX3_netWeight wsX3_canCompute := goodIn_r _ [12, 13, 14, 15, 16, 17, 18, 19, 20, 21, 22, 23, 24, 25, 26, 27, 28, 29, 30, 31, 32, 33, 34, 35, 36, 37, 38, 39, 40, 41, 42, 43, 44, 45, 46, 47, 48, 49, 50, 51, 52, 53, 54, 55, 56, 57, 108, 109, 110, 111, 112, 113, 114, 115, 116, 117, 118, 119] (by decide +kernel) (by decide +kernel)
set_option maxRecDepth 20000 in
theorem gX3_netWeight_X3_canCompute : GoodIn wsX3_netWeight (wsV RX3 122 RX3 yX3_canCompute wsX3_canCompute) := goodIn_app (goodIn_of _ (by decide +kernel)) ggX3_netWeight_X3_canCompute
set_option maxRecDepth 20000 in
theorem ggX3_netWeight_X3_netWeightOf : GoodIn wsX3_netWeight wsX3_netWeightOf := goodIn_r _ [61, 62, 63, 64, 6, 65, 13, 66, 14, 15, 16, 17, 18, 19, 20, 21, 22, 23, 24, 25, 26, 27, 28, 29, 30, 31, 32, 33, 34, 35, 36, 37, 38, 67, 68, 69, 70, 71, 72, 73, 42, 74, 44, 75, 49, 50, 51, 52, 53, 76, 77, 78, 79, 80, 81, 82, 83, 84, 85, 86, 87, 88, 89, 90, 91, 92, 93, 94, 95, 96, 97, 98, 99, 100, 101, 46, 47, 48, 102, 55, 56, 57, 103, 104, 105, 106, 107, 108, 109, 110, 111, 112, 113, 114, 115, 116, 117, 118, 119] (by decide +kernel) (by decide +kernel)
set_option maxRecDepth 20000 in
theorem gX3_netWeight_X3_netWeightOf : GoodIn wsX3_netWeight (wsV RX3 139 RX3 yX3_netWeightOf wsX3_netWeightOf) := goodIn_app (goodIn_of _ (by decide +kernel)) ggX3_netWeight_X3_netWeightOf
theorem dX3_netWeight_0 : decode cX3_netWeight 0 = .ok (.aload_n 0, 1) := by decide +kernel
theorem dX3_netWeight_1 : decode cX3_netWeight 1 = .ok (.iload_n 1, 1) := by decide +kernel
theorem dX3_netWeight_2 : decode cX3_netWeight 2 = .ok (.invokevirtual 92, 3) := by decide +kernel
theorem dX3_netWeight_5 : decode cX3_netWeight 5 = .ok (.astore_n 2, 1) := by decide +kernel
theorem dX3_netWeight_6 : decode cX3_netWeight 6 = .ok (.aload_n 2, 1) := by decide +kernel
theorem dX3_netWeight_7 : decode cX3_netWeight 7 = .ok (.ifnonnull 7, 3) := by decide +kernel
theorem dX3_netWeight_10 : decode cX3_netWeight 10 = .ok (.ldc2_w 96, 3) := by decide +kernel
theorem dX3_netWeight_13 : decode cX3_netWeight 13 = .ok (.lreturn, 1) := by decide +kernel
theorem dX3_netWeight_14 : decode cX3_netWeight 14 = .ok (.aload_n 0, 1) := by decide +kernel
theorem dX3_netWeight_15 : decode cX3_netWeight 15 = .ok (.aload_n 2, 1) := by decide +kernel
theorem dX3_netWeight_16 : decode cX3_netWeight 16 = .ok (.lconst 0, 1) := by decide +kernel
theorem dX3_netWeight_17 : decode cX3_netWeight 17 = .ok (.invokevirtual 122, 3) := by decide +kernel
theorem dX3_netWeight_20 : decode cX3_netWeight 20 = .ok (.ifCond .ne 7, 3) := by decide +kernel
theorem dX3_netWeight_23 : decode cX3_netWeight 23 = .ok (.ldc2_w 126, 3) := by decide +kernel
theorem dX3_netWeight_26 : decode cX3_netWeight 26 = .ok (.lreturn, 1) := by decide +kernel
theorem dX3_netWeight_27 : decode cX3_netWeight 27 = .ok (.aload_n 0, 1) := by decide +kernel
theorem dX3_netWeight_28 : decode cX3_netWeight 28 = .ok (.aload_n 2, 1) := by decide +kernel
theorem dX3_netWeight_29 : decode cX3_netWeight 29 = .ok (.lconst 0, 1) := by decide +kernel
theorem dX3_netWeight_30 : decode cX3_netWeight 30 = .ok (.invokevirtual 139, 3) := by decide +kernel
theorem dX3_netWeight_33 : decode cX3_netWeight 33 = .ok (.lreturn, 1) := by decide +kernel
set_option maxRecDepth 20000 in
theorem ggX3_cargo_X3_surveyAt : GoodIn wsX3_cargo wsX3_surveyAt := goodIn_r _ [7, 8, 108, 109, 110, 111, 112, 113, 114] (by decide +kernel) (by decide +kernel)
set_option maxRecDepth 20000 in
theorem gX3_cargo_X3_surveyAt : GoodIn wsX3_cargo (wsV RX3 92 RX3 yX3_surveyAt wsX3_surveyAt) := goodIn_app (goodIn_of _ (by decide +kernel)) ggX3_cargo_X3_surveyAt
set_option maxRecDepth 20000 in
theorem ggX3_cargo_X3_canCompute : GoodIn wsX3_cargo wsX3_canCompute := goodIn_r _ [12, 13, 14, 15, 16, 17, 18, 19, 20, 21, 22, 23, 24, 25, 26, 27, 28, 29, 30, 31, 32, 33, 34, 35, 36, 37, 38, 39, 40, 41, 42, 43, 44, 45, 46, 47, 48, 49, 50, 51, 52, 53, 54, 55, 56, 57, 108, 109, 110, 111, 112, 113, 114, 115, 116, 117, 118, 119] (by decide +kernel) (by decide +kernel)
set_option maxRecDepth 20000 in
theorem gX3_cargo_X3_canCompute : GoodIn wsX3_cargo (wsV RX3 122 RX3 yX3_canCompute wsX3_canCompute) := goodIn_app (goodIn_of _ (by decide +kernel)) ggX3_cargo_X3_canCompute
set_option maxRecDepth 20000 in
theorem ggX3_cargo_X3_netWeightOf : GoodIn wsX3_cargo wsX3_netWeightOf := goodIn_r _ [61, 62, 63, 64, 6, 65, 13, 66, 14, 15, 16, 17, 18, 19, 20, 21, 22, 23, 24, 25, 26, 27, 28, 29, 30, 31, 32, 33, 34, 35, 36, 37, 38, 67, 68, 69, 70, 71, 72, 73, 42, 74, 44, 75, 49, 50, 51, 52, 53, 76, 77, 78, 79, 80, 81, 82, 83, 84, 85, 86, 87, 88, 89, 90, 91, 92, 93, 94, 95, 96, 97, 98, 99, 100, 101, 46, 47, 48, 102, 55, 56, 57, 103, 104, 105, 106, 107, 108, 109, 110, 111, 112, 113, 114, 115, 116, 117, 118, 119] (by decide +kernel) (by decide +kernel)
set_option maxRecDepth 20000 in
theorem gX3_cargo_X3_netWeightOf : GoodIn wsX3_cargo (wsV RX3 139 RX3 yX3_netWeightOf wsX3_netWeightOf) := goodIn_app (goodIn_of _ (by decide +kernel)) ggX3_cargo_X3_netWeightOf
theorem dX3_cargo_0 : decode cX3_cargo 0 = .ok (.aload_n 0, 1) := by decide +kernel
theorem dX3_cargo_1 : decode cX3_cargo 1 = .ok (.iload_n 1, 1) := by decide +kernel
theorem dX3_cargo_2 : decode cX3_cargo 2 = .ok (.invokevirtual 92, 3) := by decide +kernel
theorem dX3_cargo_5 : decode cX3_cargo 5 = .ok (.astore_n 3, 1) := by decide +kernel
theorem dX3_cargo_6 : decode cX3_cargo 6 = .ok (.aload_n 0, 1) := by decide +kernel
theorem dX3_cargo_7 : decode cX3_cargo 7 = .ok (.iload_n 2, 1) := by decide +kernel
theorem dX3_cargo_8 : decode cX3_cargo 8 = .ok (.invokevirtual 92, 3) := by decide +kernel
theorem dX3_cargo_11 : decode cX3_cargo 11 = .ok (.astore 4, 2) := by decide +kernel
theorem dX3_cargo_13 : decode cX3_cargo 13 = .ok (.aload_n 3, 1) := by decide +kernel
theorem dX3_cargo_14 : decode cX3_cargo 14 = .ok (.ifnull 8, 3) := by decide +kernel
theorem dX3_cargo_17 : decode cX3_cargo 17 = .ok (.aload 4, 2) := by decide +kernel
theorem dX3_cargo_19 : decode cX3_cargo 19 = .ok (.ifnonnull 7, 3) := by decide +kernel
theorem dX3_cargo_22 : decode cX3_cargo 22 = .ok (.ldc2_w 96, 3) := by decide +kernel
theorem dX3_cargo_25 : decode cX3_cargo 25 = .ok (.lreturn, 1) := by decide +kernel
theorem dX3_cargo_26 : decode cX3_cargo 26 = .ok (.aload_n 0, 1) := by decide +kernel
theorem dX3_cargo_27 : decode cX3_cargo 27 = .ok (.aload_n 3, 1) := by decide +kernel
theorem dX3_cargo_28 : decode cX3_cargo 28 = .ok (.lconst 0, 1) := by decide +kernel
theorem dX3_cargo_29 : decode cX3_cargo 29 = .ok (.invokevirtual 122, 3) := by decide +kernel
theorem dX3_cargo_32 : decode cX3_cargo 32 = .ok (.ifCond .eq 13, 3) := by decide +kernel
theorem dX3_cargo_35 : decode cX3_cargo 35 = .ok (.aload_n 0, 1) := by decide +kernel
theorem dX3_cargo_36 : decode cX3_cargo 36 = .ok (.aload 4, 2) := by decide +kernel
theorem dX3_cargo_38 : decode cX3_cargo 38 = .ok (.lconst 0, 1) := by decide +kernel
theorem dX3_cargo_39 : decode cX3_cargo 39 = .ok (.invokevirtual 122, 3) := by decide +kernel
theorem dX3_cargo_42 : decode cX3_cargo 42 = .ok (.ifCond .ne 7, 3) := by decide +kernel
theorem dX3_cargo_45 : decode cX3_cargo 45 = .ok (.ldc2_w 126, 3) := by decide +kernel
theorem dX3_cargo_48 : decode cX3_cargo 48 = .ok (.lreturn, 1) := by decide +kernel
theorem dX3_cargo_49 : decode cX3_cargo 49 = .ok (.aload_n 0, 1) := by decide +kernel
theorem dX3_cargo_50 : decode cX3_cargo 50 = .ok (.aload 4, 2) := by decide +kernel
theorem dX3_cargo_52 : decode cX3_cargo 52 = .ok (.lconst 0, 1) := by decide +kernel
theorem dX3_cargo_53 : decode cX3_cargo 53 = .ok (.invokevirtual 139, 3) := by decide +kernel
theorem dX3_cargo_56 : decode cX3_cargo 56 = .ok (.aload_n 0, 1) := by decide +kernel
theorem dX3_cargo_57 : decode cX3_cargo 57 = .ok (.aload_n 3, 1) := by decide +kernel
theorem dX3_cargo_58 : decode cX3_cargo 58 = .ok (.lconst 0, 1) := by decide +kernel
theorem dX3_cargo_59 : decode cX3_cargo 59 = .ok (.invokevirtual 139, 3) := by decide +kernel
theorem dX3_cargo_62 : decode cX3_cargo 62 = .ok (.lsub, 1) := by decide +kernel
theorem dX3_cargo_63 : decode cX3_cargo 63 = .ok (.lreturn, 1) := by decide +kernel
set_option maxRecDepth 20000 in
theorem ggX3_cargoLow_X3_surveyAt : GoodIn wsX3_cargoLow wsX3_surveyAt := goodIn_r _ [7, 8, 121, 122, 123, 124, 125, 126, 127] (by decide +kernel) (by decide +kernel)
set_option maxRecDepth 20000 in
theorem gX3_cargoLow_X3_surveyAt : GoodIn wsX3_cargoLow (wsV RX3 92 RX3 yX3_surveyAt wsX3_surveyAt) := goodIn_app (goodIn_of _ (by decide +kernel)) ggX3_cargoLow_X3_surveyAt
set_option maxRecDepth 20000 in
theorem ggX3_cargoLow_X3_canComputeMargins : GoodIn wsX3_cargoLow wsX3_canComputeMargins := goodIn_r _ [12, 13, 14, 15, 16, 6, 17, 18, 19, 20, 21, 22, 23, 24, 25, 26, 27, 28, 29, 30, 31, 32, 33, 34, 35, 36, 37, 38, 39, 40, 41, 42, 43, 44, 45, 46, 47, 48, 49, 50, 51, 52, 53, 54, 55, 56, 57, 58, 59, 60, 61, 62, 121, 122, 123, 124, 125, 126, 127, 128, 129, 130, 131, 132] (by decide +kernel) (by decide +kernel)
set_option maxRecDepth 20000 in
theorem gX3_cargoLow_X3_canComputeMargins : GoodIn wsX3_cargoLow (wsV RX3 142 RX3 yX3_canComputeMargins wsX3_canComputeMargins) := goodIn_app (goodIn_of _ (by decide +kernel)) ggX3_cargoLow_X3_canComputeMargins
set_option maxRecDepth 20000 in
theorem ggX3_cargoLow_X3_lightWeight : GoodIn wsX3_cargoLow wsX3_lightWeight := goodIn_r _ [66, 13, 67, 68, 69, 70, 71, 72, 73, 6, 74, 75, 76, 77, 78, 18, 79, 19, 20, 21, 22, 23, 24, 25, 26, 27, 28, 29, 30, 31, 32, 33, 34, 35, 36, 37, 38, 39, 40, 41, 42, 43, 80, 81, 82, 83, 84, 85, 86, 47, 87, 49, 88, 54, 55, 56, 57, 58, 89, 90, 91, 92, 93, 94, 95, 96, 97, 98, 99, 100, 101, 102, 103, 104, 105, 106, 107, 108, 109, 110, 51, 52, 53, 111, 60, 61, 62, 112, 113, 114, 115, 116, 121, 122, 123, 124, 125, 126, 127, 128, 129, 130, 131, 132] (by decide +kernel) (by decide +kernel)
set_option maxRecDepth 20000 in
theorem gX3_cargoLow_X3_lightWeight : GoodIn wsX3_cargoLow (wsV RX3 146 RX3 yX3_lightWeight wsX3_lightWeight) := goodIn_app (goodIn_of _ (by decide +kernel)) ggX3_cargoLow_X3_lightWeight
set_option maxRecDepth 20000 in
theorem ggX3_cargoLow_X3_heavyWeight : GoodIn wsX3_cargoLow wsX3_heavyWeight := goodIn_r _ [120, 13, 105, 106, 69, 107, 71, 72, 73, 6, 74, 75, 76, 77, 78, 18, 79, 19, 20, 21, 22, 23, 24, 25, 26, 27, 28, 29, 30, 31, 32, 33, 34, 35, 36, 37, 38, 39, 40, 41, 42, 43, 80, 81, 82, 83, 84, 85, 86, 47, 87, 49, 88, 54, 55, 56, 57, 58, 89, 90, 91, 92, 93, 94, 95, 96, 97, 98, 99, 100, 101, 102, 103, 104, 67, 68, 70, 108, 109, 110, 51, 52, 53, 111, 60, 61, 62, 112, 113, 114, 115, 116, 121, 122, 123, 124, 125, 126, 127, 128, 129, 130, 131, 132] (by decide +kernel) (by decide +kernel)
set_option maxRecDepth 20000 in
theorem gX3_cargoLow_X3_heavyWeight : GoodIn wsX3_cargoLow (wsV RX3 150 RX3 yX3_heavyWeight wsX3_heavyWeight) := goodIn_app (goodIn_of _ (by decide +kernel)) ggX3_cargoLow_X3_heavyWeight
theorem dX3_cargoLow_0 : decode cX3_cargoLow 0 = .ok (.aload_n 0, 1) := by decide +kernel
theorem dX3_cargoLow_1 : decode cX3_cargoLow 1 = .ok (.iload_n 1, 1) := by decide +kernel
theorem dX3_cargoLow_2 : decode cX3_cargoLow 2 = .ok (.invokevirtual 92, 3) := by decide +kernel
theorem dX3_cargoLow_5 : decode cX3_cargoLow 5 = .ok (.astore_n 3, 1) := by decide +kernel
theorem dX3_cargoLow_6 : decode cX3_cargoLow 6 = .ok (.aload_n 0, 1) := by decide +kernel
theorem dX3_cargoLow_7 : decode cX3_cargoLow 7 = .ok (.iload_n 2, 1) := by decide +kernel
theorem dX3_cargoLow_8 : decode cX3_cargoLow 8 = .ok (.invokevirtual 92, 3) := by decide +kernel
theorem dX3_cargoLow_11 : decode cX3_cargoLow 11 = .ok (.astore 4, 2) := by decide +kernel
theorem dX3_cargoLow_13 : decode cX3_cargoLow 13 = .ok (.aload_n 3, 1) := by decide +kernel
theorem dX3_cargoLow_14 : decode cX3_cargoLow 14 = .ok (.ifnull 8, 3) := by decide +kernel
theorem dX3_cargoLow_17 : decode cX3_cargoLow 17 = .ok (.aload 4, 2) := by decide +kernel
theorem dX3_cargoLow_19 : decode cX3_cargoLow 19 = .ok (.ifnonnull 7, 3) := by decide +kernel
theorem dX3_cargoLow_22 : decode cX3_cargoLow 22 = .ok (.ldc2_w 96, 3) := by decide +kernel
theorem dX3_cargoLow_25 : decode cX3_cargoLow 25 = .ok (.lreturn, 1) := by decide +kernel
theorem dX3_cargoLow_26 : decode cX3_cargoLow 26 = .ok (.aload_n 0, 1) := by decide +kernel
theorem dX3_cargoLow_27 : decode cX3_cargoLow 27 = .ok (.aload_n 3, 1) := by decide +kernel
theorem dX3_cargoLow_28 : decode cX3_cargoLow 28 = .ok (.invokevirtual 142, 3) := by decide +kernel
theorem dX3_cargoLow_31 : decode cX3_cargoLow 31 = .ok (.ifCond .eq 12, 3) := by decide +kernel
theorem dX3_cargoLow_34 : decode cX3_cargoLow 34 = .ok (.aload_n 0, 1) := by decide +kernel
theorem dX3_cargoLow_35 : decode cX3_cargoLow 35 = .ok (.aload 4, 2) := by decide +kernel
theorem dX3_cargoLow_37 : decode cX3_cargoLow 37 = .ok (.invokevirtual 142, 3) := by decide +kernel
theorem dX3_cargoLow_40 : decode cX3_cargoLow 40 = .ok (.ifCond .ne 7, 3) := by decide +kernel
theorem dX3_cargoLow_43 : decode cX3_cargoLow 43 = .ok (.ldc2_w 126, 3) := by decide +kernel
theorem dX3_cargoLow_46 : decode cX3_cargoLow 46 = .ok (.lreturn, 1) := by decide +kernel
theorem dX3_cargoLow_47 : decode cX3_cargoLow 47 = .ok (.aload_n 0, 1) := by decide +kernel
theorem dX3_cargoLow_48 : decode cX3_cargoLow 48 = .ok (.aload 4, 2) := by decide +kernel
theorem dX3_cargoLow_50 : decode cX3_cargoLow 50 = .ok (.invokevirtual 146, 3) := by decide +kernel
theorem dX3_cargoLow_53 : decode cX3_cargoLow 53 = .ok (.aload_n 0, 1) := by decide +kernel
theorem dX3_cargoLow_54 : decode cX3_cargoLow 54 = .ok (.aload_n 3, 1) := by decide +kernel
theorem dX3_cargoLow_55 : decode cX3_cargoLow 55 = .ok (.invokevirtual 150, 3) := by decide +kernel
theorem dX3_cargoLow_58 : decode cX3_cargoLow 58 = .ok (.lsub, 1) := by decide +kernel
theorem dX3_cargoLow_59 : decode cX3_cargoLow 59 = .ok (.lreturn, 1) := by decide +kernel
set_option maxRecDepth 20000 in
theorem ggX3_cargoHigh_X3_surveyAt : GoodIn wsX3_cargoHigh wsX3_surveyAt := goodIn_r _ [7, 8, 121, 122, 123, 124, 125, 126, 127] (by decide +kernel) (by decide +kernel)
set_option maxRecDepth 20000 in
theorem gX3_cargoHigh_X3_surveyAt : GoodIn wsX3_cargoHigh (wsV RX3 92 RX3 yX3_surveyAt wsX3_surveyAt) := goodIn_app (goodIn_of _ (by decide +kernel)) ggX3_cargoHigh_X3_surveyAt
set_option maxRecDepth 20000 in
theorem ggX3_cargoHigh_X3_canComputeMargins : GoodIn wsX3_cargoHigh wsX3_canComputeMargins := goodIn_r _ [12, 13, 14, 15, 16, 6, 17, 18, 19, 20, 21, 22, 23, 24, 25, 26, 27, 28, 29, 30, 31, 32, 33, 34, 35, 36, 37, 38, 39, 40, 41, 42, 43, 44, 45, 46, 47, 48, 49, 50, 51, 52, 53, 54, 55, 56, 57, 58, 59, 60, 61, 62, 121, 122, 123, 124, 125, 126, 127, 128, 129, 130, 131, 132] (by decide +kernel) (by decide +kernel)
set_option maxRecDepth 20000 in
theorem gX3_cargoHigh_X3_canComputeMargins : GoodIn wsX3_cargoHigh (wsV RX3 142 RX3 yX3_canComputeMargins wsX3_canComputeMargins) := goodIn_app (goodIn_of _ (by decide +kernel)) ggX3_cargoHigh_X3_canComputeMargins
set_option maxRecDepth 20000 in
theorem ggX3_cargoHigh_X3_heavyWeight : GoodIn wsX3_cargoHigh wsX3_heavyWeight := goodIn_r _ [66, 13, 67, 68, 69, 70, 71, 72, 73, 6, 74, 75, 76, 77, 78, 18, 79, 19, 20, 21, 22, 23, 24, 25, 26, 27, 28, 29, 30, 31, 32, 33, 34, 35, 36, 37, 38, 39, 40, 41, 42, 43, 80, 81, 82, 83, 84, 85, 86, 47, 87, 49, 88, 54, 55, 56, 57, 58, 89, 90, 91, 92, 93, 94, 95, 96, 97, 98, 99, 100, 101, 102, 103, 104, 105, 106, 107, 108, 109, 110, 51, 52, 53, 111, 60, 61, 62, 112, 113, 114, 115, 116, 121, 122, 123, 124, 125, 126, 127, 128, 129, 130, 131, 132] (by decide +kernel) (by decide +kernel)
set_option maxRecDepth 20000 in
theorem gX3_cargoHigh_X3_heavyWeight : GoodIn wsX3_cargoHigh (wsV RX3 150 RX3 yX3_heavyWeight wsX3_heavyWeight) := goodIn_app (goodIn_of _ (by decide +kernel)) ggX3_cargoHigh_X3_heavyWeight
set_option maxRecDepth 20000 in
theorem ggX3_cargoHigh_X3_lightWeight : GoodIn wsX3_cargoHigh wsX3_lightWeight := goodIn_r _ [120, 13, 105, 106, 69, 107, 71, 72, 73, 6, 74, 75, 76, 77, 78, 18, 79, 19, 20, 21, 22, 23, 24, 25, 26, 27, 28, 29, 30, 31, 32, 33, 34, 35, 36, 37, 38, 39, 40, 41, 42, 43, 80, 81, 82, 83, 84, 85, 86, 47, 87, 49, 88, 54, 55, 56, 57, 58, 89, 90, 91, 92, 93, 94, 95, 96, 97, 98, 99, 100, 101, 102, 103, 104, 67, 68, 70, 108, 109, 110, 51, 52, 53, 111, 60, 61, 62, 112, 113, 114, 115, 116, 121, 122, 123, 124, 125, 126, 127, 128, 129, 130, 131, 132] (by decide +kernel) (by decide +kernel)
set_option maxRecDepth 20000 in
theorem gX3_cargoHigh_X3_lightWeight : GoodIn wsX3_cargoHigh (wsV RX3 146 RX3 yX3_lightWeight wsX3_lightWeight) := goodIn_app (goodIn_of _ (by decide +kernel)) ggX3_cargoHigh_X3_lightWeight
theorem dX3_cargoHigh_0 : decode cX3_cargoHigh 0 = .ok (.aload_n 0, 1) := by decide +kernel
theorem dX3_cargoHigh_1 : decode cX3_cargoHigh 1 = .ok (.iload_n 1, 1) := by decide +kernel
theorem dX3_cargoHigh_2 : decode cX3_cargoHigh 2 = .ok (.invokevirtual 92, 3) := by decide +kernel
theorem dX3_cargoHigh_5 : decode cX3_cargoHigh 5 = .ok (.astore_n 3, 1) := by decide +kernel
theorem dX3_cargoHigh_6 : decode cX3_cargoHigh 6 = .ok (.aload_n 0, 1) := by decide +kernel
theorem dX3_cargoHigh_7 : decode cX3_cargoHigh 7 = .ok (.iload_n 2, 1) := by decide +kernel
theorem dX3_cargoHigh_8 : decode cX3_cargoHigh 8 = .ok (.invokevirtual 92, 3) := by decide +kernel
theorem dX3_cargoHigh_11 : decode cX3_cargoHigh 11 = .ok (.astore 4, 2) := by decide +kernel
theorem dX3_cargoHigh_13 : decode cX3_cargoHigh 13 = .ok (.aload_n 3, 1) := by decide +kernel
theorem dX3_cargoHigh_14 : decode cX3_cargoHigh 14 = .ok (.ifnull 8, 3) := by decide +kernel
theorem dX3_cargoHigh_17 : decode cX3_cargoHigh 17 = .ok (.aload 4, 2) := by decide +kernel
theorem dX3_cargoHigh_19 : decode cX3_cargoHigh 19 = .ok (.ifnonnull 7, 3) := by decide +kernel
theorem dX3_cargoHigh_22 : decode cX3_cargoHigh 22 = .ok (.ldc2_w 96, 3) := by decide +kernel
theorem dX3_cargoHigh_25 : decode cX3_cargoHigh 25 = .ok (.lreturn, 1) := by decide +kernel
theorem dX3_cargoHigh_26 : decode cX3_cargoHigh 26 = .ok (.aload_n 0, 1) := by decide +kernel
theorem dX3_cargoHigh_27 : decode cX3_cargoHigh 27 = .ok (.aload_n 3, 1) := by decide +kernel
theorem dX3_cargoHigh_28 : decode cX3_cargoHigh 28 = .ok (.invokevirtual 142, 3) := by decide +kernel
theorem dX3_cargoHigh_31 : decode cX3_cargoHigh 31 = .ok (.ifCond .eq 12, 3) := by decide +kernel
theorem dX3_cargoHigh_34 : decode cX3_cargoHigh 34 = .ok (.aload_n 0, 1) := by decide +kernel
theorem dX3_cargoHigh_35 : decode cX3_cargoHigh 35 = .ok (.aload 4, 2) := by decide +kernel
theorem dX3_cargoHigh_37 : decode cX3_cargoHigh 37 = .ok (.invokevirtual 142, 3) := by decide +kernel
theorem dX3_cargoHigh_40 : decode cX3_cargoHigh 40 = .ok (.ifCond .ne 7, 3) := by decide +kernel
theorem dX3_cargoHigh_43 : decode cX3_cargoHigh 43 = .ok (.ldc2_w 126, 3) := by decide +kernel
theorem dX3_cargoHigh_46 : decode cX3_cargoHigh 46 = .ok (.lreturn, 1) := by decide +kernel
theorem dX3_cargoHigh_47 : decode cX3_cargoHigh 47 = .ok (.aload_n 0, 1) := by decide +kernel
theorem dX3_cargoHigh_48 : decode cX3_cargoHigh 48 = .ok (.aload 4, 2) := by decide +kernel
theorem dX3_cargoHigh_50 : decode cX3_cargoHigh 50 = .ok (.invokevirtual 150, 3) := by decide +kernel
theorem dX3_cargoHigh_53 : decode cX3_cargoHigh 53 = .ok (.aload_n 0, 1) := by decide +kernel
theorem dX3_cargoHigh_54 : decode cX3_cargoHigh 54 = .ok (.aload_n 3, 1) := by decide +kernel
theorem dX3_cargoHigh_55 : decode cX3_cargoHigh 55 = .ok (.invokevirtual 146, 3) := by decide +kernel
theorem dX3_cargoHigh_58 : decode cX3_cargoHigh 58 = .ok (.lsub, 1) := by decide +kernel
theorem dX3_cargoHigh_59 : decode cX3_cargoHigh 59 = .ok (.lreturn, 1) := by decide +kernel
set_option maxRecDepth 20000 in
theorem ggX3_draftFor_X2_leastDraftFor : GoodIn wsX3_draftFor wsX2_leastDraftFor := goodIn_r _ [6, 7, 8, 9, 10, 11, 5, 12, 13, 14, 15, 16, 17, 18, 19, 20, 21, 22, 23, 24, 32, 33] (by decide +kernel) (by decide +kernel)
set_option maxRecDepth 20000 in
theorem gX3_draftFor_X2_leastDraftFor : GoodIn wsX3_draftFor (wsV RX3 153 RX2 yX2_leastDraftFor wsX2_leastDraftFor) := goodIn_app (goodIn_of _ (by decide +kernel)) ggX3_draftFor_X2_leastDraftFor
theorem dX3_draftFor_0 : decode cX3_draftFor 0 = .ok (.aload_n 0, 1) := by decide +kernel
theorem dX3_draftFor_1 : decode cX3_draftFor 1 = .ok (.getfield 27, 3) := by decide +kernel
theorem dX3_draftFor_4 : decode cX3_draftFor 4 = .ok (.iload_n 1, 1) := by decide +kernel
theorem dX3_draftFor_5 : decode cX3_draftFor 5 = .ok (.i2l, 1) := by decide +kernel
theorem dX3_draftFor_6 : decode cX3_draftFor 6 = .ok (.invokevirtual 153, 3) := by decide +kernel
theorem dX3_draftFor_9 : decode cX3_draftFor 9 = .ok (.lreturn, 1) := by decide +kernel
set_option maxRecDepth 20000 in
theorem ggX3_heaviest_X3_surveyAt : GoodIn wsX3_heaviest wsX3_surveyAt := goodIn_r _ [6, 7, 107, 108, 109, 110, 111, 112, 113] (by decide +kernel) (by decide +kernel)
set_option maxRecDepth 20000 in
theorem gX3_heaviest_X3_surveyAt : GoodIn wsX3_heaviest (wsV RX3 92 RX3 yX3_surveyAt wsX3_surveyAt) := goodIn_app (goodIn_of _ (by decide +kernel)) ggX3_heaviest_X3_surveyAt
set_option maxRecDepth 20000 in
theorem ggX3_heaviest_X3_canCompute : GoodIn wsX3_heaviest wsX3_canCompute := goodIn_r _ [11, 12, 13, 14, 15, 16, 17, 18, 19, 20, 21, 22, 23, 24, 25, 26, 27, 28, 29, 30, 31, 32, 33, 34, 35, 36, 37, 38, 39, 40, 41, 42, 43, 44, 45, 46, 47, 48, 49, 50, 51, 52, 53, 54, 55, 56, 107, 108, 109, 110, 111, 112, 113, 114, 115, 116, 117, 118] (by decide +kernel) (by decide +kernel)
set_option maxRecDepth 20000 in
theorem gX3_heaviest_X3_canCompute : GoodIn wsX3_heaviest (wsV RX3 122 RX3 yX3_canCompute wsX3_canCompute) := goodIn_app (goodIn_of _ (by decide +kernel)) ggX3_heaviest_X3_canCompute
set_option maxRecDepth 20000 in
theorem ggX3_heaviest_X3_netWeightOf : GoodIn wsX3_heaviest wsX3_netWeightOf := goodIn_r _ [60, 61, 62, 63, 5, 64, 12, 65, 13, 14, 15, 16, 17, 18, 19, 20, 21, 22, 23, 24, 25, 26, 27, 28, 29, 30, 31, 32, 33, 34, 35, 36, 37, 66, 67, 68, 69, 70, 71, 72, 41, 73, 43, 74, 48, 49, 50, 51, 52, 75, 76, 77, 78, 79, 80, 81, 82, 83, 84, 85, 86, 87, 88, 89, 90, 91, 92, 93, 94, 95, 96, 97, 98, 99, 100, 45, 46, 47, 101, 54, 55, 56, 102, 103, 104, 105, 106, 107, 108, 109, 110, 111, 112, 113, 114, 115, 116, 117, 118] (by decide +kernel) (by decide +kernel)
set_option maxRecDepth 20000 in
theorem gX3_heaviest_X3_netWeightOf : GoodIn wsX3_heaviest (wsV RX3 139 RX3 yX3_netWeightOf wsX3_netWeightOf) := goodIn_app (goodIn_of _ (by decide +kernel)) ggX3_heaviest_X3_netWeightOf
theorem dX3_heaviest_0 : decode cX3_heaviest 0 = .ok (.ldc2_w 126, 3) := by decide +kernel
theorem dX3_heaviest_3 : decode cX3_heaviest 3 = .ok (.lstore_n 1, 1) := by decide +kernel
theorem dX3_heaviest_4 : decode cX3_heaviest 4 = .ok (.lconst 0, 1) := by decide +kernel
theorem dX3_heaviest_5 : decode cX3_heaviest 5 = .ok (.lstore_n 3, 1) := by decide +kernel
theorem dX3_heaviest_6 : decode cX3_heaviest 6 = .ok (.iconst 0, 1) := by decide +kernel
theorem dX3_heaviest_7 : decode cX3_heaviest 7 = .ok (.istore 5, 2) := by decide +kernel
theorem dX3_heaviest_9 : decode cX3_heaviest 9 = .ok (.iload 5, 2) := by decide +kernel
theorem dX3_heaviest_11 : decode cX3_heaviest 11 = .ok (.iconst 4, 1) := by decide +kernel
theorem dX3_heaviest_12 : decode cX3_heaviest 12 = .ok (.if_icmp .ge 63, 3) := by decide +kernel
theorem dX3_heaviest_15 : decode cX3_heaviest 15 = .ok (.aload_n 0, 1) := by decide +kernel
theorem dX3_heaviest_16 : decode cX3_heaviest 16 = .ok (.iload 5, 2) := by decide +kernel
theorem dX3_heaviest_18 : decode cX3_heaviest 18 = .ok (.invokevirtual 92, 3) := by decide +kernel
theorem dX3_heaviest_21 : decode cX3_heaviest 21 = .ok (.astore 6, 2) := by decide +kernel
theorem dX3_heaviest_23 : decode cX3_heaviest 23 = .ok (.aload 6, 2) := by decide +kernel
theorem dX3_heaviest_25 : decode cX3_heaviest 25 = .ok (.ifnull 44, 3) := by decide +kernel
theorem dX3_heaviest_28 : decode cX3_heaviest 28 = .ok (.aload_n 0, 1) := by decide +kernel
theorem dX3_heaviest_29 : decode cX3_heaviest 29 = .ok (.aload 6, 2) := by decide +kernel
theorem dX3_heaviest_31 : decode cX3_heaviest 31 = .ok (.lconst 0, 1) := by decide +kernel
theorem dX3_heaviest_32 : decode cX3_heaviest 32 = .ok (.invokevirtual 122, 3) := by decide +kernel
theorem dX3_heaviest_35 : decode cX3_heaviest 35 = .ok (.ifCond .eq 34, 3) := by decide +kernel
theorem dX3_heaviest_38 : decode cX3_heaviest 38 = .ok (.aload_n 0, 1) := by decide +kernel
theorem dX3_heaviest_39 : decode cX3_heaviest 39 = .ok (.aload 6, 2) := by decide +kernel
theorem dX3_heaviest_41 : decode cX3_heaviest 41 = .ok (.lconst 0, 1) := by decide +kernel
theorem dX3_heaviest_42 : decode cX3_heaviest 42 = .ok (.invokevirtual 139, 3) := by decide +kernel
theorem dX3_heaviest_45 : decode cX3_heaviest 45 = .ok (.lstore 7, 2) := by decide +kernel
theorem dX3_heaviest_47 : decode cX3_heaviest 47 = .ok (.lload_n 1, 1) := by decide +kernel
theorem dX3_heaviest_48 : decode cX3_heaviest 48 = .ok (.ldc2_w 126, 3) := by decide +kernel
theorem dX3_heaviest_51 : decode cX3_heaviest 51 = .ok (.lcmp, 1) := by decide +kernel
theorem dX3_heaviest_52 : decode cX3_heaviest 52 = .ok (.ifCond .eq 10, 3) := by decide +kernel
theorem dX3_heaviest_55 : decode cX3_heaviest 55 = .ok (.lload 7, 2) := by decide +kernel
theorem dX3_heaviest_57 : decode cX3_heaviest 57 = .ok (.lload_n 3, 1) := by decide +kernel
theorem dX3_heaviest_58 : decode cX3_heaviest 58 = .ok (.lcmp, 1) := by decide +kernel
theorem dX3_heaviest_59 : decode cX3_heaviest 59 = .ok (.ifCond .le 10, 3) := by decide +kernel
theorem dX3_heaviest_62 : decode cX3_heaviest 62 = .ok (.iload 5, 2) := by decide +kernel
theorem dX3_heaviest_64 : decode cX3_heaviest 64 = .ok (.i2l, 1) := by decide +kernel
theorem dX3_heaviest_65 : decode cX3_heaviest 65 = .ok (.lstore_n 1, 1) := by decide +kernel
theorem dX3_heaviest_66 : decode cX3_heaviest 66 = .ok (.lload 7, 2) := by decide +kernel
theorem dX3_heaviest_68 : decode cX3_heaviest 68 = .ok (.lstore_n 3, 1) := by decide +kernel
theorem dX3_heaviest_69 : decode cX3_heaviest 69 = .ok (.iinc 5 1, 3) := by decide +kernel
theorem dX3_heaviest_72 : decode cX3_heaviest 72 = .ok (.goto (-63), 3) := by decide +kernel
theorem dX3_heaviest_75 : decode cX3_heaviest 75 = .ok (.lload_n 1, 1) := by decide +kernel
theorem dX3_heaviest_76 : decode cX3_heaviest 76 = .ok (.lreturn, 1) := by decide +kernel
theorem dX3_rowCount_0 : decode cX3_rowCount 0 = .ok (.aload_n 0, 1) := by decide +kernel
theorem dX3_rowCount_1 : decode cX3_rowCount 1 = .ok (.getfield 27, 3) := by decide +kernel
theorem dX3_rowCount_4 : decode cX3_rowCount 4 = .ok (.getfield 78, 3) := by decide +kernel
theorem dX3_rowCount_7 : decode cX3_rowCount 7 = .ok (.i2l, 1) := by decide +kernel
theorem dX3_rowCount_8 : decode cX3_rowCount 8 = .ok (.lreturn, 1) := by decide +kernel
set_option maxRecDepth 20000 in
theorem ggX3_digest_X3_hashOfTable : GoodIn wsX3_digest wsX3_hashOfTable := goodIn_r _ [8, 9, 10, 11, 7, 12, 13, 14, 15, 16, 17, 18, 19, 20, 203, 204, 205, 206, 207, 208, 209, 210, 211] (by decide +kernel) (by decide +kernel)
set_option maxRecDepth 20000 in
theorem gX3_digest_X3_hashOfTable : GoodIn wsX3_digest (wsV RX3 159 RX3 yX3_hashOfTable wsX3_hashOfTable) := goodIn_app (goodIn_of _ (by decide +kernel)) ggX3_digest_X3_hashOfTable
set_option maxRecDepth 20000 in
theorem ggX3_digest_X3_hashOfSurvey : GoodIn wsX3_digest wsX3_hashOfSurvey := goodIn_r _ [24, 25, 26, 27, 7, 28, 29, 30, 31, 32, 33, 34, 35, 10, 11, 12, 13, 36, 37, 38, 39, 40, 41, 42, 43, 44, 45, 46, 47, 48, 49, 50, 51, 52, 53, 54, 55, 56, 57, 58, 59, 60, 61, 62, 63, 64, 65, 66, 67, 68, 69, 70, 71, 72, 73, 74, 75, 76, 77, 78, 79, 80, 81, 82, 83, 84, 85, 86, 87, 88, 89, 90, 91, 92, 93, 94, 95, 96, 97, 9, 98, 99, 100, 17, 101, 19, 102, 103, 104, 105, 106, 15, 16, 18, 20, 107, 108, 109, 110, 111, 112, 113, 114, 115, 2, 116, 117, 118, 119, 120, 121, 122, 123, 124, 125, 126, 127, 128, 129, 130, 131, 132, 133, 134, 135, 136, 137, 138, 139, 140, 141, 142, 143, 144, 145, 146, 147, 148, 149, 150, 151, 152, 153, 154, 155, 156, 157, 158, 159, 160, 161, 162, 163, 164, 165, 166, 167, 168, 212, 213, 214, 203, 204, 205, 206, 207, 208, 209, 210, 211] (by decide +kernel) (by decide +kernel)
set_option maxRecDepth 20000 in
theorem gX3_digest_X3_hashOfSurvey : GoodIn wsX3_digest (wsV RX3 162 RX3 yX3_hashOfSurvey wsX3_hashOfSurvey) := goodIn_app (goodIn_of _ (by decide +kernel)) ggX3_digest_X3_hashOfSurvey
set_option maxRecDepth 20000 in
theorem ggX3_digest_X3_cargo : GoodIn wsX3_digest wsX3_cargo := goodIn_r _ [172, 29, 93, 31, 32, 33, 7, 34, 35, 94, 95, 96, 97, 9, 83, 84, 85, 43, 86, 87, 88, 55, 56, 57, 58, 49, 50, 51, 52, 53, 54, 67, 68, 69, 70, 45, 46, 47, 48, 98, 99, 100, 17, 101, 19, 102, 103, 104, 105, 106, 15, 16, 18, 20, 107, 108, 109, 110, 160, 161, 162, 163, 151, 152, 153, 154, 155, 40, 41, 42, 44, 116, 117, 118, 119, 120, 121, 111, 112, 113, 114, 115, 2, 122, 123, 124, 125, 130, 131, 132, 133, 134, 135, 136, 137, 138, 139, 140, 141, 142, 143, 144, 145, 164, 165, 166, 167, 168, 203, 204, 205, 206, 207, 208, 209, 212, 213, 214, 210, 211] (by decide +kernel) (by decide +kernel)
set_option maxRecDepth 20000 in
theorem gX3_digest_X3_cargo : GoodIn wsX3_digest (wsV RX3 166 RX3 yX3_cargo wsX3_cargo) := goodIn_app (goodIn_of _ (by decide +kernel)) ggX3_digest_X3_cargo
set_option maxRecDepth 20000 in
theorem ggX3_digest_X3_hashWith : GoodIn wsX3_digest wsX3_hashWith := goodIn_r _ [12, 13] (by decide +kernel) (by decide +kernel)
set_option maxRecDepth 20000 in
theorem gX3_digest_X3_hashWith : GoodIn wsX3_digest (va_wsS RX3 169 yX3_hashWith wsX3_hashWith) := goodIn_app (goodIn_of _ (by decide +kernel)) ggX3_digest_X3_hashWith
set_option maxRecDepth 20000 in
theorem ggX3_digest_X3_cargoLow : GoodIn wsX3_digest wsX3_cargoLow := goodIn_r _ [176, 29, 93, 31, 32, 33, 7, 34, 35, 177, 178, 179, 180, 3, 94, 95, 96, 97, 9, 83, 84, 85, 43, 86, 87, 88, 55, 56, 57, 58, 49, 50, 51, 52, 53, 54, 67, 68, 69, 70, 45, 46, 47, 48, 98, 99, 100, 17, 101, 19, 102, 103, 104, 105, 106, 15, 16, 18, 20, 107, 108, 109, 110, 181, 182, 183, 184, 139, 140, 137, 141, 160, 161, 162, 163, 151, 152, 153, 154, 155, 40, 41, 42, 44, 116, 117, 118, 119, 120, 121, 111, 112, 113, 114, 115, 2, 122, 123, 124, 125, 130, 131, 132, 133, 134, 135, 136, 138, 142, 143, 144, 145, 164, 165, 166, 167, 168, 185, 186, 187, 188, 203, 204, 205, 206, 207, 208, 209, 212, 213, 214, 210, 211] (by decide +kernel) (by decide +kernel)
set_option maxRecDepth 20000 in
theorem gX3_digest_X3_cargoLow : GoodIn wsX3_digest (wsV RX3 172 RX3 yX3_cargoLow wsX3_cargoLow) := goodIn_app (goodIn_of _ (by decide +kernel)) ggX3_digest_X3_cargoLow
set_option maxRecDepth 20000 in
theorem ggX3_digest_X3_cargoHigh : GoodIn wsX3_digest wsX3_cargoHigh := goodIn_r _ [192, 29, 93, 31, 32, 33, 7, 34, 35, 177, 178, 179, 180, 3, 94, 95, 96, 97, 9, 83, 84, 85, 43, 86, 87, 88, 55, 56, 57, 58, 49, 50, 51, 52, 53, 54, 67, 68, 69, 70, 45, 46, 47, 48, 98, 99, 100, 17, 101, 19, 102, 103, 104, 105, 106, 15, 16, 18, 20, 107, 108, 109, 110, 185, 186, 187, 188, 135, 136, 137, 138, 160, 161, 162, 163, 151, 152, 153, 154, 155, 40, 41, 42, 44, 116, 117, 118, 119, 120, 121, 111, 112, 113, 114, 115, 2, 122, 123, 124, 125, 130, 131, 132, 133, 134, 139, 140, 141, 142, 143, 144, 145, 164, 165, 166, 167, 168, 181, 182, 183, 184, 203, 204, 205, 206, 207, 208, 209, 212, 213, 214, 210, 211] (by decide +kernel) (by decide +kernel)
set_option maxRecDepth 20000 in
theorem gX3_digest_X3_cargoHigh : GoodIn wsX3_digest (wsV RX3 175 RX3 yX3_cargoHigh wsX3_cargoHigh) := goodIn_app (goodIn_of _ (by decide +kernel)) ggX3_digest_X3_cargoHigh
set_option maxRecDepth 20000 in
theorem ggX3_digest_X3_heaviest : GoodIn wsX3_digest wsX3_heaviest := goodIn_r _ [196, 93, 31, 32, 33, 7, 34, 35, 94, 95, 96, 97, 9, 83, 84, 85, 43, 86, 87, 88, 55, 56, 57, 58, 49, 50, 51, 52, 53, 54, 67, 68, 69, 70, 45, 46, 47, 48, 98, 99, 100, 17, 101, 19, 102, 103, 104, 105, 106, 15, 16, 18, 20, 107, 108, 109, 110, 160, 161, 162, 163, 151, 152, 153, 154, 155, 40, 41, 42, 44, 116, 117, 118, 119, 120, 121, 111, 112, 113, 114, 115, 2, 122, 123, 124, 125, 130, 131, 132, 133, 134, 135, 136, 137, 138, 139, 140, 141, 142, 143, 144, 145, 164, 165, 166, 167, 168, 203, 204, 205, 206, 207, 208, 209, 212, 213, 214, 210, 211] (by decide +kernel) (by decide +kernel)
set_option maxRecDepth 20000 in
theorem gX3_digest_X3_heaviest : GoodIn wsX3_digest (wsV RX3 178 RX3 yX3_heaviest wsX3_heaviest) := goodIn_app (goodIn_of _ (by decide +kernel)) ggX3_digest_X3_heaviest
set_option maxRecDepth 20000 in
theorem ggX3_digest_X3_hashOfBuffer : GoodIn wsX3_digest wsX3_hashOfBuffer := goodIn_r _ [200, 201, 202, 10, 11, 7, 12, 13, 203, 204, 205, 206, 207, 208, 209] (by decide +kernel) (by decide +kernel)
set_option maxRecDepth 20000 in
theorem gX3_digest_X3_hashOfBuffer : GoodIn wsX3_digest (wsV RX3 181 RX3 yX3_hashOfBuffer wsX3_hashOfBuffer) := goodIn_app (goodIn_of _ (by decide +kernel)) ggX3_digest_X3_hashOfBuffer
theorem dX3_digest_0 : decode cX3_digest 0 = .ok (.aload_n 0, 1) := by decide +kernel
theorem dX3_digest_1 : decode cX3_digest 1 = .ok (.ldc2_w 157, 3) := by decide +kernel
theorem dX3_digest_4 : decode cX3_digest 4 = .ok (.invokevirtual 159, 3) := by decide +kernel
theorem dX3_digest_7 : decode cX3_digest 7 = .ok (.lstore_n 1, 1) := by decide +kernel
theorem dX3_digest_8 : decode cX3_digest 8 = .ok (.iconst 0, 1) := by decide +kernel
theorem dX3_digest_9 : decode cX3_digest 9 = .ok (.istore_n 3, 1) := by decide +kernel
theorem dX3_digest_10 : decode cX3_digest 10 = .ok (.iload_n 3, 1) := by decide +kernel
theorem dX3_digest_11 : decode cX3_digest 11 = .ok (.iconst 4, 1) := by decide +kernel
theorem dX3_digest_12 : decode cX3_digest 12 = .ok (.if_icmp .ge 16, 3) := by decide +kernel
theorem dX3_digest_15 : decode cX3_digest 15 = .ok (.aload_n 0, 1) := by decide +kernel
theorem dX3_digest_16 : decode cX3_digest 16 = .ok (.lload_n 1, 1) := by decide +kernel
theorem dX3_digest_17 : decode cX3_digest 17 = .ok (.iload_n 3, 1) := by decide +kernel
theorem dX3_digest_18 : decode cX3_digest 18 = .ok (.invokevirtual 162, 3) := by decide +kernel
theorem dX3_digest_21 : decode cX3_digest 21 = .ok (.lstore_n 1, 1) := by decide +kernel
theorem dX3_digest_22 : decode cX3_digest 22 = .ok (.iinc 3 1, 3) := by decide +kernel
theorem dX3_digest_25 : decode cX3_digest 25 = .ok (.goto (-15), 3) := by decide +kernel
theorem dX3_digest_28 : decode cX3_digest 28 = .ok (.lload_n 1, 1) := by decide +kernel
theorem dX3_digest_29 : decode cX3_digest 29 = .ok (.aload_n 0, 1) := by decide +kernel
theorem dX3_digest_30 : decode cX3_digest 30 = .ok (.iconst 0, 1) := by decide +kernel
theorem dX3_digest_31 : decode cX3_digest 31 = .ok (.iconst 1, 1) := by decide +kernel
theorem dX3_digest_32 : decode cX3_digest 32 = .ok (.invokevirtual 166, 3) := by decide +kernel
theorem dX3_digest_35 : decode cX3_digest 35 = .ok (.invokestatic 169, 3) := by decide +kernel
theorem dX3_digest_38 : decode cX3_digest 38 = .ok (.lstore_n 1, 1) := by decide +kernel
theorem dX3_digest_39 : decode cX3_digest 39 = .ok (.lload_n 1, 1) := by decide +kernel
theorem dX3_digest_40 : decode cX3_digest 40 = .ok (.aload_n 0, 1) := by decide +kernel
theorem dX3_digest_41 : decode cX3_digest 41 = .ok (.iconst 0, 1) := by decide +kernel
theorem dX3_digest_42 : decode cX3_digest 42 = .ok (.iconst 1, 1) := by decide +kernel
theorem dX3_digest_43 : decode cX3_digest 43 = .ok (.invokevirtual 172, 3) := by decide +kernel
theorem dX3_digest_46 : decode cX3_digest 46 = .ok (.invokestatic 169, 3) := by decide +kernel
theorem dX3_digest_49 : decode cX3_digest 49 = .ok (.lstore_n 1, 1) := by decide +kernel
theorem dX3_digest_50 : decode cX3_digest 50 = .ok (.lload_n 1, 1) := by decide +kernel
theorem dX3_digest_51 : decode cX3_digest 51 = .ok (.aload_n 0, 1) := by decide +kernel
theorem dX3_digest_52 : decode cX3_digest 52 = .ok (.iconst 0, 1) := by decide +kernel
theorem dX3_digest_53 : decode cX3_digest 53 = .ok (.iconst 1, 1) := by decide +kernel
theorem dX3_digest_54 : decode cX3_digest 54 = .ok (.invokevirtual 175, 3) := by decide +kernel
theorem dX3_digest_57 : decode cX3_digest 57 = .ok (.invokestatic 169, 3) := by decide +kernel
theorem dX3_digest_60 : decode cX3_digest 60 = .ok (.lstore_n 1, 1) := by decide +kernel
theorem dX3_digest_61 : decode cX3_digest 61 = .ok (.lload_n 1, 1) := by decide +kernel
theorem dX3_digest_62 : decode cX3_digest 62 = .ok (.aload_n 0, 1) := by decide +kernel
theorem dX3_digest_63 : decode cX3_digest 63 = .ok (.invokevirtual 178, 3) := by decide +kernel
theorem dX3_digest_66 : decode cX3_digest 66 = .ok (.invokestatic 169, 3) := by decide +kernel
theorem dX3_digest_69 : decode cX3_digest 69 = .ok (.lstore_n 1, 1) := by decide +kernel
theorem dX3_digest_70 : decode cX3_digest 70 = .ok (.lload_n 1, 1) := by decide +kernel
theorem dX3_digest_71 : decode cX3_digest 71 = .ok (.aload_n 0, 1) := by decide +kernel
theorem dX3_digest_72 : decode cX3_digest 72 = .ok (.getfield 40, 3) := by decide +kernel
theorem dX3_digest_75 : decode cX3_digest 75 = .ok (.invokestatic 169, 3) := by decide +kernel
theorem dX3_digest_78 : decode cX3_digest 78 = .ok (.lstore_n 1, 1) := by decide +kernel
theorem dX3_digest_79 : decode cX3_digest 79 = .ok (.lload_n 1, 1) := by decide +kernel
theorem dX3_digest_80 : decode cX3_digest 80 = .ok (.aload_n 0, 1) := by decide +kernel
theorem dX3_digest_81 : decode cX3_digest 81 = .ok (.getfield 44, 3) := by decide +kernel
theorem dX3_digest_84 : decode cX3_digest 84 = .ok (.invokestatic 169, 3) := by decide +kernel
theorem dX3_digest_87 : decode cX3_digest 87 = .ok (.lstore_n 1, 1) := by decide +kernel
theorem dX3_digest_88 : decode cX3_digest 88 = .ok (.aload_n 0, 1) := by decide +kernel
theorem dX3_digest_89 : decode cX3_digest 89 = .ok (.lload_n 1, 1) := by decide +kernel
theorem dX3_digest_90 : decode cX3_digest 90 = .ok (.invokevirtual 181, 3) := by decide +kernel
theorem dX3_digest_93 : decode cX3_digest 93 = .ok (.lreturn, 1) := by decide +kernel
theorem dX3_surveyAt_0 : decode cX3_surveyAt 0 = .ok (.iload_n 1, 1) := by decide +kernel
theorem dX3_surveyAt_1 : decode cX3_surveyAt 1 = .ok (.ifCond .lt 8, 3) := by decide +kernel
theorem dX3_surveyAt_4 : decode cX3_surveyAt 4 = .ok (.iload_n 1, 1) := by decide +kernel
theorem dX3_surveyAt_5 : decode cX3_surveyAt 5 = .ok (.iconst 4, 1) := by decide +kernel
theorem dX3_surveyAt_6 : decode cX3_surveyAt 6 = .ok (.if_icmp .lt 5, 3) := by decide +kernel
theorem dX3_surveyAt_9 : decode cX3_surveyAt 9 = .ok (.aconst_null, 1) := by decide +kernel
theorem dX3_surveyAt_10 : decode cX3_surveyAt 10 = .ok (.areturn, 1) := by decide +kernel
theorem dX3_surveyAt_11 : decode cX3_surveyAt 11 = .ok (.aload_n 0, 1) := by decide +kernel
theorem dX3_surveyAt_12 : decode cX3_surveyAt 12 = .ok (.getfield 33, 3) := by decide +kernel
theorem dX3_surveyAt_15 : decode cX3_surveyAt 15 = .ok (.iload_n 1, 1) := by decide +kernel
theorem dX3_surveyAt_16 : decode cX3_surveyAt 16 = .ok (.aaload, 1) := by decide +kernel
theorem dX3_surveyAt_17 : decode cX3_surveyAt 17 = .ok (.areturn, 1) := by decide +kernel
set_option maxRecDepth 20000 in
theorem ggX3_readBuffer_X0_begin : GoodIn wsX3_readBuffer wsX0_begin := goodIn_r _ [8, 9, 10, 11, 12, 7, 13, 14, 15, 16, 42, 43, 44, 45, 46] (by decide +kernel) (by decide +kernel)
set_option maxRecDepth 20000 in
theorem gX3_readBuffer_X0_begin : GoodIn wsX3_readBuffer (wsV RX3 184 RX0 yX0_begin wsX0_begin) := goodIn_app (goodIn_of _ (by decide +kernel)) ggX3_readBuffer_X0_begin
set_option maxRecDepth 20000 in
theorem ggX3_readBuffer_X0_takes : GoodIn wsX3_readBuffer wsX0_takes := goodIn_r _ [20, 21, 22, 23, 7, 24, 14, 9, 10, 11, 12, 13, 15, 16, 25, 26, 27, 28, 29, 30, 31, 32, 33, 34, 42, 43, 44, 45, 46] (by decide +kernel) (by decide +kernel)
set_option maxRecDepth 20000 in
theorem gX3_readBuffer_X0_takes : GoodIn wsX3_readBuffer (wsV RX3 187 RX0 yX0_takes wsX0_takes) := goodIn_app (goodIn_of _ (by decide +kernel)) ggX3_readBuffer_X0_takes
