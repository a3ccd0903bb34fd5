theorem dX4_at_40 : decode cX4_at 40 = .ok (.invokevirtual 88, 3) := by decide +kernel
theorem dX4_at_43 : decode cX4_at 43 = .ok (.lstore 5, 2) := by decide +kernel
theorem dX4_at_45 : decode cX4_at 45 = .ok (.aload_n 0, 1) := by decide +kernel
theorem dX4_at_46 : decode cX4_at 46 = .ok (.iload 4, 2) := by decide +kernel
theorem dX4_at_48 : decode cX4_at 48 = .ok (.iconst 0, 1) := by decide +kernel
theorem dX4_at_49 : decode cX4_at 49 = .ok (.invokevirtual 88, 3) := by decide +kernel
theorem dX4_at_52 : decode cX4_at 52 = .ok (.lload_n 2, 1) := by decide +kernel
theorem dX4_at_53 : decode cX4_at 53 = .ok (.lcmp, 1) := by decide +kernel
theorem dX4_at_54 : decode cX4_at 54 = .ok (.ifCond .ne 6, 3) := by decide +kernel
theorem dX4_at_57 : decode cX4_at 57 = .ok (.lload 5, 2) := by decide +kernel
theorem dX4_at_59 : decode cX4_at 59 = .ok (.lreturn, 1) := by decide +kernel
theorem dX4_at_60 : decode cX4_at 60 = .ok (.lload 5, 2) := by decide +kernel
theorem dX4_at_62 : decode cX4_at 62 = .ok (.aload_n 0, 1) := by decide +kernel
theorem dX4_at_63 : decode cX4_at 63 = .ok (.iload 4, 2) := by decide +kernel
theorem dX4_at_65 : decode cX4_at 65 = .ok (.iconst 1, 1) := by decide +kernel
theorem dX4_at_66 : decode cX4_at 66 = .ok (.iadd, 1) := by decide +kernel
theorem dX4_at_67 : decode cX4_at 67 = .ok (.iload_n 1, 1) := by decide +kernel
theorem dX4_at_68 : decode cX4_at 68 = .ok (.iconst 1, 1) := by decide +kernel
theorem dX4_at_69 : decode cX4_at 69 = .ok (.iadd, 1) := by decide +kernel
theorem dX4_at_70 : decode cX4_at 70 = .ok (.invokevirtual 88, 3) := by decide +kernel
theorem dX4_at_73 : decode cX4_at 73 = .ok (.lload 5, 2) := by decide +kernel
theorem dX4_at_75 : decode cX4_at 75 = .ok (.lsub, 1) := by decide +kernel
theorem dX4_at_76 : decode cX4_at 76 = .ok (.lload_n 2, 1) := by decide +kernel
theorem dX4_at_77 : decode cX4_at 77 = .ok (.aload_n 0, 1) := by decide +kernel
theorem dX4_at_78 : decode cX4_at 78 = .ok (.iload 4, 2) := by decide +kernel
theorem dX4_at_80 : decode cX4_at 80 = .ok (.iconst 0, 1) := by decide +kernel
theorem dX4_at_81 : decode cX4_at 81 = .ok (.invokevirtual 88, 3) := by decide +kernel
theorem dX4_at_84 : decode cX4_at 84 = .ok (.lsub, 1) := by decide +kernel
theorem dX4_at_85 : decode cX4_at 85 = .ok (.lmul, 1) := by decide +kernel
theorem dX4_at_86 : decode cX4_at 86 = .ok (.aload_n 0, 1) := by decide +kernel
theorem dX4_at_87 : decode cX4_at 87 = .ok (.iload 4, 2) := by decide +kernel
theorem dX4_at_89 : decode cX4_at 89 = .ok (.iconst 1, 1) := by decide +kernel
theorem dX4_at_90 : decode cX4_at 90 = .ok (.iadd, 1) := by decide +kernel
theorem dX4_at_91 : decode cX4_at 91 = .ok (.iconst 0, 1) := by decide +kernel
theorem dX4_at_92 : decode cX4_at 92 = .ok (.invokevirtual 88, 3) := by decide +kernel
theorem dX4_at_95 : decode cX4_at 95 = .ok (.aload_n 0, 1) := by decide +kernel
theorem dX4_at_96 : decode cX4_at 96 = .ok (.iload 4, 2) := by decide +kernel
theorem dX4_at_98 : decode cX4_at 98 = .ok (.iconst 0, 1) := by decide +kernel
theorem dX4_at_99 : decode cX4_at 99 = .ok (.invokevirtual 88, 3) := by decide +kernel
theorem dX4_at_102 : decode cX4_at 102 = .ok (.lsub, 1) := by decide +kernel
theorem dX4_at_103 : decode cX4_at 103 = .ok (.invokestatic 96, 3) := by decide +kernel
theorem dX4_at_106 : decode cX4_at 106 = .ok (.ladd, 1) := by decide +kernel
theorem dX4_at_107 : decode cX4_at 107 = .ok (.lreturn, 1) := by decide +kernel
set_option maxRecDepth 20000 in
theorem ggX4_tableValue_X4_within : GoodIn wsX4_tableValue wsX4_within := goodIn_r _ [7] (by decide +kernel) (by decide +kernel)
set_option maxRecDepth 20000 in
theorem gX4_tableValue_X4_within : GoodIn wsX4_tableValue (va_wsS RX4 41 yX4_within wsX4_within) := goodIn_app (goodIn_of _ (by decide +kernel)) ggX4_tableValue_X4_within
set_option maxRecDepth 20000 in
theorem ggX4_tableValue_X4_isCovered : GoodIn wsX4_tableValue wsX4_isCovered := goodIn_r _ [11, 12, 13, 14, 15, 6, 16, 17, 4, 5, 7, 25, 26, 27, 28, 29, 30, 31, 32, 33, 34, 35, 36, 37] (by decide +kernel) (by decide +kernel)
set_option maxRecDepth 20000 in
theorem gX4_tableValue_X4_isCovered : GoodIn wsX4_tableValue (wsV RX4 102 RX4 yX4_isCovered wsX4_isCovered) := goodIn_app (goodIn_of _ (by decide +kernel)) ggX4_tableValue_X4_isCovered
set_option maxRecDepth 20000 in
theorem ggX4_tableValue_X4_at : GoodIn wsX4_tableValue wsX4_at := goodIn_r _ [21, 12, 13, 14, 15, 6, 16, 17, 22, 23, 24, 25, 26, 27, 28, 29, 30, 31, 32, 33, 34, 35, 36, 37] (by decide +kernel) (by decide +kernel)
set_option maxRecDepth 20000 in
theorem gX4_tableValue_X4_at : GoodIn wsX4_tableValue (wsV RX4 106 RX4 yX4_at wsX4_at) := goodIn_app (goodIn_of _ (by decide +kernel)) ggX4_tableValue_X4_at
theorem dX4_tableValue_0 : decode cX4_tableValue 0 = .ok (.iload_n 1, 1) := by decide +kernel
theorem dX4_tableValue_1 : decode cX4_tableValue 1 = .ok (.i2l, 1) := by decide +kernel
theorem dX4_tableValue_2 : decode cX4_tableValue 2 = .ok (.lconst 0, 1) := by decide +kernel
theorem dX4_tableValue_3 : decode cX4_tableValue 3 = .ok (.ldc2_w 100, 3) := by decide +kernel
theorem dX4_tableValue_6 : decode cX4_tableValue 6 = .ok (.invokestatic 41, 3) := by decide +kernel
theorem dX4_tableValue_9 : decode cX4_tableValue 9 = .ok (.ifCond .ne 7, 3) := by decide +kernel
theorem dX4_tableValue_12 : decode cX4_tableValue 12 = .ok (.ldc2_w 94, 3) := by decide +kernel
theorem dX4_tableValue_15 : decode cX4_tableValue 15 = .ok (.lreturn, 1) := by decide +kernel
theorem dX4_tableValue_16 : decode cX4_tableValue 16 = .ok (.aload_n 0, 1) := by decide +kernel
theorem dX4_tableValue_17 : decode cX4_tableValue 17 = .ok (.iload_n 2, 1) := by decide +kernel
theorem dX4_tableValue_18 : decode cX4_tableValue 18 = .ok (.i2l, 1) := by decide +kernel
theorem dX4_tableValue_19 : decode cX4_tableValue 19 = .ok (.invokevirtual 102, 3) := by decide +kernel
theorem dX4_tableValue_22 : decode cX4_tableValue 22 = .ok (.ifCond .eq 13, 3) := by decide +kernel
theorem dX4_tableValue_25 : decode cX4_tableValue 25 = .ok (.aload_n 0, 1) := by decide +kernel
theorem dX4_tableValue_26 : decode cX4_tableValue 26 = .ok (.iload_n 1, 1) := by decide +kernel
theorem dX4_tableValue_27 : decode cX4_tableValue 27 = .ok (.iload_n 2, 1) := by decide +kernel
theorem dX4_tableValue_28 : decode cX4_tableValue 28 = .ok (.i2l, 1) := by decide +kernel
theorem dX4_tableValue_29 : decode cX4_tableValue 29 = .ok (.invokevirtual 106, 3) := by decide +kernel
theorem dX4_tableValue_32 : decode cX4_tableValue 32 = .ok (.goto 6, 3) := by decide +kernel
theorem dX4_tableValue_35 : decode cX4_tableValue 35 = .ok (.ldc2_w 110, 3) := by decide +kernel
theorem dX4_tableValue_38 : decode cX4_tableValue 38 = .ok (.lreturn, 1) := by decide +kernel
set_option maxRecDepth 20000 in
theorem ggX4_setLength_X4_within : GoodIn wsX4_setLength wsX4_within := goodIn_r _ [8] (by decide +kernel) (by decide +kernel)
set_option maxRecDepth 20000 in
theorem gX4_setLength_X4_within : GoodIn wsX4_setLength (va_wsS RX4 41 yX4_within wsX4_within) := goodIn_app (goodIn_of _ (by decide +kernel)) ggX4_setLength_X4_within
theorem dX4_setLength_0 : decode cX4_setLength 0 = .ok (.iload_n 1, 1) := by decide +kernel
theorem dX4_setLength_1 : decode cX4_setLength 1 = .ok (.i2l, 1) := by decide +kernel
theorem dX4_setLength_2 : decode cX4_setLength 2 = .ok (.ldc2_w 112, 3) := by decide +kernel
theorem dX4_setLength_5 : decode cX4_setLength 5 = .ok (.ldc2_w 114, 3) := by decide +kernel
theorem dX4_setLength_8 : decode cX4_setLength 8 = .ok (.invokestatic 41, 3) := by decide +kernel
theorem dX4_setLength_11 : decode cX4_setLength 11 = .ok (.ifCond .ne 7, 3) := by decide +kernel
theorem dX4_setLength_14 : decode cX4_setLength 14 = .ok (.ldc2_w 45, 3) := by decide +kernel
theorem dX4_setLength_17 : decode cX4_setLength 17 = .ok (.lreturn, 1) := by decide +kernel
theorem dX4_setLength_18 : decode cX4_setLength 18 = .ok (.aload_n 0, 1) := by decide +kernel
theorem dX4_setLength_19 : decode cX4_setLength 19 = .ok (.getfield 28, 3) := by decide +kernel
theorem dX4_setLength_22 : decode cX4_setLength 22 = .ok (.lstore_n 2, 1) := by decide +kernel
theorem dX4_setLength_23 : decode cX4_setLength 23 = .ok (.aload_n 0, 1) := by decide +kernel
theorem dX4_setLength_24 : decode cX4_setLength 24 = .ok (.iload_n 1, 1) := by decide +kernel
theorem dX4_setLength_25 : decode cX4_setLength 25 = .ok (.i2l, 1) := by decide +kernel
theorem dX4_setLength_26 : decode cX4_setLength 26 = .ok (.putfield 28, 3) := by decide +kernel
theorem dX4_setLength_29 : decode cX4_setLength 29 = .ok (.lload_n 2, 1) := by decide +kernel
theorem dX4_setLength_30 : decode cX4_setLength 30 = .ok (.lreturn, 1) := by decide +kernel
set_option maxRecDepth 20000 in
theorem ggX4_setMargin_X4_within : GoodIn wsX4_setMargin wsX4_within := goodIn_r _ [7] (by decide +kernel) (by decide +kernel)
set_option maxRecDepth 20000 in
theorem gX4_setMargin_X4_within : GoodIn wsX4_setMargin (va_wsS RX4 41 yX4_within wsX4_within) := goodIn_app (goodIn_of _ (by decide +kernel)) ggX4_setMargin_X4_within
theorem dX4_setMargin_0 : decode cX4_setMargin 0 = .ok (.iload_n 1, 1) := by decide +kernel
theorem dX4_setMargin_1 : decode cX4_setMargin 1 = .ok (.i2l, 1) := by decide +kernel
theorem dX4_setMargin_2 : decode cX4_setMargin 2 = .ok (.lconst 0, 1) := by decide +kernel
theorem dX4_setMargin_3 : decode cX4_setMargin 3 = .ok (.ldc2_w 116, 3) := by decide +kernel
theorem dX4_setMargin_6 : decode cX4_setMargin 6 = .ok (.invokestatic 41, 3) := by decide +kernel
theorem dX4_setMargin_9 : decode cX4_setMargin 9 = .ok (.ifCond .ne 7, 3) := by decide +kernel
theorem dX4_setMargin_12 : decode cX4_setMargin 12 = .ok (.ldc2_w 45, 3) := by decide +kernel
theorem dX4_setMargin_15 : decode cX4_setMargin 15 = .ok (.lreturn, 1) := by decide +kernel
theorem dX4_setMargin_16 : decode cX4_setMargin 16 = .ok (.aload_n 0, 1) := by decide +kernel
theorem dX4_setMargin_17 : decode cX4_setMargin 17 = .ok (.getfield 118, 3) := by decide +kernel
theorem dX4_setMargin_20 : decode cX4_setMargin 20 = .ok (.lstore_n 2, 1) := by decide +kernel
theorem dX4_setMargin_21 : decode cX4_setMargin 21 = .ok (.aload_n 0, 1) := by decide +kernel
theorem dX4_setMargin_22 : decode cX4_setMargin 22 = .ok (.iload_n 1, 1) := by decide +kernel
theorem dX4_setMargin_23 : decode cX4_setMargin 23 = .ok (.i2l, 1) := by decide +kernel
theorem dX4_setMargin_24 : decode cX4_setMargin 24 = .ok (.putfield 118, 3) := by decide +kernel
theorem dX4_setMargin_27 : decode cX4_setMargin 27 = .ok (.lload_n 2, 1) := by decide +kernel
theorem dX4_setMargin_28 : decode cX4_setMargin 28 = .ok (.lreturn, 1) := by decide +kernel
set_option maxRecDepth 20000 in
theorem ggX4_isSurvey_X4_within : GoodIn wsX4_isSurvey wsX4_within := goodIn_r _ [5] (by decide +kernel) (by decide +kernel)
set_option maxRecDepth 20000 in
theorem gX4_isSurvey_X4_within : GoodIn wsX4_isSurvey (va_wsS RX4 41 yX4_within wsX4_within) := goodIn_app (goodIn_of _ (by decide +kernel)) ggX4_isSurvey_X4_within
theorem dX4_isSurvey_0 : decode cX4_isSurvey 0 = .ok (.iload_n 0, 1) := by decide +kernel
theorem dX4_isSurvey_1 : decode cX4_isSurvey 1 = .ok (.i2l, 1) := by decide +kernel
theorem dX4_isSurvey_2 : decode cX4_isSurvey 2 = .ok (.lconst 0, 1) := by decide +kernel
theorem dX4_isSurvey_3 : decode cX4_isSurvey 3 = .ok (.ldc2_w 100, 3) := by decide +kernel
theorem dX4_isSurvey_6 : decode cX4_isSurvey 6 = .ok (.invokestatic 41, 3) := by decide +kernel
theorem dX4_isSurvey_9 : decode cX4_isSurvey 9 = .ok (.ireturn, 1) := by decide +kernel
set_option maxRecDepth 20000 in
theorem ggX4_setReading_X4_isSurvey : GoodIn wsX4_setReading wsX4_isSurvey := goodIn_r _ [10, 11, 12, 13, 9, 14] (by decide +kernel) (by decide +kernel)
set_option maxRecDepth 20000 in
theorem gX4_setReading_X4_isSurvey : GoodIn wsX4_setReading (va_wsS RX4 121 yX4_isSurvey wsX4_isSurvey) := goodIn_app (goodIn_of _ (by decide +kernel)) ggX4_setReading_X4_isSurvey
set_option maxRecDepth 20000 in
theorem ggX4_setReading_X4_within : GoodIn wsX4_setReading wsX4_within := goodIn_r _ [14] (by decide +kernel) (by decide +kernel)
set_option maxRecDepth 20000 in
theorem gX4_setReading_X4_within : GoodIn wsX4_setReading (va_wsS RX4 41 yX4_within wsX4_within) := goodIn_app (goodIn_of _ (by decide +kernel)) ggX4_setReading_X4_within
theorem dX4_setReading_0 : decode cX4_setReading 0 = .ok (.iload_n 1, 1) := by decide +kernel
theorem dX4_setReading_1 : decode cX4_setReading 1 = .ok (.invokestatic 121, 3) := by decide +kernel
theorem dX4_setReading_4 : decode cX4_setReading 4 = .ok (.ifCond .ne 7, 3) := by decide +kernel
theorem dX4_setReading_7 : decode cX4_setReading 7 = .ok (.ldc2_w 125, 3) := by decide +kernel
theorem dX4_setReading_10 : decode cX4_setReading 10 = .ok (.lreturn, 1) := by decide +kernel
theorem dX4_setReading_11 : decode cX4_setReading 11 = .ok (.iload_n 2, 1) := by decide +kernel
theorem dX4_setReading_12 : decode cX4_setReading 12 = .ok (.i2l, 1) := by decide +kernel
theorem dX4_setReading_13 : decode cX4_setReading 13 = .ok (.lconst 0, 1) := by decide +kernel
theorem dX4_setReading_14 : decode cX4_setReading 14 = .ok (.ldc2_w 127, 3) := by decide +kernel
theorem dX4_setReading_17 : decode cX4_setReading 17 = .ok (.invokestatic 41, 3) := by decide +kernel
theorem dX4_setReading_20 : decode cX4_setReading 20 = .ok (.ifCond .ne 7, 3) := by decide +kernel
theorem dX4_setReading_23 : decode cX4_setReading 23 = .ok (.ldc2_w 94, 3) := by decide +kernel
theorem dX4_setReading_26 : decode cX4_setReading 26 = .ok (.lreturn, 1) := by decide +kernel
theorem dX4_setReading_27 : decode cX4_setReading 27 = .ok (.iload_n 3, 1) := by decide +kernel
theorem dX4_setReading_28 : decode cX4_setReading 28 = .ok (.i2l, 1) := by decide +kernel
theorem dX4_setReading_29 : decode cX4_setReading 29 = .ok (.lconst 0, 1) := by decide +kernel
theorem dX4_setReading_30 : decode cX4_setReading 30 = .ok (.ldc2_w 53, 3) := by decide +kernel
theorem dX4_setReading_33 : decode cX4_setReading 33 = .ok (.invokestatic 41, 3) := by decide +kernel
theorem dX4_setReading_36 : decode cX4_setReading 36 = .ok (.ifCond .ne 7, 3) := by decide +kernel
theorem dX4_setReading_39 : decode cX4_setReading 39 = .ok (.ldc2_w 45, 3) := by decide +kernel
theorem dX4_setReading_42 : decode cX4_setReading 42 = .ok (.lreturn, 1) := by decide +kernel
theorem dX4_setReading_43 : decode cX4_setReading 43 = .ok (.aload_n 0, 1) := by decide +kernel
theorem dX4_setReading_44 : decode cX4_setReading 44 = .ok (.getfield 17, 3) := by decide +kernel
theorem dX4_setReading_47 : decode cX4_setReading 47 = .ok (.bipush 6, 2) := by decide +kernel
theorem dX4_setReading_49 : decode cX4_setReading 49 = .ok (.iload_n 1, 1) := by decide +kernel
theorem dX4_setReading_50 : decode cX4_setReading 50 = .ok (.imul, 1) := by decide +kernel
theorem dX4_setReading_51 : decode cX4_setReading 51 = .ok (.iload_n 2, 1) := by decide +kernel
theorem dX4_setReading_52 : decode cX4_setReading 52 = .ok (.iadd, 1) := by decide +kernel
theorem dX4_setReading_53 : decode cX4_setReading 53 = .ok (.laload, 1) := by decide +kernel
theorem dX4_setReading_54 : decode cX4_setReading 54 = .ok (.lstore 4, 2) := by decide +kernel
theorem dX4_setReading_56 : decode cX4_setReading 56 = .ok (.aload_n 0, 1) := by decide +kernel
theorem dX4_setReading_57 : decode cX4_setReading 57 = .ok (.getfield 17, 3) := by decide +kernel
theorem dX4_setReading_60 : decode cX4_setReading 60 = .ok (.bipush 6, 2) := by decide +kernel
theorem dX4_setReading_62 : decode cX4_setReading 62 = .ok (.iload_n 1, 1) := by decide +kernel
theorem dX4_setReading_63 : decode cX4_setReading 63 = .ok (.imul, 1) := by decide +kernel
theorem dX4_setReading_64 : decode cX4_setReading 64 = .ok (.iload_n 2, 1) := by decide +kernel
theorem dX4_setReading_65 : decode cX4_setReading 65 = .ok (.iadd, 1) := by decide +kernel
theorem dX4_setReading_66 : decode cX4_setReading 66 = .ok (.iload_n 3, 1) := by decide +kernel
theorem dX4_setReading_67 : decode cX4_setReading 67 = .ok (.i2l, 1) := by decide +kernel
theorem dX4_setReading_68 : decode cX4_setReading 68 = .ok (.lastore, 1) := by decide +kernel
theorem dX4_setReading_69 : decode cX4_setReading 69 = .ok (.lload 4, 2) := by decide +kernel
theorem dX4_setReading_71 : decode cX4_setReading 71 = .ok (.lreturn, 1) := by decide +kernel
set_option maxRecDepth 20000 in
theorem ggX4_reading_X4_isSurvey : GoodIn wsX4_reading wsX4_isSurvey := goodIn_r _ [8, 9, 10, 11, 7, 12] (by decide +kernel) (by decide +kernel)
set_option maxRecDepth 20000 in
theorem gX4_reading_X4_isSurvey : GoodIn wsX4_reading (va_wsS RX4 121 yX4_isSurvey wsX4_isSurvey) := goodIn_app (goodIn_of _ (by decide +kernel)) ggX4_reading_X4_isSurvey
set_option maxRecDepth 20000 in
theorem ggX4_reading_X4_within : GoodIn wsX4_reading wsX4_within := goodIn_r _ [12] (by decide +kernel) (by decide +kernel)
set_option maxRecDepth 20000 in
theorem gX4_reading_X4_within : GoodIn wsX4_reading (va_wsS RX4 41 yX4_within wsX4_within) := goodIn_app (goodIn_of _ (by decide +kernel)) ggX4_reading_X4_within
theorem dX4_reading_0 : decode cX4_reading 0 = .ok (.iload_n 1, 1) := by decide +kernel
theorem dX4_reading_1 : decode cX4_reading 1 = .ok (.invokestatic 121, 3) := by decide +kernel
theorem dX4_reading_4 : decode cX4_reading 4 = .ok (.ifCond .ne 7, 3) := by decide +kernel
theorem dX4_reading_7 : decode cX4_reading 7 = .ok (.ldc2_w 125, 3) := by decide +kernel
theorem dX4_reading_10 : decode cX4_reading 10 = .ok (.lreturn, 1) := by decide +kernel
theorem dX4_reading_11 : decode cX4_reading 11 = .ok (.iload_n 2, 1) := by decide +kernel
theorem dX4_reading_12 : decode cX4_reading 12 = .ok (.i2l, 1) := by decide +kernel
theorem dX4_reading_13 : decode cX4_reading 13 = .ok (.lconst 0, 1) := by decide +kernel
theorem dX4_reading_14 : decode cX4_reading 14 = .ok (.ldc2_w 127, 3) := by decide +kernel
theorem dX4_reading_17 : decode cX4_reading 17 = .ok (.invokestatic 41, 3) := by decide +kernel
theorem dX4_reading_20 : decode cX4_reading 20 = .ok (.ifCond .eq 17, 3) := by decide +kernel
theorem dX4_reading_23 : decode cX4_reading 23 = .ok (.aload_n 0, 1) := by decide +kernel
theorem dX4_reading_24 : decode cX4_reading 24 = .ok (.getfield 17, 3) := by decide +kernel
theorem dX4_reading_27 : decode cX4_reading 27 = .ok (.bipush 6, 2) := by decide +kernel
theorem dX4_reading_29 : decode cX4_reading 29 = .ok (.iload_n 1, 1) := by decide +kernel
theorem dX4_reading_30 : decode cX4_reading 30 = .ok (.imul, 1) := by decide +kernel
theorem dX4_reading_31 : decode cX4_reading 31 = .ok (.iload_n 2, 1) := by decide +kernel
theorem dX4_reading_32 : decode cX4_reading 32 = .ok (.iadd, 1) := by decide +kernel
theorem dX4_reading_33 : decode cX4_reading 33 = .ok (.laload, 1) := by decide +kernel
theorem dX4_reading_34 : decode cX4_reading 34 = .ok (.goto 6, 3) := by decide +kernel
theorem dX4_reading_37 : decode cX4_reading 37 = .ok (.ldc2_w 94, 3) := by decide +kernel
theorem dX4_reading_40 : decode cX4_reading 40 = .ok (.lreturn, 1) := by decide +kernel
set_option maxRecDepth 20000 in
theorem ggX4_setDensity_X4_isSurvey : GoodIn wsX4_setDensity wsX4_isSurvey := goodIn_r _ [9, 10, 11, 12, 8, 13] (by decide +kernel) (by decide +kernel)
set_option maxRecDepth 20000 in
theorem gX4_setDensity_X4_isSurvey : GoodIn wsX4_setDensity (va_wsS RX4 121 yX4_isSurvey wsX4_isSurvey) := goodIn_app (goodIn_of _ (by decide +kernel)) ggX4_setDensity_X4_isSurvey
set_option maxRecDepth 20000 in
theorem ggX4_setDensity_X4_within : GoodIn wsX4_setDensity wsX4_within := goodIn_r _ [13] (by decide +kernel) (by decide +kernel)
set_option maxRecDepth 20000 in
theorem gX4_setDensity_X4_within : GoodIn wsX4_setDensity (va_wsS RX4 41 yX4_within wsX4_within) := goodIn_app (goodIn_of _ (by decide +kernel)) ggX4_setDensity_X4_within
theorem dX4_setDensity_0 : decode cX4_setDensity 0 = .ok (.iload_n 1, 1) := by decide +kernel
theorem dX4_setDensity_1 : decode cX4_setDensity 1 = .ok (.invokestatic 121, 3) := by decide +kernel
theorem dX4_setDensity_4 : decode cX4_setDensity 4 = .ok (.ifCond .ne 7, 3) := by decide +kernel
theorem dX4_setDensity_7 : decode cX4_setDensity 7 = .ok (.ldc2_w 125, 3) := by decide +kernel
theorem dX4_setDensity_10 : decode cX4_setDensity 10 = .ok (.lreturn, 1) := by decide +kernel
theorem dX4_setDensity_11 : decode cX4_setDensity 11 = .ok (.iload_n 2, 1) := by decide +kernel
theorem dX4_setDensity_12 : decode cX4_setDensity 12 = .ok (.i2l, 1) := by decide +kernel
theorem dX4_setDensity_13 : decode cX4_setDensity 13 = .ok (.ldc2_w 129, 3) := by decide +kernel
theorem dX4_setDensity_16 : decode cX4_setDensity 16 = .ok (.ldc2_w 131, 3) := by decide +kernel
theorem dX4_setDensity_19 : decode cX4_setDensity 19 = .ok (.invokestatic 41, 3) := by decide +kernel
theorem dX4_setDensity_22 : decode cX4_setDensity 22 = .ok (.ifCond .ne 7, 3) := by decide +kernel
theorem dX4_setDensity_25 : decode cX4_setDensity 25 = .ok (.ldc2_w 45, 3) := by decide +kernel
theorem dX4_setDensity_28 : decode cX4_setDensity 28 = .ok (.lreturn, 1) := by decide +kernel
theorem dX4_setDensity_29 : decode cX4_setDensity 29 = .ok (.aload_n 0, 1) := by decide +kernel
theorem dX4_setDensity_30 : decode cX4_setDensity 30 = .ok (.getfield 20, 3) := by decide +kernel
theorem dX4_setDensity_33 : decode cX4_setDensity 33 = .ok (.iload_n 1, 1) := by decide +kernel
theorem dX4_setDensity_34 : decode cX4_setDensity 34 = .ok (.laload, 1) := by decide +kernel
theorem dX4_setDensity_35 : decode cX4_setDensity 35 = .ok (.lstore_n 3, 1) := by decide +kernel
theorem dX4_setDensity_36 : decode cX4_setDensity 36 = .ok (.aload_n 0, 1) := by decide +kernel
theorem dX4_setDensity_37 : decode cX4_setDensity 37 = .ok (.getfield 20, 3) := by decide +kernel
theorem dX4_setDensity_40 : decode cX4_setDensity 40 = .ok (.iload_n 1, 1) := by decide +kernel
theorem dX4_setDensity_41 : decode cX4_setDensity 41 = .ok (.iload_n 2, 1) := by decide +kernel
theorem dX4_setDensity_42 : decode cX4_setDensity 42 = .ok (.i2l, 1) := by decide +kernel
theorem dX4_setDensity_43 : decode cX4_setDensity 43 = .ok (.lastore, 1) := by decide +kernel
theorem dX4_setDensity_44 : decode cX4_setDensity 44 = .ok (.lload_n 3, 1) := by decide +kernel
theorem dX4_setDensity_45 : decode cX4_setDensity 45 = .ok (.lreturn, 1) := by decide +kernel
set_option maxRecDepth 20000 in
theorem ggX4_setDeduction_X4_isSurvey : GoodIn wsX4_setDeduction wsX4_isSurvey := goodIn_r _ [10, 2, 11, 12, 9, 13] (by decide +kernel) (by decide +kernel)
set_option maxRecDepth 20000 in
theorem gX4_setDeduction_X4_isSurvey : GoodIn wsX4_setDeduction (va_wsS RX4 121 yX4_isSurvey wsX4_isSurvey) := goodIn_app (goodIn_of _ (by decide +kernel)) ggX4_setDeduction_X4_isSurvey
set_option maxRecDepth 20000 in
theorem ggX4_setDeduction_X4_within : GoodIn wsX4_setDeduction wsX4_within := goodIn_r _ [13] (by decide +kernel) (by decide +kernel)
set_option maxRecDepth 20000 in
theorem gX4_setDeduction_X4_within : GoodIn wsX4_setDeduction (va_wsS RX4 41 yX4_within wsX4_within) := goodIn_app (goodIn_of _ (by decide +kernel)) ggX4_setDeduction_X4_within
theorem dX4_setDeduction_0 : decode cX4_setDeduction 0 = .ok (.iload_n 1, 1) := by decide +kernel
theorem dX4_setDeduction_1 : decode cX4_setDeduction 1 = .ok (.invokestatic 121, 3) := by decide +kernel
theorem dX4_setDeduction_4 : decode cX4_setDeduction 4 = .ok (.ifCond .ne 7, 3) := by decide +kernel
theorem dX4_setDeduction_7 : decode cX4_setDeduction 7 = .ok (.ldc2_w 125, 3) := by decide +kernel
theorem dX4_setDeduction_10 : decode cX4_setDeduction 10 = .ok (.lreturn, 1) := by decide +kernel
theorem dX4_setDeduction_11 : decode cX4_setDeduction 11 = .ok (.iload_n 2, 1) := by decide +kernel
theorem dX4_setDeduction_12 : decode cX4_setDeduction 12 = .ok (.i2l, 1) := by decide +kernel
theorem dX4_setDeduction_13 : decode cX4_setDeduction 13 = .ok (.lconst 0, 1) := by decide +kernel
theorem dX4_setDeduction_14 : decode cX4_setDeduction 14 = .ok (.ldc2_w 100, 3) := by decide +kernel
theorem dX4_setDeduction_17 : decode cX4_setDeduction 17 = .ok (.invokestatic 41, 3) := by decide +kernel
theorem dX4_setDeduction_20 : decode cX4_setDeduction 20 = .ok (.ifCond .ne 7, 3) := by decide +kernel
theorem dX4_setDeduction_23 : decode cX4_setDeduction 23 = .ok (.ldc2_w 94, 3) := by decide +kernel
theorem dX4_setDeduction_26 : decode cX4_setDeduction 26 = .ok (.lreturn, 1) := by decide +kernel
theorem dX4_setDeduction_27 : decode cX4_setDeduction 27 = .ok (.iload_n 3, 1) := by decide +kernel
theorem dX4_setDeduction_28 : decode cX4_setDeduction 28 = .ok (.i2l, 1) := by decide +kernel
theorem dX4_setDeduction_29 : decode cX4_setDeduction 29 = .ok (.lconst 0, 1) := by decide +kernel
theorem dX4_setDeduction_30 : decode cX4_setDeduction 30 = .ok (.ldc2_w 55, 3) := by decide +kernel
theorem dX4_setDeduction_33 : decode cX4_setDeduction 33 = .ok (.invokestatic 41, 3) := by decide +kernel
theorem dX4_setDeduction_36 : decode cX4_setDeduction 36 = .ok (.ifCond .ne 7, 3) := by decide +kernel
theorem dX4_setDeduction_39 : decode cX4_setDeduction 39 = .ok (.ldc2_w 45, 3) := by decide +kernel
theorem dX4_setDeduction_42 : decode cX4_setDeduction 42 = .ok (.lreturn, 1) := by decide +kernel
theorem dX4_setDeduction_43 : decode cX4_setDeduction 43 = .ok (.aload_n 0, 1) := by decide +kernel
theorem dX4_setDeduction_44 : decode cX4_setDeduction 44 = .ok (.getfield 23, 3) := by decide +kernel
theorem dX4_setDeduction_47 : decode cX4_setDeduction 47 = .ok (.iconst 4, 1) := by decide +kernel
theorem dX4_setDeduction_48 : decode cX4_setDeduction 48 = .ok (.iload_n 1, 1) := by decide +kernel
theorem dX4_setDeduction_49 : decode cX4_setDeduction 49 = .ok (.imul, 1) := by decide +kernel
theorem dX4_setDeduction_50 : decode cX4_setDeduction 50 = .ok (.iload_n 2, 1) := by decide +kernel
theorem dX4_setDeduction_51 : decode cX4_setDeduction 51 = .ok (.iadd, 1) := by decide +kernel
theorem dX4_setDeduction_52 : decode cX4_setDeduction 52 = .ok (.laload, 1) := by decide +kernel
theorem dX4_setDeduction_53 : decode cX4_setDeduction 53 = .ok (.lstore 4, 2) := by decide +kernel
theorem dX4_setDeduction_55 : decode cX4_setDeduction 55 = .ok (.aload_n 0, 1) := by decide +kernel
theorem dX4_setDeduction_56 : decode cX4_setDeduction 56 = .ok (.getfield 23, 3) := by decide +kernel
theorem dX4_setDeduction_59 : decode cX4_setDeduction 59 = .ok (.iconst 4, 1) := by decide +kernel
theorem dX4_setDeduction_60 : decode cX4_setDeduction 60 = .ok (.iload_n 1, 1) := by decide +kernel
theorem dX4_setDeduction_61 : decode cX4_setDeduction 61 = .ok (.imul, 1) := by decide +kernel
theorem dX4_setDeduction_62 : decode cX4_setDeduction 62 = .ok (.iload_n 2, 1) := by decide +kernel
theorem dX4_setDeduction_63 : decode cX4_setDeduction 63 = .ok (.iadd, 1) := by decide +kernel
theorem dX4_setDeduction_64 : decode cX4_setDeduction 64 = .ok (.iload_n 3, 1) := by decide +kernel
theorem dX4_setDeduction_65 : decode cX4_setDeduction 65 = .ok (.i2l, 1) := by decide +kernel
theorem dX4_setDeduction_66 : decode cX4_setDeduction 66 = .ok (.lastore, 1) := by decide +kernel
theorem dX4_setDeduction_67 : decode cX4_setDeduction 67 = .ok (.lload 4, 2) := by decide +kernel
theorem dX4_setDeduction_69 : decode cX4_setDeduction 69 = .ok (.lreturn, 1) := by decide +kernel
set_option maxRecDepth 20000 in
theorem ggX4_mean_X4_quotient : GoodIn wsX4_mean wsX4_quotient := goodIn_r _ [6] (by decide +kernel) (by decide +kernel)
set_option maxRecDepth 20000 in
theorem gX4_mean_X4_quotient : GoodIn wsX4_mean (va_wsS RX4 96 yX4_quotient wsX4_quotient) := goodIn_app (goodIn_of _ (by decide +kernel)) ggX4_mean_X4_quotient
theorem dX4_mean_0 : decode cX4_mean 0 = .ok (.aload_n 0, 1) := by decide +kernel
theorem dX4_mean_1 : decode cX4_mean 1 = .ok (.getfield 17, 3) := by decide +kernel
theorem dX4_mean_4 : decode cX4_mean 4 = .ok (.bipush 6, 2) := by decide +kernel
theorem dX4_mean_6 : decode cX4_mean 6 = .ok (.iload_n 1, 1) := by decide +kernel
theorem dX4_mean_7 : decode cX4_mean 7 = .ok (.imul, 1) := by decide +kernel
theorem dX4_mean_8 : decode cX4_mean 8 = .ok (.iconst 2, 1) := by decide +kernel
theorem dX4_mean_9 : decode cX4_mean 9 = .ok (.iload_n 2, 1) := by decide +kernel
theorem dX4_mean_10 : decode cX4_mean 10 = .ok (.imul, 1) := by decide +kernel
theorem dX4_mean_11 : decode cX4_mean 11 = .ok (.iadd, 1) := by decide +kernel
theorem dX4_mean_12 : decode cX4_mean 12 = .ok (.laload, 1) := by decide +kernel
theorem dX4_mean_13 : decode cX4_mean 13 = .ok (.lload_n 3, 1) := by decide +kernel
theorem dX4_mean_14 : decode cX4_mean 14 = .ok (.ladd, 1) := by decide +kernel
theorem dX4_mean_15 : decode cX4_mean 15 = .ok (.lstore 5, 2) := by decide +kernel
theorem dX4_mean_17 : decode cX4_mean 17 = .ok (.aload_n 0, 1) := by decide +kernel
theorem dX4_mean_18 : decode cX4_mean 18 = .ok (.getfield 17, 3) := by decide +kernel
theorem dX4_mean_21 : decode cX4_mean 21 = .ok (.bipush 6, 2) := by decide +kernel
theorem dX4_mean_23 : decode cX4_mean 23 = .ok (.iload_n 1, 1) := by decide +kernel
theorem dX4_mean_24 : decode cX4_mean 24 = .ok (.imul, 1) := by decide +kernel
theorem dX4_mean_25 : decode cX4_mean 25 = .ok (.iconst 2, 1) := by decide +kernel
theorem dX4_mean_26 : decode cX4_mean 26 = .ok (.iload_n 2, 1) := by decide +kernel
theorem dX4_mean_27 : decode cX4_mean 27 = .ok (.imul, 1) := by decide +kernel
theorem dX4_mean_28 : decode cX4_mean 28 = .ok (.iadd, 1) := by decide +kernel
theorem dX4_mean_29 : decode cX4_mean 29 = .ok (.iconst 1, 1) := by decide +kernel
theorem dX4_mean_30 : decode cX4_mean 30 = .ok (.iadd, 1) := by decide +kernel
theorem dX4_mean_31 : decode cX4_mean 31 = .ok (.laload, 1) := by decide +kernel
theorem dX4_mean_32 : decode cX4_mean 32 = .ok (.lload_n 3, 1) := by decide +kernel
theorem dX4_mean_33 : decode cX4_mean 33 = .ok (.ladd, 1) := by decide +kernel
theorem dX4_mean_34 : decode cX4_mean 34 = .ok (.lstore 7, 2) := by decide +kernel
theorem dX4_mean_36 : decode cX4_mean 36 = .ok (.lload 5, 2) := by decide +kernel
theorem dX4_mean_38 : decode cX4_mean 38 = .ok (.lload 7, 2) := by decide +kernel
theorem dX4_mean_40 : decode cX4_mean 40 = .ok (.ladd, 1) := by decide +kernel
theorem dX4_mean_41 : decode cX4_mean 41 = .ok (.ldc2_w 133, 3) := by decide +kernel
theorem dX4_mean_44 : decode cX4_mean 44 = .ok (.invokestatic 96, 3) := by decide +kernel
theorem dX4_mean_47 : decode cX4_mean 47 = .ok (.lreturn, 1) := by decide +kernel
set_option maxRecDepth 20000 in
theorem ggX4_trimOf_X4_mean : GoodIn wsX4_trimOf wsX4_mean := goodIn_r _ [5, 6, 7, 8, 9, 4, 10, 11, 12, 13, 14, 15, 16, 17, 18, 19, 20, 21, 22, 23] (by decide +kernel) (by decide +kernel)
set_option maxRecDepth 20000 in
theorem gX4_trimOf_X4_mean : GoodIn wsX4_trimOf (wsV RX4 135 RX4 yX4_mean wsX4_mean) := goodIn_app (goodIn_of _ (by decide +kernel)) ggX4_trimOf_X4_mean
theorem dX4_trimOf_0 : decode cX4_trimOf 0 = .ok (.aload_n 0, 1) := by decide +kernel
theorem dX4_trimOf_1 : decode cX4_trimOf 1 = .ok (.iload_n 1, 1) := by decide +kernel
theorem dX4_trimOf_2 : decode cX4_trimOf 2 = .ok (.iconst 2, 1) := by decide +kernel
theorem dX4_trimOf_3 : decode cX4_trimOf 3 = .ok (.lload_n 2, 1) := by decide +kernel
theorem dX4_trimOf_4 : decode cX4_trimOf 4 = .ok (.invokevirtual 135, 3) := by decide +kernel
theorem dX4_trimOf_7 : decode cX4_trimOf 7 = .ok (.aload_n 0, 1) := by decide +kernel
theorem dX4_trimOf_8 : decode cX4_trimOf 8 = .ok (.iload_n 1, 1) := by decide +kernel
theorem dX4_trimOf_9 : decode cX4_trimOf 9 = .ok (.iconst 0, 1) := by decide +kernel
theorem dX4_trimOf_10 : decode cX4_trimOf 10 = .ok (.lload_n 2, 1) := by decide +kernel
theorem dX4_trimOf_11 : decode cX4_trimOf 11 = .ok (.invokevirtual 135, 3) := by decide +kernel
theorem dX4_trimOf_14 : decode cX4_trimOf 14 = .ok (.lsub, 1) := by decide +kernel
theorem dX4_trimOf_15 : decode cX4_trimOf 15 = .ok (.lreturn, 1) := by decide +kernel
set_option maxRecDepth 20000 in
theorem ggX4_quarter_X4_mean : GoodIn wsX4_quarter wsX4_mean := goodIn_r _ [7, 8, 9, 10, 11, 6, 12, 13, 14, 15, 16, 17, 18, 19, 20, 21, 22, 23, 24, 25] (by decide +kernel) (by decide +kernel)
set_option maxRecDepth 20000 in
theorem gX4_quarter_X4_mean : GoodIn wsX4_quarter (wsV RX4 135 RX4 yX4_mean wsX4_mean) := goodIn_app (goodIn_of _ (by decide +kernel)) ggX4_quarter_X4_mean
set_option maxRecDepth 20000 in
theorem ggX4_quarter_X4_quotient : GoodIn wsX4_quarter wsX4_quotient := goodIn_r _ [12] (by decide +kernel) (by decide +kernel)
set_option maxRecDepth 20000 in
theorem gX4_quarter_X4_quotient : GoodIn wsX4_quarter (va_wsS RX4 96 yX4_quotient wsX4_quotient) := goodIn_app (goodIn_of _ (by decide +kernel)) ggX4_quarter_X4_quotient
theorem dX4_quarter_0 : decode cX4_quarter 0 = .ok (.aload_n 0, 1) := by decide +kernel
theorem dX4_quarter_1 : decode cX4_quarter 1 = .ok (.iload_n 1, 1) := by decide +kernel
theorem dX4_quarter_2 : decode cX4_quarter 2 = .ok (.iconst 0, 1) := by decide +kernel
theorem dX4_quarter_3 : decode cX4_quarter 3 = .ok (.lload_n 2, 1) := by decide +kernel
theorem dX4_quarter_4 : decode cX4_quarter 4 = .ok (.invokevirtual 135, 3) := by decide +kernel
theorem dX4_quarter_7 : decode cX4_quarter 7 = .ok (.ldc2_w 139, 3) := by decide +kernel
theorem dX4_quarter_10 : decode cX4_quarter 10 = .ok (.aload_n 0, 1) := by decide +kernel
theorem dX4_quarter_11 : decode cX4_quarter 11 = .ok (.iload_n 1, 1) := by decide +kernel
theorem dX4_quarter_12 : decode cX4_quarter 12 = .ok (.iconst 1, 1) := by decide +kernel
theorem dX4_quarter_13 : decode cX4_quarter 13 = .ok (.lload_n 2, 1) := by decide +kernel
theorem dX4_quarter_14 : decode cX4_quarter 14 = .ok (.invokevirtual 135, 3) := by decide +kernel
theorem dX4_quarter_17 : decode cX4_quarter 17 = .ok (.lmul, 1) := by decide +kernel
theorem dX4_quarter_18 : decode cX4_quarter 18 = .ok (.ladd, 1) := by decide +kernel
theorem dX4_quarter_19 : decode cX4_quarter 19 = .ok (.aload_n 0, 1) := by decide +kernel
theorem dX4_quarter_20 : decode cX4_quarter 20 = .ok (.iload_n 1, 1) := by decide +kernel
theorem dX4_quarter_21 : decode cX4_quarter 21 = .ok (.iconst 2, 1) := by decide +kernel
theorem dX4_quarter_22 : decode cX4_quarter 22 = .ok (.lload_n 2, 1) := by decide +kernel
theorem dX4_quarter_23 : decode cX4_quarter 23 = .ok (.invokevirtual 135, 3) := by decide +kernel
theorem dX4_quarter_26 : decode cX4_quarter 26 = .ok (.ladd, 1) := by decide +kernel
theorem dX4_quarter_27 : decode cX4_quarter 27 = .ok (.ldc2_w 141, 3) := by decide +kernel
theorem dX4_quarter_30 : decode cX4_quarter 30 = .ok (.invokestatic 96, 3) := by decide +kernel
theorem dX4_quarter_33 : decode cX4_quarter 33 = .ok (.lreturn, 1) := by decide +kernel
set_option maxRecDepth 20000 in
theorem ggX4_deflectionOf_X4_mean : GoodIn wsX4_deflectionOf wsX4_mean := goodIn_r _ [6, 7, 1, 8, 9, 5, 10, 11, 12, 13, 14, 15, 16, 17, 18, 19, 20, 21, 22, 23] (by decide +kernel) (by decide +kernel)
set_option maxRecDepth 20000 in
theorem gX4_deflectionOf_X4_mean : GoodIn wsX4_deflectionOf (wsV RX4 135 RX4 yX4_mean wsX4_mean) := goodIn_app (goodIn_of _ (by decide +kernel)) ggX4_deflectionOf_X4_mean
set_option maxRecDepth 20000 in
theorem ggX4_deflectionOf_X4_quotient : GoodIn wsX4_deflectionOf wsX4_quotient := goodIn_r _ [10] (by decide +kernel) (by decide +kernel)
set_option maxRecDepth 20000 in
theorem gX4_deflectionOf_X4_quotient : GoodIn wsX4_deflectionOf (va_wsS RX4 96 yX4_quotient wsX4_quotient) := goodIn_app (goodIn_of _ (by decide +kernel)) ggX4_deflectionOf_X4_quotient
theorem dX4_deflectionOf_0 : decode cX4_deflectionOf 0 = .ok (.aload_n 0, 1) := by decide +kernel
theorem dX4_deflectionOf_1 : decode cX4_deflectionOf 1 = .ok (.iload_n 1, 1) := by decide +kernel
theorem dX4_deflectionOf_2 : decode cX4_deflectionOf 2 = .ok (.iconst 1, 1) := by decide +kernel
theorem dX4_deflectionOf_3 : decode cX4_deflectionOf 3 = .ok (.lconst 0, 1) := by decide +kernel
theorem dX4_deflectionOf_4 : decode cX4_deflectionOf 4 = .ok (.invokevirtual 135, 3) := by decide +kernel
theorem dX4_deflectionOf_7 : decode cX4_deflectionOf 7 = .ok (.aload_n 0, 1) := by decide +kernel
theorem dX4_deflectionOf_8 : decode cX4_deflectionOf 8 = .ok (.iload_n 1, 1) := by decide +kernel
theorem dX4_deflectionOf_9 : decode cX4_deflectionOf 9 = .ok (.iconst 0, 1) := by decide +kernel
theorem dX4_deflectionOf_10 : decode cX4_deflectionOf 10 = .ok (.lconst 0, 1) := by decide +kernel
theorem dX4_deflectionOf_11 : decode cX4_deflectionOf 11 = .ok (.invokevirtual 135, 3) := by decide +kernel
theorem dX4_deflectionOf_14 : decode cX4_deflectionOf 14 = .ok (.aload_n 0, 1) := by decide +kernel
theorem dX4_deflectionOf_15 : decode cX4_deflectionOf 15 = .ok (.iload_n 1, 1) := by decide +kernel
theorem dX4_deflectionOf_16 : decode cX4_deflectionOf 16 = .ok (.iconst 2, 1) := by decide +kernel
theorem dX4_deflectionOf_17 : decode cX4_deflectionOf 17 = .ok (.lconst 0, 1) := by decide +kernel
theorem dX4_deflectionOf_18 : decode cX4_deflectionOf 18 = .ok (.invokevirtual 135, 3) := by decide +kernel
theorem dX4_deflectionOf_21 : decode cX4_deflectionOf 21 = .ok (.ladd, 1) := by decide +kernel
theorem dX4_deflectionOf_22 : decode cX4_deflectionOf 22 = .ok (.ldc2_w 133, 3) := by decide +kernel
theorem dX4_deflectionOf_25 : decode cX4_deflectionOf 25 = .ok (.invokestatic 96, 3) := by decide +kernel
theorem dX4_deflectionOf_28 : decode cX4_deflectionOf 28 = .ok (.lsub, 1) := by decide +kernel
theorem dX4_deflectionOf_29 : decode cX4_deflectionOf 29 = .ok (.lreturn, 1) := by decide +kernel
theorem dX4_heelOf_0 : decode cX4_heelOf 0 = .ok (.aload_n 0, 1) := by decide +kernel
theorem dX4_heelOf_1 : decode cX4_heelOf 1 = .ok (.getfield 17, 3) := by decide +kernel
theorem dX4_heelOf_4 : decode cX4_heelOf 4 = .ok (.bipush 6, 2) := by decide +kernel
theorem dX4_heelOf_6 : decode cX4_heelOf 6 = .ok (.iload_n 1, 1) := by decide +kernel
theorem dX4_heelOf_7 : decode cX4_heelOf 7 = .ok (.imul, 1) := by decide +kernel
theorem dX4_heelOf_8 : decode cX4_heelOf 8 = .ok (.iconst 3, 1) := by decide +kernel
theorem dX4_heelOf_9 : decode cX4_heelOf 9 = .ok (.iadd, 1) := by decide +kernel
theorem dX4_heelOf_10 : decode cX4_heelOf 10 = .ok (.laload, 1) := by decide +kernel
theorem dX4_heelOf_11 : decode cX4_heelOf 11 = .ok (.aload_n 0, 1) := by decide +kernel
theorem dX4_heelOf_12 : decode cX4_heelOf 12 = .ok (.getfield 17, 3) := by decide +kernel
theorem dX4_heelOf_15 : decode cX4_heelOf 15 = .ok (.bipush 6, 2) := by decide +kernel
theorem dX4_heelOf_17 : decode cX4_heelOf 17 = .ok (.iload_n 1, 1) := by decide +kernel
theorem dX4_heelOf_18 : decode cX4_heelOf 18 = .ok (.imul, 1) := by decide +kernel
theorem dX4_heelOf_19 : decode cX4_heelOf 19 = .ok (.iconst 2, 1) := by decide +kernel
theorem dX4_heelOf_20 : decode cX4_heelOf 20 = .ok (.iadd, 1) := by decide +kernel
theorem dX4_heelOf_21 : decode cX4_heelOf 21 = .ok (.laload, 1) := by decide +kernel
theorem dX4_heelOf_22 : decode cX4_heelOf 22 = .ok (.lsub, 1) := by decide +kernel
theorem dX4_heelOf_23 : decode cX4_heelOf 23 = .ok (.lreturn, 1) := by decide +kernel
set_option maxRecDepth 20000 in
theorem ggX4_trim_X4_isSurvey : GoodIn wsX4_trim wsX4_isSurvey := goodIn_r _ [5, 6, 7, 8, 4, 9] (by decide +kernel) (by decide +kernel)
set_option maxRecDepth 20000 in
theorem gX4_trim_X4_isSurvey : GoodIn wsX4_trim (va_wsS RX4 121 yX4_isSurvey wsX4_isSurvey) := goodIn_app (goodIn_of _ (by decide +kernel)) ggX4_trim_X4_isSurvey
set_option maxRecDepth 20000 in
theorem ggX4_trim_X4_trimOf : GoodIn wsX4_trim wsX4_trimOf := goodIn_r _ [13, 14, 15, 16, 4, 17, 18, 19, 20, 21, 22, 23, 24, 25, 26, 27, 28, 29, 30, 31, 32, 33, 34, 35] (by decide +kernel) (by decide +kernel)
set_option maxRecDepth 20000 in
theorem gX4_trim_X4_trimOf : GoodIn wsX4_trim (wsV RX4 143 RX4 yX4_trimOf wsX4_trimOf) := goodIn_app (goodIn_of _ (by decide +kernel)) ggX4_trim_X4_trimOf
theorem dX4_trim_0 : decode cX4_trim 0 = .ok (.iload_n 1, 1) := by decide +kernel
theorem dX4_trim_1 : decode cX4_trim 1 = .ok (.invokestatic 121, 3) := by decide +kernel
theorem dX4_trim_4 : decode cX4_trim 4 = .ok (.ifCond .eq 12, 3) := by decide +kernel
theorem dX4_trim_7 : decode cX4_trim 7 = .ok (.aload_n 0, 1) := by decide +kernel
theorem dX4_trim_8 : decode cX4_trim 8 = .ok (.iload_n 1, 1) := by decide +kernel
theorem dX4_trim_9 : decode cX4_trim 9 = .ok (.lconst 0, 1) := by decide +kernel
theorem dX4_trim_10 : decode cX4_trim 10 = .ok (.invokevirtual 143, 3) := by decide +kernel
theorem dX4_trim_13 : decode cX4_trim 13 = .ok (.goto 6, 3) := by decide +kernel
theorem dX4_trim_16 : decode cX4_trim 16 = .ok (.ldc2_w 125, 3) := by decide +kernel
theorem dX4_trim_19 : decode cX4_trim 19 = .ok (.lreturn, 1) := by decide +kernel
set_option maxRecDepth 20000 in
theorem ggX4_deflection_X4_isSurvey : GoodIn wsX4_deflection wsX4_isSurvey := goodIn_r _ [5, 6, 7, 8, 4, 9] (by decide +kernel) (by decide +kernel)
set_option maxRecDepth 20000 in
theorem gX4_deflection_X4_isSurvey : GoodIn wsX4_deflection (va_wsS RX4 121 yX4_isSurvey wsX4_isSurvey) := goodIn_app (goodIn_of _ (by decide +kernel)) ggX4_deflection_X4_isSurvey
set_option maxRecDepth 20000 in
theorem ggX4_deflection_X4_deflectionOf : GoodIn wsX4_deflection wsX4_deflectionOf := goodIn_r _ [13, 14, 15, 16, 17, 4, 18, 19, 20, 21, 22, 23, 24, 25, 26, 27, 28, 29, 30, 31, 32, 33, 34, 35] (by decide +kernel) (by decide +kernel)
set_option maxRecDepth 20000 in
theorem gX4_deflection_X4_deflectionOf : GoodIn wsX4_deflection (wsV RX4 146 RX4 yX4_deflectionOf wsX4_deflectionOf) := goodIn_app (goodIn_of _ (by decide +kernel)) ggX4_deflection_X4_deflectionOf
theorem dX4_deflection_0 : decode cX4_deflection 0 = .ok (.iload_n 1, 1) := by decide +kernel
theorem dX4_deflection_1 : decode cX4_deflection 1 = .ok (.invokestatic 121, 3) := by decide +kernel
theorem dX4_deflection_4 : decode cX4_deflection 4 = .ok (.ifCond .eq 11, 3) := by decide +kernel
theorem dX4_deflection_7 : decode cX4_deflection 7 = .ok (.aload_n 0, 1) := by decide +kernel
theorem dX4_deflection_8 : decode cX4_deflection 8 = .ok (.iload_n 1, 1) := by decide +kernel
theorem dX4_deflection_9 : decode cX4_deflection 9 = .ok (.invokevirtual 146, 3) := by decide +kernel
theorem dX4_deflection_12 : decode cX4_deflection 12 = .ok (.goto 6, 3) := by decide +kernel
theorem dX4_deflection_15 : decode cX4_deflection 15 = .ok (.ldc2_w 125, 3) := by decide +kernel
theorem dX4_deflection_18 : decode cX4_deflection 18 = .ok (.lreturn, 1) := by decide +kernel
set_option maxRecDepth 20000 in
theorem ggX4_heel_X4_isSurvey : GoodIn wsX4_heel wsX4_isSurvey := goodIn_r _ [5, 6, 7, 8, 4, 9] (by decide +kernel) (by decide +kernel)
set_option maxRecDepth 20000 in
theorem gX4_heel_X4_isSurvey : GoodIn wsX4_heel (va_wsS RX4 121 yX4_isSurvey wsX4_isSurvey) := goodIn_app (goodIn_of _ (by decide +kernel)) ggX4_heel_X4_isSurvey
set_option maxRecDepth 20000 in
theorem ggX4_heel_X4_heelOf : GoodIn wsX4_heel wsX4_heelOf := goodIn_r _ [13, 14, 15, 16, 17, 18, 19, 20, 21, 22, 23, 24, 25, 26, 27] (by decide +kernel) (by decide +kernel)
set_option maxRecDepth 20000 in
theorem gX4_heel_X4_heelOf : GoodIn wsX4_heel (wsV RX4 149 RX4 yX4_heelOf wsX4_heelOf) := goodIn_app (goodIn_of _ (by decide +kernel)) ggX4_heel_X4_heelOf
theorem dX4_heel_0 : decode cX4_heel 0 = .ok (.iload_n 1, 1) := by decide +kernel
theorem dX4_heel_1 : decode cX4_heel 1 = .ok (.invokestatic 121, 3) := by decide +kernel
theorem dX4_heel_4 : decode cX4_heel 4 = .ok (.ifCond .eq 11, 3) := by decide +kernel
theorem dX4_heel_7 : decode cX4_heel 7 = .ok (.aload_n 0, 1) := by decide +kernel
theorem dX4_heel_8 : decode cX4_heel 8 = .ok (.iload_n 1, 1) := by decide +kernel
theorem dX4_heel_9 : decode cX4_heel 9 = .ok (.invokevirtual 149, 3) := by decide +kernel
theorem dX4_heel_12 : decode cX4_heel 12 = .ok (.goto 6, 3) := by decide +kernel
theorem dX4_heel_15 : decode cX4_heel 15 = .ok (.ldc2_w 125, 3) := by decide +kernel
theorem dX4_heel_18 : decode cX4_heel 18 = .ok (.lreturn, 1) := by decide +kernel
set_option maxRecDepth 20000 in
theorem ggX4_quarterMean_X4_isSurvey : GoodIn wsX4_quarterMean wsX4_isSurvey := goodIn_r _ [5, 6, 7, 8, 4, 9] (by decide +kernel) (by decide +kernel)
set_option maxRecDepth 20000 in
theorem gX4_quarterMean_X4_isSurvey : GoodIn wsX4_quarterMean (va_wsS RX4 121 yX4_isSurvey wsX4_isSurvey) := goodIn_app (goodIn_of _ (by decide +kernel)) ggX4_quarterMean_X4_isSurvey
set_option maxRecDepth 20000 in
theorem ggX4_quarterMean_X4_quarter : GoodIn wsX4_quarterMean wsX4_quarter := goodIn_r _ [13, 14, 15, 16, 17, 18, 4, 19, 20, 21, 22, 23, 24, 25, 26, 27, 28, 29, 30, 31, 32, 33, 34, 35, 36, 37] (by decide +kernel) (by decide +kernel)
set_option maxRecDepth 20000 in
theorem gX4_quarterMean_X4_quarter : GoodIn wsX4_quarterMean (wsV RX4 152 RX4 yX4_quarter wsX4_quarter) := goodIn_app (goodIn_of _ (by decide +kernel)) ggX4_quarterMean_X4_quarter
