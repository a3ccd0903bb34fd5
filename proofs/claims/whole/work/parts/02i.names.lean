theorem dX4_quarterMean_0 : decode cX4_quarterMean 0 = .ok (.iload_n 1, 1) := by decide +kernel
theorem dX4_quarterMean_1 : decode cX4_quarterMean 1 = .ok (.invokestatic 121, 3) := by decide +kernel
theorem dX4_quarterMean_4 : decode cX4_quarterMean 4 = .ok (.ifCond .eq 12, 3) := by decide +kernel
theorem dX4_quarterMean_7 : decode cX4_quarterMean 7 = .ok (.aload_n 0, 1) := by decide +kernel
theorem dX4_quarterMean_8 : decode cX4_quarterMean 8 = .ok (.iload_n 1, 1) := by decide +kernel
theorem dX4_quarterMean_9 : decode cX4_quarterMean 9 = .ok (.lconst 0, 1) := by decide +kernel
theorem dX4_quarterMean_10 : decode cX4_quarterMean 10 = .ok (.invokevirtual 152, 3) := by decide +kernel
theorem dX4_quarterMean_13 : decode cX4_quarterMean 13 = .ok (.goto 6, 3) := by decide +kernel
theorem dX4_quarterMean_16 : decode cX4_quarterMean 16 = .ok (.ldc2_w 125, 3) := by decide +kernel
theorem dX4_quarterMean_19 : decode cX4_quarterMean 19 = .ok (.lreturn, 1) := by decide +kernel
set_option maxRecDepth 20000 in
theorem ggX4_isComputable_X4_quarter : GoodIn wsX4_isComputable wsX4_quarter := goodIn_r _ [5, 6, 7, 8, 9, 10, 4, 11, 12, 13, 14, 15, 16, 30, 31, 32, 33, 34, 35, 36, 37, 38, 39, 40, 41, 42] (by decide +kernel) (by decide +kernel)
set_option maxRecDepth 20000 in
theorem gX4_isComputable_X4_quarter : GoodIn wsX4_isComputable (wsV RX4 152 RX4 yX4_quarter wsX4_quarter) := goodIn_app (goodIn_of _ (by decide +kernel)) ggX4_isComputable_X4_quarter
set_option maxRecDepth 20000 in
theorem ggX4_isComputable_X4_isCovered : GoodIn wsX4_isComputable wsX4_isCovered := goodIn_r _ [20, 21, 22, 23, 24, 4, 25, 26, 27, 28, 29, 30, 31, 32, 33, 34, 35, 36, 37, 38, 39, 40, 41, 42] (by decide +kernel) (by decide +kernel)
set_option maxRecDepth 20000 in
theorem gX4_isComputable_X4_isCovered : GoodIn wsX4_isComputable (wsV RX4 102 RX4 yX4_isCovered wsX4_isCovered) := goodIn_app (goodIn_of _ (by decide +kernel)) ggX4_isComputable_X4_isCovered
theorem dX4_isComputable_0 : decode cX4_isComputable 0 = .ok (.aload_n 0, 1) := by decide +kernel
theorem dX4_isComputable_1 : decode cX4_isComputable 1 = .ok (.aload_n 0, 1) := by decide +kernel
theorem dX4_isComputable_2 : decode cX4_isComputable 2 = .ok (.iload_n 1, 1) := by decide +kernel
theorem dX4_isComputable_3 : decode cX4_isComputable 3 = .ok (.lload_n 2, 1) := by decide +kernel
theorem dX4_isComputable_4 : decode cX4_isComputable 4 = .ok (.invokevirtual 152, 3) := by decide +kernel
theorem dX4_isComputable_7 : decode cX4_isComputable 7 = .ok (.invokevirtual 102, 3) := by decide +kernel
theorem dX4_isComputable_10 : decode cX4_isComputable 10 = .ok (.ireturn, 1) := by decide +kernel
set_option maxRecDepth 20000 in
theorem ggX4_first_X4_quarter : GoodIn wsX4_first wsX4_quarter := goodIn_r _ [7, 8, 9, 10, 11, 12, 6, 13, 14, 15, 16, 17, 18, 33, 34, 35, 36, 37, 38, 39, 40, 41, 42, 43, 44, 45] (by decide +kernel) (by decide +kernel)
set_option maxRecDepth 20000 in
theorem gX4_first_X4_quarter : GoodIn wsX4_first (wsV RX4 152 RX4 yX4_quarter wsX4_quarter) := goodIn_app (goodIn_of _ (by decide +kernel)) ggX4_first_X4_quarter
set_option maxRecDepth 20000 in
theorem ggX4_first_X4_trimOf : GoodIn wsX4_first wsX4_trimOf := goodIn_r _ [22, 10, 11, 12, 6, 13, 14, 15, 16, 17, 18, 33, 34, 35, 36, 37, 38, 39, 40, 41, 42, 43, 44, 45] (by decide +kernel) (by decide +kernel)
set_option maxRecDepth 20000 in
theorem gX4_first_X4_trimOf : GoodIn wsX4_first (wsV RX4 143 RX4 yX4_trimOf wsX4_trimOf) := goodIn_app (goodIn_of _ (by decide +kernel)) ggX4_first_X4_trimOf
set_option maxRecDepth 20000 in
theorem ggX4_first_X4_at : GoodIn wsX4_first wsX4_at := goodIn_r _ [26, 27, 28, 29, 30, 6, 31, 32, 16, 17, 18, 33, 34, 35, 36, 37, 38, 39, 40, 41, 42, 43, 44, 45] (by decide +kernel) (by decide +kernel)
set_option maxRecDepth 20000 in
theorem gX4_first_X4_at : GoodIn wsX4_first (wsV RX4 106 RX4 yX4_at wsX4_at) := goodIn_app (goodIn_of _ (by decide +kernel)) ggX4_first_X4_at
set_option maxRecDepth 20000 in
theorem ggX4_first_X4_quotient : GoodIn wsX4_first wsX4_quotient := goodIn_r _ [18] (by decide +kernel) (by decide +kernel)
set_option maxRecDepth 20000 in
theorem gX4_first_X4_quotient : GoodIn wsX4_first (va_wsS RX4 96 yX4_quotient wsX4_quotient) := goodIn_app (goodIn_of _ (by decide +kernel)) ggX4_first_X4_quotient
theorem dX4_first_0 : decode cX4_first 0 = .ok (.aload_n 0, 1) := by decide +kernel
theorem dX4_first_1 : decode cX4_first 1 = .ok (.iload_n 1, 1) := by decide +kernel
theorem dX4_first_2 : decode cX4_first 2 = .ok (.lload_n 2, 1) := by decide +kernel
theorem dX4_first_3 : decode cX4_first 3 = .ok (.invokevirtual 152, 3) := by decide +kernel
theorem dX4_first_6 : decode cX4_first 6 = .ok (.lstore 4, 2) := by decide +kernel
theorem dX4_first_8 : decode cX4_first 8 = .ok (.aload_n 0, 1) := by decide +kernel
theorem dX4_first_9 : decode cX4_first 9 = .ok (.iload_n 1, 1) := by decide +kernel
theorem dX4_first_10 : decode cX4_first 10 = .ok (.lload_n 2, 1) := by decide +kernel
theorem dX4_first_11 : decode cX4_first 11 = .ok (.invokevirtual 143, 3) := by decide +kernel
theorem dX4_first_14 : decode cX4_first 14 = .ok (.aload_n 0, 1) := by decide +kernel
theorem dX4_first_15 : decode cX4_first 15 = .ok (.iconst 1, 1) := by decide +kernel
theorem dX4_first_16 : decode cX4_first 16 = .ok (.lload 4, 2) := by decide +kernel
theorem dX4_first_18 : decode cX4_first 18 = .ok (.invokevirtual 106, 3) := by decide +kernel
theorem dX4_first_21 : decode cX4_first 21 = .ok (.lmul, 1) := by decide +kernel
theorem dX4_first_22 : decode cX4_first 22 = .ok (.aload_n 0, 1) := by decide +kernel
theorem dX4_first_23 : decode cX4_first 23 = .ok (.iconst 2, 1) := by decide +kernel
theorem dX4_first_24 : decode cX4_first 24 = .ok (.lload 4, 2) := by decide +kernel
theorem dX4_first_26 : decode cX4_first 26 = .ok (.invokevirtual 106, 3) := by decide +kernel
theorem dX4_first_29 : decode cX4_first 29 = .ok (.lmul, 1) := by decide +kernel
theorem dX4_first_30 : decode cX4_first 30 = .ok (.ldc2_w 116, 3) := by decide +kernel
theorem dX4_first_33 : decode cX4_first 33 = .ok (.aload_n 0, 1) := by decide +kernel
theorem dX4_first_34 : decode cX4_first 34 = .ok (.getfield 28, 3) := by decide +kernel
theorem dX4_first_37 : decode cX4_first 37 = .ok (.lmul, 1) := by decide +kernel
theorem dX4_first_38 : decode cX4_first 38 = .ok (.invokestatic 96, 3) := by decide +kernel
theorem dX4_first_41 : decode cX4_first 41 = .ok (.lreturn, 1) := by decide +kernel
set_option maxRecDepth 20000 in
theorem ggX4_second_X4_quarter : GoodIn wsX4_second wsX4_quarter := goodIn_r _ [10, 11, 12, 13, 14, 15, 9, 16, 17, 18, 19, 20, 21, 35, 36, 37, 38, 39, 40, 41, 42, 43, 44, 45, 46, 47] (by decide +kernel) (by decide +kernel)
set_option maxRecDepth 20000 in
theorem gX4_second_X4_quarter : GoodIn wsX4_second (wsV RX4 152 RX4 yX4_quarter wsX4_quarter) := goodIn_app (goodIn_of _ (by decide +kernel)) ggX4_second_X4_quarter
set_option maxRecDepth 20000 in
theorem ggX4_second_X4_cell : GoodIn wsX4_second wsX4_cell := goodIn_r _ [25, 26, 35, 36, 37, 38, 39, 40, 41, 42, 43, 44, 45, 46, 47] (by decide +kernel) (by decide +kernel)
set_option maxRecDepth 20000 in
theorem gX4_second_X4_cell : GoodIn wsX4_second (wsV RX4 88 RX4 yX4_cell wsX4_cell) := goodIn_app (goodIn_of _ (by decide +kernel)) ggX4_second_X4_cell
set_option maxRecDepth 20000 in
theorem ggX4_second_X4_trimOf : GoodIn wsX4_second wsX4_trimOf := goodIn_r _ [30, 13, 14, 15, 9, 16, 17, 18, 19, 20, 21, 35, 36, 37, 38, 39, 40, 41, 42, 43, 44, 45, 46, 47] (by decide +kernel) (by decide +kernel)
set_option maxRecDepth 20000 in
theorem gX4_second_X4_trimOf : GoodIn wsX4_second (wsV RX4 143 RX4 yX4_trimOf wsX4_trimOf) := goodIn_app (goodIn_of _ (by decide +kernel)) ggX4_second_X4_trimOf
set_option maxRecDepth 20000 in
theorem ggX4_second_X4_at : GoodIn wsX4_second wsX4_at := goodIn_r _ [34, 2, 22, 23, 24, 9, 25, 26, 19, 20, 21, 35, 36, 37, 38, 39, 40, 41, 42, 43, 44, 45, 46, 47] (by decide +kernel) (by decide +kernel)
set_option maxRecDepth 20000 in
theorem gX4_second_X4_at : GoodIn wsX4_second (wsV RX4 106 RX4 yX4_at wsX4_at) := goodIn_app (goodIn_of _ (by decide +kernel)) ggX4_second_X4_at
set_option maxRecDepth 20000 in
theorem ggX4_second_X4_quotient : GoodIn wsX4_second wsX4_quotient := goodIn_r _ [21] (by decide +kernel) (by decide +kernel)
set_option maxRecDepth 20000 in
theorem gX4_second_X4_quotient : GoodIn wsX4_second (va_wsS RX4 96 yX4_quotient wsX4_quotient) := goodIn_app (goodIn_of _ (by decide +kernel)) ggX4_second_X4_quotient
theorem dX4_second_0 : decode cX4_second 0 = .ok (.aload_n 0, 1) := by decide +kernel
theorem dX4_second_1 : decode cX4_second 1 = .ok (.iload_n 1, 1) := by decide +kernel
theorem dX4_second_2 : decode cX4_second 2 = .ok (.lload_n 2, 1) := by decide +kernel
theorem dX4_second_3 : decode cX4_second 3 = .ok (.invokevirtual 152, 3) := by decide +kernel
theorem dX4_second_6 : decode cX4_second 6 = .ok (.lstore 4, 2) := by decide +kernel
theorem dX4_second_8 : decode cX4_second 8 = .ok (.lload 4, 2) := by decide +kernel
theorem dX4_second_10 : decode cX4_second 10 = .ok (.ldc2_w 155, 3) := by decide +kernel
theorem dX4_second_13 : decode cX4_second 13 = .ok (.lsub, 1) := by decide +kernel
theorem dX4_second_14 : decode cX4_second 14 = .ok (.aload_n 0, 1) := by decide +kernel
theorem dX4_second_15 : decode cX4_second 15 = .ok (.iconst 0, 1) := by decide +kernel
theorem dX4_second_16 : decode cX4_second 16 = .ok (.iconst 0, 1) := by decide +kernel
theorem dX4_second_17 : decode cX4_second 17 = .ok (.invokevirtual 88, 3) := by decide +kernel
theorem dX4_second_20 : decode cX4_second 20 = .ok (.lcmp, 1) := by decide +kernel
theorem dX4_second_21 : decode cX4_second 21 = .ok (.ifCond .ge 12, 3) := by decide +kernel
theorem dX4_second_24 : decode cX4_second 24 = .ok (.aload_n 0, 1) := by decide +kernel
theorem dX4_second_25 : decode cX4_second 25 = .ok (.iconst 0, 1) := by decide +kernel
theorem dX4_second_26 : decode cX4_second 26 = .ok (.iconst 0, 1) := by decide +kernel
theorem dX4_second_27 : decode cX4_second 27 = .ok (.invokevirtual 88, 3) := by decide +kernel
theorem dX4_second_30 : decode cX4_second 30 = .ok (.goto 9, 3) := by decide +kernel
theorem dX4_second_33 : decode cX4_second 33 = .ok (.lload 4, 2) := by decide +kernel
theorem dX4_second_35 : decode cX4_second 35 = .ok (.ldc2_w 155, 3) := by decide +kernel
theorem dX4_second_38 : decode cX4_second 38 = .ok (.lsub, 1) := by decide +kernel
theorem dX4_second_39 : decode cX4_second 39 = .ok (.lstore 6, 2) := by decide +kernel
theorem dX4_second_41 : decode cX4_second 41 = .ok (.lload 4, 2) := by decide +kernel
theorem dX4_second_43 : decode cX4_second 43 = .ok (.ldc2_w 155, 3) := by decide +kernel
theorem dX4_second_46 : decode cX4_second 46 = .ok (.ladd, 1) := by decide +kernel
theorem dX4_second_47 : decode cX4_second 47 = .ok (.aload_n 0, 1) := by decide +kernel
theorem dX4_second_48 : decode cX4_second 48 = .ok (.aload_n 0, 1) := by decide +kernel
theorem dX4_second_49 : decode cX4_second 49 = .ok (.getfield 85, 3) := by decide +kernel
theorem dX4_second_52 : decode cX4_second 52 = .ok (.iconst 1, 1) := by decide +kernel
theorem dX4_second_53 : decode cX4_second 53 = .ok (.isub, 1) := by decide +kernel
theorem dX4_second_54 : decode cX4_second 54 = .ok (.iconst 0, 1) := by decide +kernel
theorem dX4_second_55 : decode cX4_second 55 = .ok (.invokevirtual 88, 3) := by decide +kernel
theorem dX4_second_58 : decode cX4_second 58 = .ok (.lcmp, 1) := by decide +kernel
theorem dX4_second_59 : decode cX4_second 59 = .ok (.ifCond .le 17, 3) := by decide +kernel
theorem dX4_second_62 : decode cX4_second 62 = .ok (.aload_n 0, 1) := by decide +kernel
theorem dX4_second_63 : decode cX4_second 63 = .ok (.aload_n 0, 1) := by decide +kernel
theorem dX4_second_64 : decode cX4_second 64 = .ok (.getfield 85, 3) := by decide +kernel
theorem dX4_second_67 : decode cX4_second 67 = .ok (.iconst 1, 1) := by decide +kernel
theorem dX4_second_68 : decode cX4_second 68 = .ok (.isub, 1) := by decide +kernel
theorem dX4_second_69 : decode cX4_second 69 = .ok (.iconst 0, 1) := by decide +kernel
theorem dX4_second_70 : decode cX4_second 70 = .ok (.invokevirtual 88, 3) := by decide +kernel
theorem dX4_second_73 : decode cX4_second 73 = .ok (.goto 9, 3) := by decide +kernel
theorem dX4_second_76 : decode cX4_second 76 = .ok (.lload 4, 2) := by decide +kernel
theorem dX4_second_78 : decode cX4_second 78 = .ok (.ldc2_w 155, 3) := by decide +kernel
theorem dX4_second_81 : decode cX4_second 81 = .ok (.ladd, 1) := by decide +kernel
theorem dX4_second_82 : decode cX4_second 82 = .ok (.lstore 8, 2) := by decide +kernel
theorem dX4_second_84 : decode cX4_second 84 = .ok (.aload_n 0, 1) := by decide +kernel
theorem dX4_second_85 : decode cX4_second 85 = .ok (.iload_n 1, 1) := by decide +kernel
theorem dX4_second_86 : decode cX4_second 86 = .ok (.lload_n 2, 1) := by decide +kernel
theorem dX4_second_87 : decode cX4_second 87 = .ok (.invokevirtual 143, 3) := by decide +kernel
theorem dX4_second_90 : decode cX4_second 90 = .ok (.lstore 10, 2) := by decide +kernel
theorem dX4_second_92 : decode cX4_second 92 = .ok (.ldc2_w 157, 3) := by decide +kernel
theorem dX4_second_95 : decode cX4_second 95 = .ok (.lload 10, 2) := by decide +kernel
theorem dX4_second_97 : decode cX4_second 97 = .ok (.lmul, 1) := by decide +kernel
theorem dX4_second_98 : decode cX4_second 98 = .ok (.lload 10, 2) := by decide +kernel
theorem dX4_second_100 : decode cX4_second 100 = .ok (.lmul, 1) := by decide +kernel
theorem dX4_second_101 : decode cX4_second 101 = .ok (.aload_n 0, 1) := by decide +kernel
theorem dX4_second_102 : decode cX4_second 102 = .ok (.iconst 3, 1) := by decide +kernel
theorem dX4_second_103 : decode cX4_second 103 = .ok (.lload 8, 2) := by decide +kernel
theorem dX4_second_105 : decode cX4_second 105 = .ok (.invokevirtual 106, 3) := by decide +kernel
theorem dX4_second_108 : decode cX4_second 108 = .ok (.aload_n 0, 1) := by decide +kernel
theorem dX4_second_109 : decode cX4_second 109 = .ok (.iconst 3, 1) := by decide +kernel
theorem dX4_second_110 : decode cX4_second 110 = .ok (.lload 6, 2) := by decide +kernel
theorem dX4_second_112 : decode cX4_second 112 = .ok (.invokevirtual 106, 3) := by decide +kernel
theorem dX4_second_115 : decode cX4_second 115 = .ok (.lsub, 1) := by decide +kernel
theorem dX4_second_116 : decode cX4_second 116 = .ok (.lmul, 1) := by decide +kernel
theorem dX4_second_117 : decode cX4_second 117 = .ok (.ldc2_w 159, 3) := by decide +kernel
theorem dX4_second_120 : decode cX4_second 120 = .ok (.aload_n 0, 1) := by decide +kernel
theorem dX4_second_121 : decode cX4_second 121 = .ok (.getfield 28, 3) := by decide +kernel
theorem dX4_second_124 : decode cX4_second 124 = .ok (.lmul, 1) := by decide +kernel
theorem dX4_second_125 : decode cX4_second 125 = .ok (.invokestatic 96, 3) := by decide +kernel
theorem dX4_second_128 : decode cX4_second 128 = .ok (.lreturn, 1) := by decide +kernel
set_option maxRecDepth 20000 in
theorem ggX4_displaced_X4_quarter : GoodIn wsX4_displaced wsX4_quarter := goodIn_r _ [7, 8, 9, 10, 11, 12, 6, 13, 14, 15, 16, 17, 18, 46, 47, 48, 49, 50, 51, 52, 53, 54, 55, 56, 57, 58] (by decide +kernel) (by decide +kernel)
set_option maxRecDepth 20000 in
theorem gX4_displaced_X4_quarter : GoodIn wsX4_displaced (wsV RX4 152 RX4 yX4_quarter wsX4_quarter) := goodIn_app (goodIn_of _ (by decide +kernel)) ggX4_displaced_X4_quarter
set_option maxRecDepth 20000 in
theorem ggX4_displaced_X4_at : GoodIn wsX4_displaced wsX4_at := goodIn_r _ [22, 23, 24, 25, 26, 6, 27, 28, 16, 17, 18, 46, 47, 48, 49, 50, 51, 52, 53, 54, 55, 56, 57, 58] (by decide +kernel) (by decide +kernel)
set_option maxRecDepth 20000 in
theorem gX4_displaced_X4_at : GoodIn wsX4_displaced (wsV RX4 106 RX4 yX4_at wsX4_at) := goodIn_app (goodIn_of _ (by decide +kernel)) ggX4_displaced_X4_at
set_option maxRecDepth 20000 in
theorem ggX4_displaced_X4_first : GoodIn wsX4_displaced wsX4_first := goodIn_r _ [32, 33, 34, 3, 4, 5, 6, 7, 8, 9, 10, 11, 12, 13, 14, 15, 16, 17, 18, 35, 36, 37, 38, 19, 20, 21, 22, 23, 24, 25, 26, 27, 28, 46, 47, 48, 49, 50, 51, 52, 53, 54, 55, 56, 57, 58] (by decide +kernel) (by decide +kernel)
set_option maxRecDepth 20000 in
theorem gX4_displaced_X4_first : GoodIn wsX4_displaced (wsV RX4 161 RX4 yX4_first wsX4_first) := goodIn_app (goodIn_of _ (by decide +kernel)) ggX4_displaced_X4_first
set_option maxRecDepth 20000 in
theorem ggX4_displaced_X4_second : GoodIn wsX4_displaced wsX4_second := goodIn_r _ [42, 43, 23, 44, 45, 34, 3, 4, 5, 6, 7, 8, 9, 10, 11, 12, 13, 14, 15, 16, 17, 18, 24, 25, 26, 27, 28, 35, 36, 37, 38, 19, 20, 21, 22, 46, 47, 48, 49, 50, 51, 52, 53, 54, 55, 56, 57, 58] (by decide +kernel) (by decide +kernel)
set_option maxRecDepth 20000 in
theorem gX4_displaced_X4_second : GoodIn wsX4_displaced (wsV RX4 164 RX4 yX4_second wsX4_second) := goodIn_app (goodIn_of _ (by decide +kernel)) ggX4_displaced_X4_second
set_option maxRecDepth 20000 in
theorem ggX4_displaced_X4_quotient : GoodIn wsX4_displaced wsX4_quotient := goodIn_r _ [18] (by decide +kernel) (by decide +kernel)
set_option maxRecDepth 20000 in
theorem gX4_displaced_X4_quotient : GoodIn wsX4_displaced (va_wsS RX4 96 yX4_quotient wsX4_quotient) := goodIn_app (goodIn_of _ (by decide +kernel)) ggX4_displaced_X4_quotient
theorem dX4_displaced_0 : decode cX4_displaced 0 = .ok (.aload_n 0, 1) := by decide +kernel
theorem dX4_displaced_1 : decode cX4_displaced 1 = .ok (.iconst 0, 1) := by decide +kernel
theorem dX4_displaced_2 : decode cX4_displaced 2 = .ok (.aload_n 0, 1) := by decide +kernel
theorem dX4_displaced_3 : decode cX4_displaced 3 = .ok (.iload_n 1, 1) := by decide +kernel
theorem dX4_displaced_4 : decode cX4_displaced 4 = .ok (.lload_n 2, 1) := by decide +kernel
theorem dX4_displaced_5 : decode cX4_displaced 5 = .ok (.invokevirtual 152, 3) := by decide +kernel
theorem dX4_displaced_8 : decode cX4_displaced 8 = .ok (.invokevirtual 106, 3) := by decide +kernel
theorem dX4_displaced_11 : decode cX4_displaced 11 = .ok (.aload_n 0, 1) := by decide +kernel
theorem dX4_displaced_12 : decode cX4_displaced 12 = .ok (.iload_n 1, 1) := by decide +kernel
theorem dX4_displaced_13 : decode cX4_displaced 13 = .ok (.lload_n 2, 1) := by decide +kernel
theorem dX4_displaced_14 : decode cX4_displaced 14 = .ok (.invokevirtual 161, 3) := by decide +kernel
theorem dX4_displaced_17 : decode cX4_displaced 17 = .ok (.ladd, 1) := by decide +kernel
theorem dX4_displaced_18 : decode cX4_displaced 18 = .ok (.aload_n 0, 1) := by decide +kernel
theorem dX4_displaced_19 : decode cX4_displaced 19 = .ok (.iload_n 1, 1) := by decide +kernel
theorem dX4_displaced_20 : decode cX4_displaced 20 = .ok (.lload_n 2, 1) := by decide +kernel
theorem dX4_displaced_21 : decode cX4_displaced 21 = .ok (.invokevirtual 164, 3) := by decide +kernel
theorem dX4_displaced_24 : decode cX4_displaced 24 = .ok (.ladd, 1) := by decide +kernel
theorem dX4_displaced_25 : decode cX4_displaced 25 = .ok (.lstore 4, 2) := by decide +kernel
theorem dX4_displaced_27 : decode cX4_displaced 27 = .ok (.lload 4, 2) := by decide +kernel
theorem dX4_displaced_29 : decode cX4_displaced 29 = .ok (.aload_n 0, 1) := by decide +kernel
theorem dX4_displaced_30 : decode cX4_displaced 30 = .ok (.getfield 20, 3) := by decide +kernel
theorem dX4_displaced_33 : decode cX4_displaced 33 = .ok (.iload_n 1, 1) := by decide +kernel
theorem dX4_displaced_34 : decode cX4_displaced 34 = .ok (.laload, 1) := by decide +kernel
theorem dX4_displaced_35 : decode cX4_displaced 35 = .ok (.lmul, 1) := by decide +kernel
theorem dX4_displaced_36 : decode cX4_displaced 36 = .ok (.ldc2_w 35, 3) := by decide +kernel
theorem dX4_displaced_39 : decode cX4_displaced 39 = .ok (.invokestatic 96, 3) := by decide +kernel
theorem dX4_displaced_42 : decode cX4_displaced 42 = .ok (.lreturn, 1) := by decide +kernel
set_option maxRecDepth 20000 in
theorem ggX4_net_X4_displaced : GoodIn wsX4_net wsX4_displaced := goodIn_r _ [6, 7, 8, 9, 10, 11, 5, 12, 13, 14, 15, 16, 17, 18, 19, 20, 21, 22, 23, 24, 25, 26, 27, 28, 29, 30, 31, 32, 33, 34, 35, 36, 37, 38, 39, 40, 41, 42, 43, 44, 45, 46, 47, 48, 49, 50, 51, 52, 53, 54, 55, 56, 57, 58, 59, 60, 61, 62, 63] (by decide +kernel) (by decide +kernel)
set_option maxRecDepth 20000 in
theorem gX4_net_X4_displaced : GoodIn wsX4_net (wsV RX4 167 RX4 yX4_displaced wsX4_displaced) := goodIn_app (goodIn_of _ (by decide +kernel)) ggX4_net_X4_displaced
theorem dX4_net_0 : decode cX4_net 0 = .ok (.aload_n 0, 1) := by decide +kernel
theorem dX4_net_1 : decode cX4_net 1 = .ok (.iload_n 1, 1) := by decide +kernel
theorem dX4_net_2 : decode cX4_net 2 = .ok (.lload_n 2, 1) := by decide +kernel
theorem dX4_net_3 : decode cX4_net 3 = .ok (.invokevirtual 167, 3) := by decide +kernel
theorem dX4_net_6 : decode cX4_net 6 = .ok (.lstore 4, 2) := by decide +kernel
theorem dX4_net_8 : decode cX4_net 8 = .ok (.iconst 0, 1) := by decide +kernel
theorem dX4_net_9 : decode cX4_net 9 = .ok (.istore 6, 2) := by decide +kernel
theorem dX4_net_11 : decode cX4_net 11 = .ok (.iload 6, 2) := by decide +kernel
theorem dX4_net_13 : decode cX4_net 13 = .ok (.iconst 4, 1) := by decide +kernel
theorem dX4_net_14 : decode cX4_net 14 = .ok (.if_icmp .ge 25, 3) := by decide +kernel
theorem dX4_net_17 : decode cX4_net 17 = .ok (.lload 4, 2) := by decide +kernel
theorem dX4_net_19 : decode cX4_net 19 = .ok (.aload_n 0, 1) := by decide +kernel
theorem dX4_net_20 : decode cX4_net 20 = .ok (.getfield 23, 3) := by decide +kernel
theorem dX4_net_23 : decode cX4_net 23 = .ok (.iconst 4, 1) := by decide +kernel
theorem dX4_net_24 : decode cX4_net 24 = .ok (.iload_n 1, 1) := by decide +kernel
theorem dX4_net_25 : decode cX4_net 25 = .ok (.imul, 1) := by decide +kernel
theorem dX4_net_26 : decode cX4_net 26 = .ok (.iload 6, 2) := by decide +kernel
theorem dX4_net_28 : decode cX4_net 28 = .ok (.iadd, 1) := by decide +kernel
theorem dX4_net_29 : decode cX4_net 29 = .ok (.laload, 1) := by decide +kernel
theorem dX4_net_30 : decode cX4_net 30 = .ok (.lsub, 1) := by decide +kernel
theorem dX4_net_31 : decode cX4_net 31 = .ok (.lstore 4, 2) := by decide +kernel
theorem dX4_net_33 : decode cX4_net 33 = .ok (.iinc 6 1, 3) := by decide +kernel
theorem dX4_net_36 : decode cX4_net 36 = .ok (.goto (-25), 3) := by decide +kernel
theorem dX4_net_39 : decode cX4_net 39 = .ok (.lload 4, 2) := by decide +kernel
theorem dX4_net_41 : decode cX4_net 41 = .ok (.lreturn, 1) := by decide +kernel
set_option maxRecDepth 20000 in
theorem ggX4_firstTold_X4_isComputable : GoodIn wsX4_firstTold wsX4_isComputable := goodIn_r _ [6, 7, 8, 9, 5, 10, 11, 12, 13, 14, 15, 16, 17, 18, 19, 20, 21, 22, 23, 24, 25, 26, 27, 28, 29, 30, 31, 32, 33, 34, 49, 50, 51, 52, 53, 54, 55, 56, 57, 58, 59, 60, 61] (by decide +kernel) (by decide +kernel)
set_option maxRecDepth 20000 in
theorem gX4_firstTold_X4_isComputable : GoodIn wsX4_firstTold (wsV RX4 170 RX4 yX4_isComputable wsX4_isComputable) := goodIn_app (goodIn_of _ (by decide +kernel)) ggX4_firstTold_X4_isComputable
set_option maxRecDepth 20000 in
theorem ggX4_firstTold_X4_first : GoodIn wsX4_firstTold wsX4_first := goodIn_r _ [38, 39, 40, 7, 8, 9, 5, 10, 11, 12, 13, 14, 15, 16, 17, 18, 19, 20, 21, 41, 42, 43, 44, 45, 46, 47, 48, 26, 27, 28, 29, 30, 31, 49, 50, 51, 52, 53, 54, 55, 56, 57, 58, 59, 60, 61] (by decide +kernel) (by decide +kernel)
set_option maxRecDepth 20000 in
theorem gX4_firstTold_X4_first : GoodIn wsX4_firstTold (wsV RX4 161 RX4 yX4_first wsX4_first) := goodIn_app (goodIn_of _ (by decide +kernel)) ggX4_firstTold_X4_first
theorem dX4_firstTold_0 : decode cX4_firstTold 0 = .ok (.aload_n 0, 1) := by decide +kernel
theorem dX4_firstTold_1 : decode cX4_firstTold 1 = .ok (.iload_n 1, 1) := by decide +kernel
theorem dX4_firstTold_2 : decode cX4_firstTold 2 = .ok (.lconst 0, 1) := by decide +kernel
theorem dX4_firstTold_3 : decode cX4_firstTold 3 = .ok (.invokevirtual 170, 3) := by decide +kernel
theorem dX4_firstTold_6 : decode cX4_firstTold 6 = .ok (.ifCond .eq 12, 3) := by decide +kernel
theorem dX4_firstTold_9 : decode cX4_firstTold 9 = .ok (.aload_n 0, 1) := by decide +kernel
theorem dX4_firstTold_10 : decode cX4_firstTold 10 = .ok (.iload_n 1, 1) := by decide +kernel
theorem dX4_firstTold_11 : decode cX4_firstTold 11 = .ok (.lconst 0, 1) := by decide +kernel
theorem dX4_firstTold_12 : decode cX4_firstTold 12 = .ok (.invokevirtual 161, 3) := by decide +kernel
theorem dX4_firstTold_15 : decode cX4_firstTold 15 = .ok (.goto 6, 3) := by decide +kernel
theorem dX4_firstTold_18 : decode cX4_firstTold 18 = .ok (.ldc2_w 110, 3) := by decide +kernel
theorem dX4_firstTold_21 : decode cX4_firstTold 21 = .ok (.lreturn, 1) := by decide +kernel
set_option maxRecDepth 20000 in
theorem ggX4_secondTold_X4_isComputable : GoodIn wsX4_secondTold wsX4_isComputable := goodIn_r _ [6, 7, 8, 9, 5, 10, 11, 12, 13, 14, 15, 16, 17, 18, 19, 20, 21, 22, 23, 24, 25, 26, 27, 28, 29, 30, 31, 32, 33, 34, 51, 52, 53, 54, 55, 56, 57, 58, 59, 60, 61, 62, 63] (by decide +kernel) (by decide +kernel)
set_option maxRecDepth 20000 in
theorem gX4_secondTold_X4_isComputable : GoodIn wsX4_secondTold (wsV RX4 170 RX4 yX4_isComputable wsX4_isComputable) := goodIn_app (goodIn_of _ (by decide +kernel)) ggX4_secondTold_X4_isComputable
set_option maxRecDepth 20000 in
theorem ggX4_secondTold_X4_second : GoodIn wsX4_secondTold wsX4_second := goodIn_r _ [38, 39, 26, 40, 41, 42, 7, 8, 9, 5, 10, 11, 12, 13, 14, 15, 16, 17, 18, 19, 20, 21, 27, 28, 29, 30, 31, 43, 44, 45, 46, 47, 48, 49, 50, 51, 52, 53, 54, 55, 56, 57, 58, 59, 60, 61, 62, 63] (by decide +kernel) (by decide +kernel)
set_option maxRecDepth 20000 in
theorem gX4_secondTold_X4_second : GoodIn wsX4_secondTold (wsV RX4 164 RX4 yX4_second wsX4_second) := goodIn_app (goodIn_of _ (by decide +kernel)) ggX4_secondTold_X4_second
theorem dX4_secondTold_0 : decode cX4_secondTold 0 = .ok (.aload_n 0, 1) := by decide +kernel
theorem dX4_secondTold_1 : decode cX4_secondTold 1 = .ok (.iload_n 1, 1) := by decide +kernel
theorem dX4_secondTold_2 : decode cX4_secondTold 2 = .ok (.lconst 0, 1) := by decide +kernel
theorem dX4_secondTold_3 : decode cX4_secondTold 3 = .ok (.invokevirtual 170, 3) := by decide +kernel
theorem dX4_secondTold_6 : decode cX4_secondTold 6 = .ok (.ifCond .eq 12, 3) := by decide +kernel
theorem dX4_secondTold_9 : decode cX4_secondTold 9 = .ok (.aload_n 0, 1) := by decide +kernel
theorem dX4_secondTold_10 : decode cX4_secondTold 10 = .ok (.iload_n 1, 1) := by decide +kernel
theorem dX4_secondTold_11 : decode cX4_secondTold 11 = .ok (.lconst 0, 1) := by decide +kernel
theorem dX4_secondTold_12 : decode cX4_secondTold 12 = .ok (.invokevirtual 164, 3) := by decide +kernel
theorem dX4_secondTold_15 : decode cX4_secondTold 15 = .ok (.goto 6, 3) := by decide +kernel
theorem dX4_secondTold_18 : decode cX4_secondTold 18 = .ok (.ldc2_w 110, 3) := by decide +kernel
theorem dX4_secondTold_21 : decode cX4_secondTold 21 = .ok (.lreturn, 1) := by decide +kernel
set_option maxRecDepth 20000 in
theorem ggX4_displacedTold_X4_isComputable : GoodIn wsX4_displacedTold wsX4_isComputable := goodIn_r _ [6, 7, 8, 9, 5, 10, 11, 12, 13, 14, 15, 16, 17, 18, 19, 20, 21, 22, 23, 24, 25, 26, 27, 28, 29, 30, 31, 32, 33, 34, 62, 63, 64, 65, 66, 67, 68, 69, 70, 71, 72, 73, 74] (by decide +kernel) (by decide +kernel)
set_option maxRecDepth 20000 in
theorem gX4_displacedTold_X4_isComputable : GoodIn wsX4_displacedTold (wsV RX4 170 RX4 yX4_isComputable wsX4_isComputable) := goodIn_app (goodIn_of _ (by decide +kernel)) ggX4_displacedTold_X4_isComputable
set_option maxRecDepth 20000 in
theorem ggX4_displacedTold_X4_displaced : GoodIn wsX4_displacedTold wsX4_displaced := goodIn_r _ [38, 39, 40, 7, 8, 9, 5, 10, 11, 12, 13, 14, 15, 16, 17, 18, 19, 20, 21, 41, 42, 43, 44, 26, 27, 28, 29, 30, 31, 45, 46, 47, 48, 49, 50, 51, 52, 53, 54, 55, 56, 57, 58, 59, 60, 61, 62, 63, 64, 65, 66, 67, 68, 69, 70, 71, 72, 73, 74] (by decide +kernel) (by decide +kernel)
set_option maxRecDepth 20000 in
theorem gX4_displacedTold_X4_displaced : GoodIn wsX4_displacedTold (wsV RX4 167 RX4 yX4_displaced wsX4_displaced) := goodIn_app (goodIn_of _ (by decide +kernel)) ggX4_displacedTold_X4_displaced
theorem dX4_displacedTold_0 : decode cX4_displacedTold 0 = .ok (.aload_n 0, 1) := by decide +kernel
theorem dX4_displacedTold_1 : decode cX4_displacedTold 1 = .ok (.iload_n 1, 1) := by decide +kernel
theorem dX4_displacedTold_2 : decode cX4_displacedTold 2 = .ok (.lload_n 2, 1) := by decide +kernel
theorem dX4_displacedTold_3 : decode cX4_displacedTold 3 = .ok (.invokevirtual 170, 3) := by decide +kernel
theorem dX4_displacedTold_6 : decode cX4_displacedTold 6 = .ok (.ifCond .eq 12, 3) := by decide +kernel
theorem dX4_displacedTold_9 : decode cX4_displacedTold 9 = .ok (.aload_n 0, 1) := by decide +kernel
theorem dX4_displacedTold_10 : decode cX4_displacedTold 10 = .ok (.iload_n 1, 1) := by decide +kernel
theorem dX4_displacedTold_11 : decode cX4_displacedTold 11 = .ok (.lload_n 2, 1) := by decide +kernel
theorem dX4_displacedTold_12 : decode cX4_displacedTold 12 = .ok (.invokevirtual 167, 3) := by decide +kernel
theorem dX4_displacedTold_15 : decode cX4_displacedTold 15 = .ok (.goto 6, 3) := by decide +kernel
theorem dX4_displacedTold_18 : decode cX4_displacedTold 18 = .ok (.ldc2_w 110, 3) := by decide +kernel
theorem dX4_displacedTold_21 : decode cX4_displacedTold 21 = .ok (.lreturn, 1) := by decide +kernel
set_option maxRecDepth 20000 in
theorem ggX4_netTold_X4_isComputable : GoodIn wsX4_netTold wsX4_isComputable := goodIn_r _ [6, 7, 8, 9, 5, 10, 11, 12, 13, 14, 15, 16, 17, 18, 19, 20, 21, 22, 23, 24, 25, 26, 27, 28, 29, 30, 31, 32, 33, 34, 67, 68, 69, 70, 71, 72, 73, 74, 75, 76, 77, 78, 79] (by decide +kernel) (by decide +kernel)
set_option maxRecDepth 20000 in
theorem gX4_netTold_X4_isComputable : GoodIn wsX4_netTold (wsV RX4 170 RX4 yX4_isComputable wsX4_isComputable) := goodIn_app (goodIn_of _ (by decide +kernel)) ggX4_netTold_X4_isComputable
set_option maxRecDepth 20000 in
theorem ggX4_netTold_X4_net : GoodIn wsX4_netTold wsX4_net := goodIn_r _ [38, 39, 40, 41, 42, 5, 43, 44, 45, 7, 8, 9, 10, 11, 12, 13, 14, 15, 16, 17, 18, 19, 20, 21, 46, 47, 48, 49, 26, 27, 28, 29, 30, 31, 50, 51, 52, 53, 54, 55, 56, 57, 58, 59, 60, 61, 62, 63, 64, 65, 66, 67, 68, 69, 70, 71, 72, 73, 74, 75, 76, 77, 78, 79] (by decide +kernel) (by decide +kernel)
set_option maxRecDepth 20000 in
theorem gX4_netTold_X4_net : GoodIn wsX4_netTold (wsV RX4 174 RX4 yX4_net wsX4_net) := goodIn_app (goodIn_of _ (by decide +kernel)) ggX4_netTold_X4_net
theorem dX4_netTold_0 : decode cX4_netTold 0 = .ok (.aload_n 0, 1) := by decide +kernel
theorem dX4_netTold_1 : decode cX4_netTold 1 = .ok (.iload_n 1, 1) := by decide +kernel
theorem dX4_netTold_2 : decode cX4_netTold 2 = .ok (.lconst 0, 1) := by decide +kernel
theorem dX4_netTold_3 : decode cX4_netTold 3 = .ok (.invokevirtual 170, 3) := by decide +kernel
theorem dX4_netTold_6 : decode cX4_netTold 6 = .ok (.ifCond .eq 12, 3) := by decide +kernel
theorem dX4_netTold_9 : decode cX4_netTold 9 = .ok (.aload_n 0, 1) := by decide +kernel
theorem dX4_netTold_10 : decode cX4_netTold 10 = .ok (.iload_n 1, 1) := by decide +kernel
theorem dX4_netTold_11 : decode cX4_netTold 11 = .ok (.lconst 0, 1) := by decide +kernel
theorem dX4_netTold_12 : decode cX4_netTold 12 = .ok (.invokevirtual 174, 3) := by decide +kernel
theorem dX4_netTold_15 : decode cX4_netTold 15 = .ok (.goto 6, 3) := by decide +kernel
theorem dX4_netTold_18 : decode cX4_netTold 18 = .ok (.ldc2_w 110, 3) := by decide +kernel
theorem dX4_netTold_21 : decode cX4_netTold 21 = .ok (.lreturn, 1) := by decide +kernel
set_option maxRecDepth 20000 in
theorem ggX4_firstCorrection_X4_isSurvey : GoodIn wsX4_firstCorrection wsX4_isSurvey := goodIn_r _ [5, 6, 7, 8, 4, 9] (by decide +kernel) (by decide +kernel)
set_option maxRecDepth 20000 in
theorem gX4_firstCorrection_X4_isSurvey : GoodIn wsX4_firstCorrection (va_wsS RX4 121 yX4_isSurvey wsX4_isSurvey) := goodIn_app (goodIn_of _ (by decide +kernel)) ggX4_firstCorrection_X4_isSurvey
set_option maxRecDepth 20000 in
theorem ggX4_firstCorrection_X4_firstTold : GoodIn wsX4_firstCorrection wsX4_firstTold := goodIn_r _ [13, 14, 15, 16, 17, 4, 18, 19, 20, 21, 22, 23, 24, 25, 26, 27, 28, 29, 30, 31, 32, 33, 34, 35, 36, 37, 38, 39, 40, 41, 42, 43, 7, 8, 9, 44, 45, 46, 47, 48, 49, 50, 51, 52, 53, 54, 55, 56, 57, 58, 59, 60, 61, 62, 63, 64, 65, 66, 67, 68, 69, 70] (by decide +kernel) (by decide +kernel)
set_option maxRecDepth 20000 in
theorem gX4_firstCorrection_X4_firstTold : GoodIn wsX4_firstCorrection (wsV RX4 177 RX4 yX4_firstTold wsX4_firstTold) := goodIn_app (goodIn_of _ (by decide +kernel)) ggX4_firstCorrection_X4_firstTold
theorem dX4_firstCorrection_0 : decode cX4_firstCorrection 0 = .ok (.iload_n 1, 1) := by decide +kernel
theorem dX4_firstCorrection_1 : decode cX4_firstCorrection 1 = .ok (.invokestatic 121, 3) := by decide +kernel
theorem dX4_firstCorrection_4 : decode cX4_firstCorrection 4 = .ok (.ifCond .eq 11, 3) := by decide +kernel
theorem dX4_firstCorrection_7 : decode cX4_firstCorrection 7 = .ok (.aload_n 0, 1) := by decide +kernel
theorem dX4_firstCorrection_8 : decode cX4_firstCorrection 8 = .ok (.iload_n 1, 1) := by decide +kernel
theorem dX4_firstCorrection_9 : decode cX4_firstCorrection 9 = .ok (.invokevirtual 177, 3) := by decide +kernel
theorem dX4_firstCorrection_12 : decode cX4_firstCorrection 12 = .ok (.goto 6, 3) := by decide +kernel
theorem dX4_firstCorrection_15 : decode cX4_firstCorrection 15 = .ok (.ldc2_w 125, 3) := by decide +kernel
theorem dX4_firstCorrection_18 : decode cX4_firstCorrection 18 = .ok (.lreturn, 1) := by decide +kernel
set_option maxRecDepth 20000 in
theorem ggX4_secondCorrection_X4_isSurvey : GoodIn wsX4_secondCorrection wsX4_isSurvey := goodIn_r _ [5, 6, 7, 8, 4, 9] (by decide +kernel) (by decide +kernel)
set_option maxRecDepth 20000 in
theorem gX4_secondCorrection_X4_isSurvey : GoodIn wsX4_secondCorrection (va_wsS RX4 121 yX4_isSurvey wsX4_isSurvey) := goodIn_app (goodIn_of _ (by decide +kernel)) ggX4_secondCorrection_X4_isSurvey
set_option maxRecDepth 20000 in
theorem ggX4_secondCorrection_X4_secondTold : GoodIn wsX4_secondCorrection wsX4_secondTold := goodIn_r _ [13, 14, 15, 16, 17, 4, 18, 19, 20, 21, 22, 23, 24, 25, 26, 27, 28, 29, 30, 31, 32, 33, 34, 35, 36, 37, 38, 39, 40, 41, 42, 43, 7, 8, 9, 44, 45, 46, 47, 48, 49, 50, 51, 52, 53, 54, 55, 56, 57, 58, 59, 60, 61, 62, 63, 64, 65, 66, 67, 68, 69, 70, 71, 72] (by decide +kernel) (by decide +kernel)
set_option maxRecDepth 20000 in
theorem gX4_secondCorrection_X4_secondTold : GoodIn wsX4_secondCorrection (wsV RX4 180 RX4 yX4_secondTold wsX4_secondTold) := goodIn_app (goodIn_of _ (by decide +kernel)) ggX4_secondCorrection_X4_secondTold
theorem dX4_secondCorrection_0 : decode cX4_secondCorrection 0 = .ok (.iload_n 1, 1) := by decide +kernel
theorem dX4_secondCorrection_1 : decode cX4_secondCorrection 1 = .ok (.invokestatic 121, 3) := by decide +kernel
theorem dX4_secondCorrection_4 : decode cX4_secondCorrection 4 = .ok (.ifCond .eq 11, 3) := by decide +kernel
theorem dX4_secondCorrection_7 : decode cX4_secondCorrection 7 = .ok (.aload_n 0, 1) := by decide +kernel
theorem dX4_secondCorrection_8 : decode cX4_secondCorrection 8 = .ok (.iload_n 1, 1) := by decide +kernel
theorem dX4_secondCorrection_9 : decode cX4_secondCorrection 9 = .ok (.invokevirtual 180, 3) := by decide +kernel
theorem dX4_secondCorrection_12 : decode cX4_secondCorrection 12 = .ok (.goto 6, 3) := by decide +kernel
theorem dX4_secondCorrection_15 : decode cX4_secondCorrection 15 = .ok (.ldc2_w 125, 3) := by decide +kernel
theorem dX4_secondCorrection_18 : decode cX4_secondCorrection 18 = .ok (.lreturn, 1) := by decide +kernel
set_option maxRecDepth 20000 in
theorem ggX4_displacement_X4_isSurvey : GoodIn wsX4_displacement wsX4_isSurvey := goodIn_r _ [8, 9, 10, 11, 7, 12] (by decide +kernel) (by decide +kernel)
set_option maxRecDepth 20000 in
theorem gX4_displacement_X4_isSurvey : GoodIn wsX4_displacement (va_wsS RX4 121 yX4_isSurvey wsX4_isSurvey) := goodIn_app (goodIn_of _ (by decide +kernel)) ggX4_displacement_X4_isSurvey
set_option maxRecDepth 20000 in
theorem ggX4_displacement_X4_within : GoodIn wsX4_displacement wsX4_within := goodIn_r _ [12] (by decide +kernel) (by decide +kernel)
set_option maxRecDepth 20000 in
theorem gX4_displacement_X4_within : GoodIn wsX4_displacement (va_wsS RX4 41 yX4_within wsX4_within) := goodIn_app (goodIn_of _ (by decide +kernel)) ggX4_displacement_X4_within
set_option maxRecDepth 20000 in
theorem ggX4_displacement_X4_displacedTold : GoodIn wsX4_displacement wsX4_displacedTold := goodIn_r _ [16, 17, 18, 19, 20, 7, 21, 22, 23, 24, 25, 26, 27, 28, 29, 30, 31, 32, 33, 34, 35, 36, 37, 38, 39, 40, 41, 42, 43, 44, 45, 46, 10, 11, 12, 47, 48, 49, 50, 51, 52, 53, 54, 55, 56, 57, 58, 59, 60, 61, 62, 63, 64, 65, 66, 67, 68, 69, 70, 71, 72, 3, 73, 74, 75, 76, 77, 78, 79, 80, 81, 82, 83, 84, 85] (by decide +kernel) (by decide +kernel)
set_option maxRecDepth 20000 in
theorem gX4_displacement_X4_displacedTold : GoodIn wsX4_displacement (wsV RX4 185 RX4 yX4_displacedTold wsX4_displacedTold) := goodIn_app (goodIn_of _ (by decide +kernel)) ggX4_displacement_X4_displacedTold
theorem dX4_displacement_0 : decode cX4_displacement 0 = .ok (.iload_n 1, 1) := by decide +kernel
theorem dX4_displacement_1 : decode cX4_displacement 1 = .ok (.invokestatic 121, 3) := by decide +kernel
theorem dX4_displacement_4 : decode cX4_displacement 4 = .ok (.ifCond .ne 7, 3) := by decide +kernel
theorem dX4_displacement_7 : decode cX4_displacement 7 = .ok (.ldc2_w 125, 3) := by decide +kernel
theorem dX4_displacement_10 : decode cX4_displacement 10 = .ok (.lreturn, 1) := by decide +kernel
theorem dX4_displacement_11 : decode cX4_displacement 11 = .ok (.iload_n 2, 1) := by decide +kernel
theorem dX4_displacement_12 : decode cX4_displacement 12 = .ok (.i2l, 1) := by decide +kernel
theorem dX4_displacement_13 : decode cX4_displacement 13 = .ok (.ldc2_w 183, 3) := by decide +kernel
theorem dX4_displacement_16 : decode cX4_displacement 16 = .ok (.ldc2_w 159, 3) := by decide +kernel
theorem dX4_displacement_19 : decode cX4_displacement 19 = .ok (.invokestatic 41, 3) := by decide +kernel
theorem dX4_displacement_22 : decode cX4_displacement 22 = .ok (.ifCond .eq 13, 3) := by decide +kernel
theorem dX4_displacement_25 : decode cX4_displacement 25 = .ok (.aload_n 0, 1) := by decide +kernel
theorem dX4_displacement_26 : decode cX4_displacement 26 = .ok (.iload_n 1, 1) := by decide +kernel
theorem dX4_displacement_27 : decode cX4_displacement 27 = .ok (.iload_n 2, 1) := by decide +kernel
theorem dX4_displacement_28 : decode cX4_displacement 28 = .ok (.i2l, 1) := by decide +kernel
theorem dX4_displacement_29 : decode cX4_displacement 29 = .ok (.invokevirtual 185, 3) := by decide +kernel
theorem dX4_displacement_32 : decode cX4_displacement 32 = .ok (.goto 6, 3) := by decide +kernel
theorem dX4_displacement_35 : decode cX4_displacement 35 = .ok (.ldc2_w 45, 3) := by decide +kernel
theorem dX4_displacement_38 : decode cX4_displacement 38 = .ok (.lreturn, 1) := by decide +kernel
set_option maxRecDepth 20000 in
theorem ggX4_netWeight_X4_isSurvey : GoodIn wsX4_netWeight wsX4_isSurvey := goodIn_r _ [5, 6, 7, 8, 4, 9] (by decide +kernel) (by decide +kernel)
set_option maxRecDepth 20000 in
theorem gX4_netWeight_X4_isSurvey : GoodIn wsX4_netWeight (va_wsS RX4 121 yX4_isSurvey wsX4_isSurvey) := goodIn_app (goodIn_of _ (by decide +kernel)) ggX4_netWeight_X4_isSurvey
set_option maxRecDepth 20000 in
theorem ggX4_netWeight_X4_netTold : GoodIn wsX4_netWeight wsX4_netTold := goodIn_r _ [13, 14, 15, 16, 17, 4, 18, 19, 20, 21, 22, 23, 24, 25, 26, 27, 28, 29, 30, 31, 32, 33, 34, 35, 36, 37, 38, 39, 40, 41, 42, 43, 7, 8, 9, 44, 45, 46, 47, 48, 49, 50, 51, 52, 53, 54, 55, 56, 57, 58, 59, 60, 61, 62, 63, 64, 65, 66, 67, 68, 69, 70, 71, 72, 73, 74, 75, 76, 77, 78, 79, 80, 81, 82, 83, 84, 85, 86, 87, 88] (by decide +kernel) (by decide +kernel)
set_option maxRecDepth 20000 in
theorem gX4_netWeight_X4_netTold : GoodIn wsX4_netWeight (wsV RX4 188 RX4 yX4_netTold wsX4_netTold) := goodIn_app (goodIn_of _ (by decide +kernel)) ggX4_netWeight_X4_netTold
theorem dX4_netWeight_0 : decode cX4_netWeight 0 = .ok (.iload_n 1, 1) := by decide +kernel
theorem dX4_netWeight_1 : decode cX4_netWeight 1 = .ok (.invokestatic 121, 3) := by decide +kernel
theorem dX4_netWeight_4 : decode cX4_netWeight 4 = .ok (.ifCond .eq 11, 3) := by decide +kernel
theorem dX4_netWeight_7 : decode cX4_netWeight 7 = .ok (.aload_n 0, 1) := by decide +kernel
theorem dX4_netWeight_8 : decode cX4_netWeight 8 = .ok (.iload_n 1, 1) := by decide +kernel
theorem dX4_netWeight_9 : decode cX4_netWeight 9 = .ok (.invokevirtual 188, 3) := by decide +kernel
theorem dX4_netWeight_12 : decode cX4_netWeight 12 = .ok (.goto 6, 3) := by decide +kernel
theorem dX4_netWeight_15 : decode cX4_netWeight 15 = .ok (.ldc2_w 125, 3) := by decide +kernel
theorem dX4_netWeight_18 : decode cX4_netWeight 18 = .ok (.lreturn, 1) := by decide +kernel
set_option maxRecDepth 20000 in
theorem ggX4_cargoTold_X4_isComputable : GoodIn wsX4_cargoTold wsX4_isComputable := goodIn_r _ [6, 7, 8, 9, 5, 10, 11, 12, 13, 14, 15, 16, 17, 18, 19, 20, 21, 22, 23, 24, 25, 26, 27, 28, 29, 30, 31, 32, 33, 34, 67, 68, 69, 70, 71, 72, 73, 74, 75, 76, 77, 78, 79] (by decide +kernel) (by decide +kernel)
set_option maxRecDepth 20000 in
theorem gX4_cargoTold_X4_isComputable : GoodIn wsX4_cargoTold (wsV RX4 170 RX4 yX4_isComputable wsX4_isComputable) := goodIn_app (goodIn_of _ (by decide +kernel)) ggX4_cargoTold_X4_isComputable
set_option maxRecDepth 20000 in
theorem ggX4_cargoTold_X4_net : GoodIn wsX4_cargoTold wsX4_net := goodIn_r _ [38, 39, 40, 41, 42, 5, 43, 44, 45, 7, 8, 9, 10, 11, 12, 13, 14, 15, 16, 17, 18, 19, 20, 21, 46, 47, 48, 49, 26, 27, 28, 29, 30, 31, 50, 51, 52, 53, 54, 55, 56, 57, 58, 59, 60, 61, 62, 63, 64, 65, 66, 67, 68, 69, 70, 71, 72, 73, 74, 75, 76, 77, 78, 79] (by decide +kernel) (by decide +kernel)
set_option maxRecDepth 20000 in
theorem gX4_cargoTold_X4_net : GoodIn wsX4_cargoTold (wsV RX4 174 RX4 yX4_net wsX4_net) := goodIn_app (goodIn_of _ (by decide +kernel)) ggX4_cargoTold_X4_net
theorem dX4_cargoTold_0 : decode cX4_cargoTold 0 = .ok (.aload_n 0, 1) := by decide +kernel
theorem dX4_cargoTold_1 : decode cX4_cargoTold 1 = .ok (.iload_n 1, 1) := by decide +kernel
theorem dX4_cargoTold_2 : decode cX4_cargoTold 2 = .ok (.lconst 0, 1) := by decide +kernel
theorem dX4_cargoTold_3 : decode cX4_cargoTold 3 = .ok (.invokevirtual 170, 3) := by decide +kernel
theorem dX4_cargoTold_6 : decode cX4_cargoTold 6 = .ok (.ifCond .eq 28, 3) := by decide +kernel
theorem dX4_cargoTold_9 : decode cX4_cargoTold 9 = .ok (.aload_n 0, 1) := by decide +kernel
theorem dX4_cargoTold_10 : decode cX4_cargoTold 10 = .ok (.iload_n 2, 1) := by decide +kernel
theorem dX4_cargoTold_11 : decode cX4_cargoTold 11 = .ok (.lconst 0, 1) := by decide +kernel
theorem dX4_cargoTold_12 : decode cX4_cargoTold 12 = .ok (.invokevirtual 170, 3) := by decide +kernel
theorem dX4_cargoTold_15 : decode cX4_cargoTold 15 = .ok (.ifCond .eq 19, 3) := by decide +kernel
theorem dX4_cargoTold_18 : decode cX4_cargoTold 18 = .ok (.aload_n 0, 1) := by decide +kernel
theorem dX4_cargoTold_19 : decode cX4_cargoTold 19 = .ok (.iload_n 2, 1) := by decide +kernel
theorem dX4_cargoTold_20 : decode cX4_cargoTold 20 = .ok (.lconst 0, 1) := by decide +kernel
theorem dX4_cargoTold_21 : decode cX4_cargoTold 21 = .ok (.invokevirtual 174, 3) := by decide +kernel
theorem dX4_cargoTold_24 : decode cX4_cargoTold 24 = .ok (.aload_n 0, 1) := by decide +kernel
theorem dX4_cargoTold_25 : decode cX4_cargoTold 25 = .ok (.iload_n 1, 1) := by decide +kernel
theorem dX4_cargoTold_26 : decode cX4_cargoTold 26 = .ok (.lconst 0, 1) := by decide +kernel
theorem dX4_cargoTold_27 : decode cX4_cargoTold 27 = .ok (.invokevirtual 174, 3) := by decide +kernel
theorem dX4_cargoTold_30 : decode cX4_cargoTold 30 = .ok (.lsub, 1) := by decide +kernel
theorem dX4_cargoTold_31 : decode cX4_cargoTold 31 = .ok (.goto 6, 3) := by decide +kernel
theorem dX4_cargoTold_34 : decode cX4_cargoTold 34 = .ok (.ldc2_w 110, 3) := by decide +kernel
theorem dX4_cargoTold_37 : decode cX4_cargoTold 37 = .ok (.lreturn, 1) := by decide +kernel
set_option maxRecDepth 20000 in
theorem ggX4_cargo_X4_isSurvey : GoodIn wsX4_cargo wsX4_isSurvey := goodIn_r _ [5, 6, 7, 8, 4, 9] (by decide +kernel) (by decide +kernel)
set_option maxRecDepth 20000 in
theorem gX4_cargo_X4_isSurvey : GoodIn wsX4_cargo (va_wsS RX4 121 yX4_isSurvey wsX4_isSurvey) := goodIn_app (goodIn_of _ (by decide +kernel)) ggX4_cargo_X4_isSurvey
set_option maxRecDepth 20000 in
theorem ggX4_cargo_X4_cargoTold : GoodIn wsX4_cargo wsX4_cargoTold := goodIn_r _ [13, 14, 15, 16, 17, 4, 18, 19, 20, 21, 22, 23, 24, 25, 26, 27, 28, 29, 30, 31, 32, 33, 34, 35, 36, 37, 38, 39, 40, 41, 42, 43, 7, 8, 9, 44, 45, 46, 47, 48, 49, 50, 51, 52, 53, 54, 55, 56, 57, 58, 59, 60, 61, 62, 63, 64, 65, 66, 67, 68, 69, 70, 71, 72, 73, 74, 75, 76, 77, 78, 79, 80, 81, 82, 83, 84, 85, 86, 87, 88] (by decide +kernel) (by decide +kernel)
set_option maxRecDepth 20000 in
theorem gX4_cargo_X4_cargoTold : GoodIn wsX4_cargo (wsV RX4 191 RX4 yX4_cargoTold wsX4_cargoTold) := goodIn_app (goodIn_of _ (by decide +kernel)) ggX4_cargo_X4_cargoTold
theorem dX4_cargo_0 : decode cX4_cargo 0 = .ok (.iload_n 1, 1) := by decide +kernel
theorem dX4_cargo_1 : decode cX4_cargo 1 = .ok (.invokestatic 121, 3) := by decide +kernel
theorem dX4_cargo_4 : decode cX4_cargo 4 = .ok (.ifCond .eq 19, 3) := by decide +kernel
theorem dX4_cargo_7 : decode cX4_cargo 7 = .ok (.iload_n 2, 1) := by decide +kernel
theorem dX4_cargo_8 : decode cX4_cargo 8 = .ok (.invokestatic 121, 3) := by decide +kernel
theorem dX4_cargo_11 : decode cX4_cargo 11 = .ok (.ifCond .eq 12, 3) := by decide +kernel
theorem dX4_cargo_14 : decode cX4_cargo 14 = .ok (.aload_n 0, 1) := by decide +kernel
theorem dX4_cargo_15 : decode cX4_cargo 15 = .ok (.iload_n 1, 1) := by decide +kernel
theorem dX4_cargo_16 : decode cX4_cargo 16 = .ok (.iload_n 2, 1) := by decide +kernel
theorem dX4_cargo_17 : decode cX4_cargo 17 = .ok (.invokevirtual 191, 3) := by decide +kernel
theorem dX4_cargo_20 : decode cX4_cargo 20 = .ok (.goto 6, 3) := by decide +kernel
theorem dX4_cargo_23 : decode cX4_cargo 23 = .ok (.ldc2_w 125, 3) := by decide +kernel
theorem dX4_cargo_26 : decode cX4_cargo 26 = .ok (.lreturn, 1) := by decide +kernel
set_option maxRecDepth 20000 in
theorem ggX4_hasBounds_X4_isComputable : GoodIn wsX4_hasBounds wsX4_isComputable := goodIn_r _ [6, 7, 8, 9, 5, 10, 11, 12, 13, 14, 15, 16, 17, 18, 19, 20, 21, 22, 23, 24, 25, 26, 27, 28, 29, 30, 31, 32, 33, 34, 35, 36, 37, 38, 39, 40, 41, 42, 43, 44, 45, 46, 47] (by decide +kernel) (by decide +kernel)
set_option maxRecDepth 20000 in
theorem gX4_hasBounds_X4_isComputable : GoodIn wsX4_hasBounds (wsV RX4 170 RX4 yX4_isComputable wsX4_isComputable) := goodIn_app (goodIn_of _ (by decide +kernel)) ggX4_hasBounds_X4_isComputable
theorem dX4_hasBounds_0 : decode cX4_hasBounds 0 = .ok (.aload_n 0, 1) := by decide +kernel
theorem dX4_hasBounds_1 : decode cX4_hasBounds 1 = .ok (.iload_n 1, 1) := by decide +kernel
theorem dX4_hasBounds_2 : decode cX4_hasBounds 2 = .ok (.aload_n 0, 1) := by decide +kernel
theorem dX4_hasBounds_3 : decode cX4_hasBounds 3 = .ok (.getfield 118, 3) := by decide +kernel
theorem dX4_hasBounds_6 : decode cX4_hasBounds 6 = .ok (.lneg, 1) := by decide +kernel
theorem dX4_hasBounds_7 : decode cX4_hasBounds 7 = .ok (.invokevirtual 170, 3) := by decide +kernel
theorem dX4_hasBounds_10 : decode cX4_hasBounds 10 = .ok (.ifCond .eq 19, 3) := by decide +kernel
theorem dX4_hasBounds_13 : decode cX4_hasBounds 13 = .ok (.aload_n 0, 1) := by decide +kernel
theorem dX4_hasBounds_14 : decode cX4_hasBounds 14 = .ok (.iload_n 1, 1) := by decide +kernel
theorem dX4_hasBounds_15 : decode cX4_hasBounds 15 = .ok (.aload_n 0, 1) := by decide +kernel
theorem dX4_hasBounds_16 : decode cX4_hasBounds 16 = .ok (.getfield 118, 3) := by decide +kernel
theorem dX4_hasBounds_19 : decode cX4_hasBounds 19 = .ok (.invokevirtual 170, 3) := by decide +kernel
theorem dX4_hasBounds_22 : decode cX4_hasBounds 22 = .ok (.ifCond .eq 7, 3) := by decide +kernel
theorem dX4_hasBounds_25 : decode cX4_hasBounds 25 = .ok (.iconst 1, 1) := by decide +kernel
theorem dX4_hasBounds_26 : decode cX4_hasBounds 26 = .ok (.goto 4, 3) := by decide +kernel
theorem dX4_hasBounds_29 : decode cX4_hasBounds 29 = .ok (.iconst 0, 1) := by decide +kernel
theorem dX4_hasBounds_30 : decode cX4_hasBounds 30 = .ok (.ireturn, 1) := by decide +kernel
set_option maxRecDepth 20000 in
theorem ggX4_light_X4_net : GoodIn wsX4_light wsX4_net := goodIn_r _ [6, 7, 8, 9, 10, 5, 11, 12, 13, 14, 15, 16, 17, 18, 19, 20, 21, 22, 23, 24, 25, 26, 27, 28, 29, 30, 31, 32, 33, 34, 35, 36, 37, 38, 39, 40, 41, 42, 43, 44, 45, 46, 47, 48, 49, 50, 51, 52, 53, 54, 55, 56, 57, 58, 59, 60, 61, 62, 63, 64, 65, 66, 67, 68] (by decide +kernel) (by decide +kernel)
set_option maxRecDepth 20000 in
theorem gX4_light_X4_net : GoodIn wsX4_light (wsV RX4 174 RX4 yX4_net wsX4_net) := goodIn_app (goodIn_of _ (by decide +kernel)) ggX4_light_X4_net
theorem dX4_light_0 : decode cX4_light 0 = .ok (.aload_n 0, 1) := by decide +kernel
theorem dX4_light_1 : decode cX4_light 1 = .ok (.iload_n 1, 1) := by decide +kernel
theorem dX4_light_2 : decode cX4_light 2 = .ok (.aload_n 0, 1) := by decide +kernel
theorem dX4_light_3 : decode cX4_light 3 = .ok (.getfield 118, 3) := by decide +kernel
theorem dX4_light_6 : decode cX4_light 6 = .ok (.lneg, 1) := by decide +kernel
theorem dX4_light_7 : decode cX4_light 7 = .ok (.invokevirtual 174, 3) := by decide +kernel
theorem dX4_light_10 : decode cX4_light 10 = .ok (.lstore_n 2, 1) := by decide +kernel
theorem dX4_light_11 : decode cX4_light 11 = .ok (.aload_n 0, 1) := by decide +kernel
