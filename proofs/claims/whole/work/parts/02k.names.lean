theorem dX4_digest_128 : decode cX4_digest 128 = .ok (.aload_n 0, 1) := by decide +kernel
theorem dX4_digest_129 : decode cX4_digest 129 = .ok (.getfield 47, 3) := by decide +kernel
theorem dX4_digest_132 : decode cX4_digest 132 = .ok (.if_icmp .ge 20, 3) := by decide +kernel
theorem dX4_digest_135 : decode cX4_digest 135 = .ok (.aload_n 0, 1) := by decide +kernel
theorem dX4_digest_136 : decode cX4_digest 136 = .ok (.aload_n 0, 1) := by decide +kernel
theorem dX4_digest_137 : decode cX4_digest 137 = .ok (.getfield 7, 3) := by decide +kernel
theorem dX4_digest_140 : decode cX4_digest 140 = .ok (.iload_n 1, 1) := by decide +kernel
theorem dX4_digest_141 : decode cX4_digest 141 = .ok (.iaload, 1) := by decide +kernel
theorem dX4_digest_142 : decode cX4_digest 142 = .ok (.i2l, 1) := by decide +kernel
theorem dX4_digest_143 : decode cX4_digest 143 = .ok (.invokevirtual 218, 3) := by decide +kernel
theorem dX4_digest_146 : decode cX4_digest 146 = .ok (.iinc 1 1, 3) := by decide +kernel
theorem dX4_digest_149 : decode cX4_digest 149 = .ok (.goto (-22), 3) := by decide +kernel
theorem dX4_digest_152 : decode cX4_digest 152 = .ok (.aload_n 0, 1) := by decide +kernel
theorem dX4_digest_153 : decode cX4_digest 153 = .ok (.getfield 215, 3) := by decide +kernel
theorem dX4_digest_156 : decode cX4_digest 156 = .ok (.lreturn, 1) := by decide +kernel
theorem dJ9_floorDiv_f86c9_0 : decode cJ9_floorDiv_f86c9 0 = .ok (.lload_n 0, 1) := by decide +kernel
theorem dJ9_floorDiv_f86c9_1 : decode cJ9_floorDiv_f86c9 1 = .ok (.lload_n 2, 1) := by decide +kernel
theorem dJ9_floorDiv_f86c9_2 : decode cJ9_floorDiv_f86c9 2 = .ok (.ldiv, 1) := by decide +kernel
theorem dJ9_floorDiv_f86c9_3 : decode cJ9_floorDiv_f86c9 3 = .ok (.lstore 4, 2) := by decide +kernel
theorem dJ9_floorDiv_f86c9_5 : decode cJ9_floorDiv_f86c9 5 = .ok (.lload_n 0, 1) := by decide +kernel
theorem dJ9_floorDiv_f86c9_6 : decode cJ9_floorDiv_f86c9 6 = .ok (.lload_n 2, 1) := by decide +kernel
theorem dJ9_floorDiv_f86c9_7 : decode cJ9_floorDiv_f86c9 7 = .ok (.lxor, 1) := by decide +kernel
theorem dJ9_floorDiv_f86c9_8 : decode cJ9_floorDiv_f86c9 8 = .ok (.lconst 0, 1) := by decide +kernel
theorem dJ9_floorDiv_f86c9_9 : decode cJ9_floorDiv_f86c9 9 = .ok (.lcmp, 1) := by decide +kernel
theorem dJ9_floorDiv_f86c9_10 : decode cJ9_floorDiv_f86c9 10 = .ok (.ifCond .ge 17, 3) := by decide +kernel
theorem dJ9_floorDiv_f86c9_13 : decode cJ9_floorDiv_f86c9 13 = .ok (.lload 4, 2) := by decide +kernel
theorem dJ9_floorDiv_f86c9_15 : decode cJ9_floorDiv_f86c9 15 = .ok (.lload_n 2, 1) := by decide +kernel
theorem dJ9_floorDiv_f86c9_16 : decode cJ9_floorDiv_f86c9 16 = .ok (.lmul, 1) := by decide +kernel
theorem dJ9_floorDiv_f86c9_17 : decode cJ9_floorDiv_f86c9 17 = .ok (.lload_n 0, 1) := by decide +kernel
theorem dJ9_floorDiv_f86c9_18 : decode cJ9_floorDiv_f86c9 18 = .ok (.lcmp, 1) := by decide +kernel
theorem dJ9_floorDiv_f86c9_19 : decode cJ9_floorDiv_f86c9 19 = .ok (.ifCond .eq 8, 3) := by decide +kernel
theorem dJ9_floorDiv_f86c9_22 : decode cJ9_floorDiv_f86c9 22 = .ok (.lload 4, 2) := by decide +kernel
theorem dJ9_floorDiv_f86c9_24 : decode cJ9_floorDiv_f86c9 24 = .ok (.lconst 1, 1) := by decide +kernel
theorem dJ9_floorDiv_f86c9_25 : decode cJ9_floorDiv_f86c9 25 = .ok (.lsub, 1) := by decide +kernel
theorem dJ9_floorDiv_f86c9_26 : decode cJ9_floorDiv_f86c9 26 = .ok (.lreturn, 1) := by decide +kernel
theorem dJ9_floorDiv_f86c9_27 : decode cJ9_floorDiv_f86c9 27 = .ok (.lload 4, 2) := by decide +kernel
theorem dJ9_floorDiv_f86c9_29 : decode cJ9_floorDiv_f86c9 29 = .ok (.lreturn, 1) := by decide +kernel
theorem dJ9_max_f86c9_0 : decode cJ9_max_f86c9 0 = .ok (.lload_n 0, 1) := by decide +kernel
theorem dJ9_max_f86c9_1 : decode cJ9_max_f86c9 1 = .ok (.lload_n 2, 1) := by decide +kernel
theorem dJ9_max_f86c9_2 : decode cJ9_max_f86c9 2 = .ok (.lcmp, 1) := by decide +kernel
theorem dJ9_max_f86c9_3 : decode cJ9_max_f86c9 3 = .ok (.ifCond .lt 7, 3) := by decide +kernel
theorem dJ9_max_f86c9_6 : decode cJ9_max_f86c9 6 = .ok (.lload_n 0, 1) := by decide +kernel
theorem dJ9_max_f86c9_7 : decode cJ9_max_f86c9 7 = .ok (.goto 4, 3) := by decide +kernel
theorem dJ9_max_f86c9_10 : decode cJ9_max_f86c9 10 = .ok (.lload_n 2, 1) := by decide +kernel
theorem dJ9_max_f86c9_11 : decode cJ9_max_f86c9 11 = .ok (.lreturn, 1) := by decide +kernel
theorem dJ9_min_f86c9_0 : decode cJ9_min_f86c9 0 = .ok (.lload_n 0, 1) := by decide +kernel
theorem dJ9_min_f86c9_1 : decode cJ9_min_f86c9 1 = .ok (.lload_n 2, 1) := by decide +kernel
theorem dJ9_min_f86c9_2 : decode cJ9_min_f86c9 2 = .ok (.lcmp, 1) := by decide +kernel
theorem dJ9_min_f86c9_3 : decode cJ9_min_f86c9 3 = .ok (.ifCond .gt 7, 3) := by decide +kernel
theorem dJ9_min_f86c9_6 : decode cJ9_min_f86c9 6 = .ok (.lload_n 0, 1) := by decide +kernel
theorem dJ9_min_f86c9_7 : decode cJ9_min_f86c9 7 = .ok (.goto 4, 3) := by decide +kernel
theorem dJ9_min_f86c9_10 : decode cJ9_min_f86c9 10 = .ok (.lload_n 2, 1) := by decide +kernel
theorem dJ9_min_f86c9_11 : decode cJ9_min_f86c9 11 = .ok (.lreturn, 1) := by decide +kernel
set_option maxRecDepth 20000 in
theorem ggL_law_X3_init : GoodIn wsL_law wsX3_init := goodIn_r _ [8, 9, 10, 11, 12, 13, 14, 15, 16, 17, 18, 19, 20, 21, 22, 23, 24, 25, 26, 27, 28, 29, 30, 31, 32, 33, 34, 35, 36, 37, 38, 39, 40, 41, 42, 43, 44, 45, 657, 658, 659, 660, 661, 662, 663, 677, 678, 679, 680, 681, 682, 683, 684, 685, 686] (by decide +kernel) (by decide +kernel)
set_option maxRecDepth 20000 in
theorem gL_law_X3_init : GoodIn wsL_law (wsX3_init) := ggL_law_X3_init
set_option maxRecDepth 20000 in
theorem ggL_law_X4_init : GoodIn wsL_law wsX4_init := goodIn_r _ [48, 49, 10, 11, 12, 50, 33, 51, 52, 53, 54, 55, 56, 57, 58, 664, 665, 666, 667, 668, 669, 670, 671, 672, 673, 674, 675, 676] (by decide +kernel) (by decide +kernel)
set_option maxRecDepth 20000 in
theorem gL_law_X4_init : GoodIn wsL_law (wsX4_init) := ggL_law_X4_init
set_option maxRecDepth 20000 in
theorem ggL_law_X3_append : GoodIn wsL_law wsX3_append := goodIn_r _ [62, 63, 14, 64, 13, 657, 658, 659, 660, 661, 662, 663] (by decide +kernel) (by decide +kernel)
set_option maxRecDepth 20000 in
theorem gL_law_X3_append : GoodIn wsL_law (wsV RL 13 RX3 yX3_append wsX3_append) := goodIn_app (goodIn_of _ (by decide +kernel)) ggL_law_X3_append
set_option maxRecDepth 20000 in
theorem ggL_law_X4_append : GoodIn wsL_law wsX4_append := goodIn_r _ [68, 69, 70, 71, 72, 73, 50, 74, 75, 5, 76, 664, 665, 666, 667, 668, 669, 670, 671, 672, 673, 674, 675, 676] (by decide +kernel) (by decide +kernel)
set_option maxRecDepth 20000 in
theorem gL_law_X4_append : GoodIn wsL_law (wsV RL 17 RX4 yX4_append wsX4_append) := goodIn_app (goodIn_of _ (by decide +kernel)) ggL_law_X4_append
set_option maxRecDepth 20000 in
theorem ggL_law_X3_clearBuffer : GoodIn wsL_law wsX3_clearBuffer := goodIn_r _ [80, 14, 657, 658, 659, 660, 661, 662, 663] (by decide +kernel) (by decide +kernel)
set_option maxRecDepth 20000 in
theorem gL_law_X3_clearBuffer : GoodIn wsL_law (wsV RL 18 RX3 yX3_clearBuffer wsX3_clearBuffer) := goodIn_app (goodIn_of _ (by decide +kernel)) ggL_law_X3_clearBuffer
set_option maxRecDepth 20000 in
theorem ggL_law_X4_clearBuffer : GoodIn wsL_law wsX4_clearBuffer := goodIn_r _ [84, 72, 664, 665, 666, 667, 668, 669, 670, 671, 672, 673, 674, 675, 676] (by decide +kernel) (by decide +kernel)
set_option maxRecDepth 20000 in
theorem gL_law_X4_clearBuffer : GoodIn wsL_law (wsV RL 22 RX4 yX4_clearBuffer wsX4_clearBuffer) := goodIn_app (goodIn_of _ (by decide +kernel)) ggL_law_X4_clearBuffer
set_option maxRecDepth 20000 in
theorem ggL_law_X3_errorPosition : GoodIn wsL_law wsX3_errorPosition := goodIn_r _ [88, 89, 90, 91, 2, 92, 18, 14, 13, 93, 94, 95, 17, 96, 97, 98, 99, 100, 101, 102, 103, 104, 105, 106, 107, 108, 109, 110, 111, 112, 113, 114, 115, 116, 117, 118, 119, 120, 121, 34, 657, 658, 659, 660, 661, 662, 663, 677, 678, 679, 680, 681] (by decide +kernel) (by decide +kernel)
set_option maxRecDepth 20000 in
theorem gL_law_X3_errorPosition : GoodIn wsL_law (wsV RL 23 RX3 yX3_errorPosition wsX3_errorPosition) := goodIn_app (goodIn_of _ (by decide +kernel)) ggL_law_X3_errorPosition
set_option maxRecDepth 20000 in
theorem ggL_law_X4_errorPosition : GoodIn wsL_law wsX4_errorPosition := goodIn_r _ [125, 126, 127, 128, 129, 5, 130, 72, 50, 131, 132, 133, 57, 134, 74, 75, 76, 135, 136, 137, 138, 139, 140, 141, 142, 664, 665, 666, 667, 668, 669, 670, 671, 672, 673, 674, 675, 676] (by decide +kernel) (by decide +kernel)
set_option maxRecDepth 20000 in
theorem gL_law_X4_errorPosition : GoodIn wsL_law (wsV RL 26 RX4 yX4_errorPosition wsX4_errorPosition) := goodIn_app (goodIn_of _ (by decide +kernel)) ggL_law_X4_errorPosition
set_option maxRecDepth 20000 in
theorem ggL_law_X3_addRow : GoodIn wsL_law wsX3_addRow := goodIn_r _ [146, 14, 18, 147, 22, 64, 148, 89, 90, 91, 2, 92, 13, 93, 94, 95, 17, 96, 97, 98, 99, 100, 101, 102, 103, 104, 105, 106, 107, 108, 109, 110, 111, 112, 113, 114, 115, 116, 117, 118, 119, 120, 121, 34, 149, 150, 151, 152, 153, 154, 155, 21, 156, 157, 158, 159, 160, 161, 162, 163, 164, 165, 166, 167, 168, 169, 170, 171, 172, 173, 38, 174, 175, 176, 177, 178, 657, 658, 659, 660, 661, 662, 663, 682, 683, 677, 678, 679, 680, 681] (by decide +kernel) (by decide +kernel)
set_option maxRecDepth 20000 in
theorem gL_law_X3_addRow : GoodIn wsL_law (wsV RL 27 RX3 yX3_addRow wsX3_addRow) := goodIn_app (goodIn_of _ (by decide +kernel)) ggL_law_X3_addRow
set_option maxRecDepth 20000 in
theorem ggL_law_X4_addRow : GoodIn wsL_law wsX4_addRow := goodIn_r _ [182, 134, 183, 184, 73, 57, 185, 51, 72, 127, 128, 129, 5, 130, 126, 50, 131, 132, 133, 74, 75, 76, 135, 136, 137, 138, 139, 140, 141, 142, 186, 187, 188, 189, 664, 665, 666, 667, 668, 669, 670, 671, 672, 673, 674, 675, 676] (by decide +kernel) (by decide +kernel)
set_option maxRecDepth 20000 in
theorem gL_law_X4_addRow : GoodIn wsL_law (wsV RL 30 RX4 yX4_addRow wsX4_addRow) := goodIn_app (goodIn_of _ (by decide +kernel)) ggL_law_X4_addRow
set_option maxRecDepth 20000 in
theorem ggL_law_X3_clearTable : GoodIn wsL_law wsX3_clearTable := goodIn_r _ [193, 22, 657, 658, 659, 660, 661, 662, 663, 682, 683] (by decide +kernel) (by decide +kernel)
set_option maxRecDepth 20000 in
theorem gL_law_X3_clearTable : GoodIn wsL_law (wsV RL 31 RX3 yX3_clearTable wsX3_clearTable) := goodIn_app (goodIn_of _ (by decide +kernel)) ggL_law_X3_clearTable
set_option maxRecDepth 20000 in
theorem ggL_law_X4_clearTable : GoodIn wsL_law wsX4_clearTable := goodIn_r _ [197, 184, 664, 665, 666, 667, 668, 669, 670, 671, 672, 673, 674, 675, 676] (by decide +kernel) (by decide +kernel)
set_option maxRecDepth 20000 in
theorem gL_law_X4_clearTable : GoodIn wsL_law (wsV RL 34 RX4 yX4_clearTable wsX4_clearTable) := goodIn_app (goodIn_of _ (by decide +kernel)) ggL_law_X4_clearTable
set_option maxRecDepth 20000 in
theorem ggL_law_X3_rowDraft : GoodIn wsL_law wsX3_rowDraft := goodIn_r _ [201, 22, 202, 203, 171, 172, 21, 173, 157, 38, 657, 658, 659, 660, 661, 662, 663, 682, 683] (by decide +kernel) (by decide +kernel)
set_option maxRecDepth 20000 in
theorem gL_law_X3_rowDraft : GoodIn wsL_law (wsV RL 35 RX3 yX3_rowDraft wsX3_rowDraft) := goodIn_app (goodIn_of _ (by decide +kernel)) ggL_law_X3_rowDraft
set_option maxRecDepth 20000 in
theorem ggL_law_X4_rowDraft : GoodIn wsL_law wsX4_rowDraft := goodIn_r _ [207, 184, 208, 74, 75, 5, 76, 186, 187, 188, 189, 51, 664, 665, 666, 667, 668, 669, 670, 671, 672, 673, 674, 675, 676] (by decide +kernel) (by decide +kernel)
set_option maxRecDepth 20000 in
theorem gL_law_X4_rowDraft : GoodIn wsL_law (wsV RL 38 RX4 yX4_rowDraft wsX4_rowDraft) := goodIn_app (goodIn_of _ (by decide +kernel)) ggL_law_X4_rowDraft
set_option maxRecDepth 20000 in
theorem ggL_law_X3_tableValue : GoodIn wsL_law wsX3_tableValue := goodIn_r _ [212, 202, 22, 213, 214, 215, 21, 216, 157, 217, 170, 171, 172, 173, 38, 218, 219, 220, 221, 657, 658, 659, 660, 661, 662, 663, 682, 683] (by decide +kernel) (by decide +kernel)
set_option maxRecDepth 20000 in
theorem gL_law_X3_tableValue : GoodIn wsL_law (wsV RL 39 RX3 yX3_tableValue wsX3_tableValue) := goodIn_app (goodIn_of _ (by decide +kernel)) ggL_law_X3_tableValue
set_option maxRecDepth 20000 in
theorem ggL_law_X4_tableValue : GoodIn wsL_law wsX4_tableValue := goodIn_r _ [225, 226, 208, 227, 74, 75, 5, 76, 228, 229, 230, 231, 184, 186, 187, 188, 189, 51, 232, 233, 234, 235, 236, 237, 238, 664, 665, 666, 667, 668, 669, 670, 671, 672, 673, 674, 675, 676] (by decide +kernel) (by decide +kernel)
set_option maxRecDepth 20000 in
theorem gL_law_X4_tableValue : GoodIn wsL_law (wsV RL 43 RX4 yX4_tableValue wsX4_tableValue) := goodIn_app (goodIn_of _ (by decide +kernel)) ggL_law_X4_tableValue
set_option maxRecDepth 20000 in
theorem ggL_law_X3_setLength : GoodIn wsL_law wsX3_setLength := goodIn_r _ [242, 243, 63, 28, 657, 658, 659, 660, 661, 662, 663] (by decide +kernel) (by decide +kernel)
set_option maxRecDepth 20000 in
theorem gL_law_X3_setLength : GoodIn wsL_law (wsV RL 44 RX3 yX3_setLength wsX3_setLength) := goodIn_app (goodIn_of _ (by decide +kernel)) ggL_law_X3_setLength
set_option maxRecDepth 20000 in
theorem ggL_law_X4_setLength : GoodIn wsL_law wsX4_setLength := goodIn_r _ [247, 248, 249, 71, 56, 74, 75, 5, 76, 664, 665, 666, 667, 668, 669, 670, 671, 672, 673, 674, 675, 676] (by decide +kernel) (by decide +kernel)
set_option maxRecDepth 20000 in
theorem gL_law_X4_setLength : GoodIn wsL_law (wsV RL 47 RX4 yX4_setLength wsX4_setLength) := goodIn_app (goodIn_of _ (by decide +kernel)) ggL_law_X4_setLength
set_option maxRecDepth 20000 in
theorem ggL_law_X3_setMargin : GoodIn wsL_law wsX3_setMargin := goodIn_r _ [253, 63, 29, 657, 658, 659, 660, 661, 662, 663] (by decide +kernel) (by decide +kernel)
set_option maxRecDepth 20000 in
theorem gL_law_X3_setMargin : GoodIn wsL_law (wsV RL 48 RX3 yX3_setMargin wsX3_setMargin) := goodIn_app (goodIn_of _ (by decide +kernel)) ggL_law_X3_setMargin
set_option maxRecDepth 20000 in
theorem ggL_law_X4_setMargin : GoodIn wsL_law wsX4_setMargin := goodIn_r _ [257, 258, 71, 259, 74, 75, 5, 76, 664, 665, 666, 667, 668, 669, 670, 671, 672, 673, 674, 675, 676] (by decide +kernel) (by decide +kernel)
set_option maxRecDepth 20000 in
theorem gL_law_X4_setMargin : GoodIn wsL_law (wsV RL 51 RX4 yX4_setMargin wsX4_setMargin) := goodIn_app (goodIn_of _ (by decide +kernel)) ggL_law_X4_setMargin
set_option maxRecDepth 20000 in
theorem ggL_law_X3_setReading : GoodIn wsL_law wsX3_setReading := goodIn_r _ [263, 264, 202, 63, 265, 266, 267, 2, 268, 24, 684, 685, 686, 657, 658, 659, 660, 661, 662, 663] (by decide +kernel) (by decide +kernel)
set_option maxRecDepth 20000 in
theorem gL_law_X3_setReading : GoodIn wsL_law (wsV RL 52 RX3 yX3_setReading wsX3_setReading) := goodIn_app (goodIn_of _ (by decide +kernel)) ggL_law_X3_setReading
set_option maxRecDepth 20000 in
theorem ggL_law_X4_setReading : GoodIn wsL_law wsX4_setReading := goodIn_r _ [272, 273, 274, 208, 138, 71, 52, 275, 276, 5, 277, 226, 74, 75, 76, 664, 665, 666, 667, 668, 669, 670, 671, 672, 673, 674, 675, 676] (by decide +kernel) (by decide +kernel)
set_option maxRecDepth 20000 in
theorem gL_law_X4_setReading : GoodIn wsL_law (wsV RL 56 RX4 yX4_setReading wsX4_setReading) := goodIn_app (goodIn_of _ (by decide +kernel)) ggL_law_X4_setReading
set_option maxRecDepth 20000 in
theorem ggL_law_X3_reading : GoodIn wsL_law wsX3_reading := goodIn_r _ [281, 264, 202, 265, 266, 267, 2, 268, 24, 684, 685, 686, 657, 658, 659, 660, 661, 662, 663] (by decide +kernel) (by decide +kernel)
set_option maxRecDepth 20000 in
theorem gL_law_X3_reading : GoodIn wsL_law (wsV RL 57 RX3 yX3_reading wsX3_reading) := goodIn_app (goodIn_of _ (by decide +kernel)) ggL_law_X3_reading
set_option maxRecDepth 20000 in
theorem ggL_law_X4_reading : GoodIn wsL_law wsX4_reading := goodIn_r _ [285, 273, 274, 52, 208, 275, 276, 5, 277, 226, 74, 75, 76, 664, 665, 666, 667, 668, 669, 670, 671, 672, 673, 674, 675, 676] (by decide +kernel) (by decide +kernel)
set_option maxRecDepth 20000 in
theorem gL_law_X4_reading : GoodIn wsL_law (wsV RL 60 RX4 yX4_reading wsX4_reading) := goodIn_app (goodIn_of _ (by decide +kernel)) ggL_law_X4_reading
set_option maxRecDepth 20000 in
theorem ggL_law_X3_setDensity : GoodIn wsL_law wsX3_setDensity := goodIn_r _ [289, 264, 63, 265, 266, 267, 2, 268, 24, 684, 685, 686, 657, 658, 659, 660, 661, 662, 663] (by decide +kernel) (by decide +kernel)
set_option maxRecDepth 20000 in
theorem gL_law_X3_setDensity : GoodIn wsL_law (wsV RL 61 RX3 yX3_setDensity wsX3_setDensity) := goodIn_app (goodIn_of _ (by decide +kernel)) ggL_law_X3_setDensity
set_option maxRecDepth 20000 in
theorem ggL_law_X4_setDensity : GoodIn wsL_law wsX4_setDensity := goodIn_r _ [293, 273, 294, 295, 71, 53, 275, 276, 5, 277, 226, 74, 75, 76, 664, 665, 666, 667, 668, 669, 670, 671, 672, 673, 674, 675, 676] (by decide +kernel) (by decide +kernel)
set_option maxRecDepth 20000 in
theorem gL_law_X4_setDensity : GoodIn wsL_law (wsV RL 64 RX4 yX4_setDensity wsX4_setDensity) := goodIn_app (goodIn_of _ (by decide +kernel)) ggL_law_X4_setDensity
set_option maxRecDepth 20000 in
theorem ggL_law_X3_setDeduction : GoodIn wsL_law wsX3_setDeduction := goodIn_r _ [299, 264, 202, 300, 63, 265, 266, 267, 2, 268, 24, 684, 685, 686, 657, 658, 659, 660, 661, 662, 663] (by decide +kernel) (by decide +kernel)
set_option maxRecDepth 20000 in
theorem gL_law_X3_setDeduction : GoodIn wsL_law (wsV RL 65 RX3 yX3_setDeduction wsX3_setDeduction) := goodIn_app (goodIn_of _ (by decide +kernel)) ggL_law_X3_setDeduction
set_option maxRecDepth 20000 in
theorem ggL_law_X4_setDeduction : GoodIn wsL_law wsX4_setDeduction := goodIn_r _ [304, 273, 226, 208, 139, 71, 54, 275, 276, 5, 277, 74, 75, 76, 664, 665, 666, 667, 668, 669, 670, 671, 672, 673, 674, 675, 676] (by decide +kernel) (by decide +kernel)
set_option maxRecDepth 20000 in
theorem gL_law_X4_setDeduction : GoodIn wsL_law (wsV RL 68 RX4 yX4_setDeduction wsX4_setDeduction) := goodIn_app (goodIn_of _ (by decide +kernel)) ggL_law_X4_setDeduction
set_option maxRecDepth 20000 in
theorem ggL_law_X3_trim : GoodIn wsL_law wsX3_trim := goodIn_r _ [308, 264, 265, 266, 267, 2, 268, 24, 309, 310, 311, 26, 312, 313, 314, 315, 316, 42, 317, 318, 219, 220, 221, 319, 320, 321, 322, 657, 658, 659, 660, 661, 662, 663, 684, 685, 686] (by decide +kernel) (by decide +kernel)
set_option maxRecDepth 20000 in
theorem gL_law_X3_trim : GoodIn wsL_law (wsV RL 69 RX3 yX3_trim wsX3_trim) := goodIn_app (goodIn_of _ (by decide +kernel)) ggL_law_X3_trim
set_option maxRecDepth 20000 in
theorem ggL_law_X4_trim : GoodIn wsL_law wsX4_trim := goodIn_r _ [326, 273, 275, 276, 5, 277, 226, 74, 75, 76, 327, 328, 329, 330, 331, 332, 333, 334, 52, 335, 236, 237, 238, 664, 665, 666, 667, 668, 669, 670, 671, 672, 673, 674, 675, 676] (by decide +kernel) (by decide +kernel)
set_option maxRecDepth 20000 in
theorem gL_law_X4_trim : GoodIn wsL_law (wsV RL 72 RX4 yX4_trim wsX4_trim) := goodIn_app (goodIn_of _ (by decide +kernel)) ggL_law_X4_trim
set_option maxRecDepth 20000 in
theorem ggL_law_X3_deflection : GoodIn wsL_law wsX3_deflection := goodIn_r _ [339, 264, 265, 266, 267, 2, 268, 24, 340, 341, 342, 26, 343, 317, 344, 345, 346, 347, 42, 318, 219, 220, 221, 319, 320, 321, 322, 313, 314, 315, 316, 657, 658, 659, 660, 661, 662, 663, 684, 685, 686] (by decide +kernel) (by decide +kernel)
set_option maxRecDepth 20000 in
theorem gL_law_X3_deflection : GoodIn wsL_law (wsV RL 73 RX3 yX3_deflection wsX3_deflection) := goodIn_app (goodIn_of _ (by decide +kernel)) ggL_law_X3_deflection
set_option maxRecDepth 20000 in
theorem ggL_law_X4_deflection : GoodIn wsL_law wsX4_deflection := goodIn_r _ [351, 273, 275, 276, 5, 277, 226, 74, 75, 76, 352, 353, 354, 355, 335, 331, 332, 333, 334, 52, 236, 237, 238, 664, 665, 666, 667, 668, 669, 670, 671, 672, 673, 674, 675, 676] (by decide +kernel) (by decide +kernel)
set_option maxRecDepth 20000 in
theorem gL_law_X4_deflection : GoodIn wsL_law (wsV RL 76 RX4 yX4_deflection wsX4_deflection) := goodIn_app (goodIn_of _ (by decide +kernel)) ggL_law_X4_deflection
set_option maxRecDepth 20000 in
theorem ggL_law_X3_heel : GoodIn wsL_law wsX3_heel := goodIn_r _ [359, 264, 265, 266, 267, 2, 268, 24, 360, 361, 362, 26, 363, 42, 657, 658, 659, 660, 661, 662, 663, 684, 685, 686] (by decide +kernel) (by decide +kernel)
set_option maxRecDepth 20000 in
theorem gL_law_X3_heel : GoodIn wsL_law (wsV RL 77 RX3 yX3_heel wsX3_heel) := goodIn_app (goodIn_of _ (by decide +kernel)) ggL_law_X3_heel
set_option maxRecDepth 20000 in
theorem ggL_law_X4_heel : GoodIn wsL_law wsX4_heel := goodIn_r _ [367, 273, 275, 276, 5, 277, 226, 74, 75, 76, 368, 369, 370, 371, 52, 664, 665, 666, 667, 668, 669, 670, 671, 672, 673, 674, 675, 676] (by decide +kernel) (by decide +kernel)
set_option maxRecDepth 20000 in
theorem gL_law_X4_heel : GoodIn wsL_law (wsV RL 80 RX4 yX4_heel wsX4_heel) := goodIn_app (goodIn_of _ (by decide +kernel)) ggL_law_X4_heel
set_option maxRecDepth 20000 in
theorem ggL_law_X3_quarterMean : GoodIn wsL_law wsX3_quarterMean := goodIn_r _ [375, 264, 265, 266, 267, 2, 268, 24, 376, 377, 378, 26, 379, 380, 381, 319, 320, 321, 322, 42, 317, 318, 219, 220, 221, 344, 345, 346, 347, 313, 314, 315, 316, 657, 658, 659, 660, 661, 662, 663, 684, 685, 686] (by decide +kernel) (by decide +kernel)
set_option maxRecDepth 20000 in
theorem gL_law_X3_quarterMean : GoodIn wsL_law (wsV RL 81 RX3 yX3_quarterMean wsX3_quarterMean) := goodIn_app (goodIn_of _ (by decide +kernel)) ggL_law_X3_quarterMean
set_option maxRecDepth 20000 in
theorem ggL_law_X4_quarterMean : GoodIn wsL_law wsX4_quarterMean := goodIn_r _ [385, 273, 275, 276, 5, 277, 226, 74, 75, 76, 386, 387, 388, 389, 390, 391, 331, 332, 333, 334, 52, 335, 236, 237, 238, 664, 665, 666, 667, 668, 669, 670, 671, 672, 673, 674, 675, 676] (by decide +kernel) (by decide +kernel)
set_option maxRecDepth 20000 in
theorem gL_law_X4_quarterMean : GoodIn wsL_law (wsV RL 84 RX4 yX4_quarterMean wsX4_quarterMean) := goodIn_app (goodIn_of _ (by decide +kernel)) ggL_law_X4_quarterMean
set_option maxRecDepth 20000 in
theorem ggL_law_X3_firstCorrection : GoodIn wsL_law wsX3_firstCorrection := goodIn_r _ [395, 264, 396, 265, 266, 267, 2, 268, 24, 397, 398, 399, 400, 22, 376, 377, 378, 26, 379, 380, 381, 319, 320, 321, 322, 42, 317, 318, 219, 220, 221, 344, 345, 346, 347, 313, 314, 315, 316, 401, 402, 403, 21, 404, 157, 405, 406, 407, 408, 170, 171, 172, 173, 38, 166, 167, 168, 169, 309, 310, 311, 312, 409, 410, 411, 412, 413, 28, 213, 214, 215, 216, 217, 218, 414, 415, 416, 417, 657, 658, 659, 660, 661, 662, 663, 684, 685, 686, 682, 683] (by decide +kernel) (by decide +kernel)
set_option maxRecDepth 20000 in
theorem gL_law_X3_firstCorrection : GoodIn wsL_law (wsV RL 85 RX3 yX3_firstCorrection wsX3_firstCorrection) := goodIn_app (goodIn_of _ (by decide +kernel)) ggL_law_X3_firstCorrection
set_option maxRecDepth 20000 in
theorem ggL_law_X4_firstCorrection : GoodIn wsL_law wsX4_firstCorrection := goodIn_r _ [421, 273, 275, 276, 5, 277, 226, 74, 75, 76, 422, 423, 424, 425, 227, 426, 427, 428, 429, 386, 387, 388, 389, 390, 391, 331, 332, 333, 334, 52, 335, 236, 237, 238, 228, 229, 230, 231, 184, 186, 187, 188, 189, 51, 430, 431, 432, 433, 258, 56, 327, 328, 329, 330, 232, 233, 234, 235, 664, 665, 666, 667, 668, 669, 670, 671, 672, 673, 674, 675, 676] (by decide +kernel) (by decide +kernel)
set_option maxRecDepth 20000 in
theorem gL_law_X4_firstCorrection : GoodIn wsL_law (wsV RL 88 RX4 yX4_firstCorrection wsX4_firstCorrection) := goodIn_app (goodIn_of _ (by decide +kernel)) ggL_law_X4_firstCorrection
set_option maxRecDepth 20000 in
theorem ggL_law_X3_secondCorrection : GoodIn wsL_law wsX3_secondCorrection := goodIn_r _ [437, 264, 396, 265, 266, 267, 2, 268, 24, 397, 398, 399, 400, 22, 376, 377, 378, 26, 379, 380, 381, 319, 320, 321, 322, 42, 317, 318, 219, 220, 221, 344, 345, 346, 347, 313, 314, 315, 316, 401, 402, 403, 21, 404, 157, 405, 406, 407, 408, 170, 171, 172, 173, 38, 166, 167, 168, 169, 309, 310, 311, 312, 438, 439, 440, 441, 442, 443, 444, 445, 446, 447, 448, 449, 450, 451, 28, 452, 453, 213, 214, 215, 216, 217, 218, 414, 415, 416, 417, 657, 658, 659, 660, 661, 662, 663, 684, 685, 686, 682, 683] (by decide +kernel) (by decide +kernel)
set_option maxRecDepth 20000 in
theorem gL_law_X3_secondCorrection : GoodIn wsL_law (wsV RL 89 RX3 yX3_secondCorrection wsX3_secondCorrection) := goodIn_app (goodIn_of _ (by decide +kernel)) ggL_law_X3_secondCorrection
set_option maxRecDepth 20000 in
theorem ggL_law_X4_secondCorrection : GoodIn wsL_law wsX4_secondCorrection := goodIn_r _ [457, 273, 275, 276, 5, 277, 226, 74, 75, 76, 458, 459, 460, 461, 227, 426, 427, 428, 429, 386, 387, 388, 389, 390, 391, 331, 332, 333, 334, 52, 335, 236, 237, 238, 228, 229, 230, 231, 184, 186, 187, 188, 189, 51, 462, 463, 464, 465, 466, 467, 468, 56, 327, 328, 329, 330, 232, 233, 234, 235, 664, 665, 666, 667, 668, 669, 670, 671, 672, 673, 674, 675, 676] (by decide +kernel) (by decide +kernel)
set_option maxRecDepth 20000 in
theorem gL_law_X4_secondCorrection : GoodIn wsL_law (wsV RL 92 RX4 yX4_secondCorrection wsX4_secondCorrection) := goodIn_app (goodIn_of _ (by decide +kernel)) ggL_law_X4_secondCorrection
set_option maxRecDepth 20000 in
theorem ggL_law_X3_displacement : GoodIn wsL_law wsX3_displacement := goodIn_r _ [472, 264, 63, 396, 265, 266, 267, 2, 268, 24, 397, 398, 399, 400, 22, 376, 377, 378, 26, 379, 380, 381, 319, 320, 321, 322, 42, 317, 318, 219, 220, 221, 344, 345, 346, 347, 313, 314, 315, 316, 401, 402, 403, 21, 404, 157, 405, 406, 407, 408, 170, 171, 172, 173, 38, 166, 167, 168, 169, 473, 474, 475, 476, 477, 309, 310, 311, 312, 213, 214, 215, 216, 217, 218, 409, 410, 411, 412, 413, 28, 414, 415, 416, 417, 438, 439, 440, 441, 442, 443, 444, 445, 446, 447, 448, 449, 450, 451, 452, 453, 657, 658, 659, 660, 661, 662, 663, 684, 685, 686, 682, 683] (by decide +kernel) (by decide +kernel)
set_option maxRecDepth 20000 in
theorem gL_law_X3_displacement : GoodIn wsL_law (wsV RL 93 RX3 yX3_displacement wsX3_displacement) := goodIn_app (goodIn_of _ (by decide +kernel)) ggL_law_X3_displacement
set_option maxRecDepth 20000 in
theorem ggL_law_X4_displacement : GoodIn wsL_law wsX4_displacement := goodIn_r _ [481, 273, 482, 468, 71, 275, 276, 5, 277, 226, 74, 75, 76, 483, 484, 485, 486, 227, 426, 427, 428, 429, 386, 387, 388, 389, 390, 391, 331, 332, 333, 334, 52, 335, 236, 237, 238, 228, 229, 230, 231, 184, 186, 187, 188, 189, 51, 487, 488, 489, 490, 53, 58, 232, 233, 234, 235, 430, 431, 432, 433, 258, 56, 327, 328, 329, 330, 462, 463, 464, 465, 466, 467, 664, 665, 666, 667, 668, 669, 670, 671, 672, 673, 674, 675, 676] (by decide +kernel) (by decide +kernel)
set_option maxRecDepth 20000 in
theorem gL_law_X4_displacement : GoodIn wsL_law (wsV RL 96 RX4 yX4_displacement wsX4_displacement) := goodIn_app (goodIn_of _ (by decide +kernel)) ggL_law_X4_displacement
set_option maxRecDepth 20000 in
theorem ggL_law_X3_netWeight : GoodIn wsL_law wsX3_netWeight := goodIn_r _ [494, 264, 396, 265, 266, 267, 2, 268, 24, 397, 398, 399, 400, 22, 376, 377, 378, 26, 379, 380, 381, 319, 320, 321, 322, 42, 317, 318, 219, 220, 221, 344, 345, 346, 347, 313, 314, 315, 316, 401, 402, 403, 21, 404, 157, 405, 406, 407, 408, 170, 171, 172, 173, 38, 166, 167, 168, 169, 495, 496, 497, 498, 473, 474, 475, 476, 477, 309, 310, 311, 312, 213, 214, 215, 216, 217, 218, 409, 410, 411, 412, 413, 28, 414, 415, 416, 417, 438, 439, 440, 441, 442, 443, 444, 445, 446, 447, 448, 449, 450, 451, 452, 453, 499, 500, 501, 502, 43, 657, 658, 659, 660, 661, 662, 663, 684, 685, 686, 682, 683] (by decide +kernel) (by decide +kernel)
set_option maxRecDepth 20000 in
theorem gL_law_X3_netWeight : GoodIn wsL_law (wsV RL 97 RX3 yX3_netWeight wsX3_netWeight) := goodIn_app (goodIn_of _ (by decide +kernel)) ggL_law_X3_netWeight
set_option maxRecDepth 20000 in
theorem ggL_law_X4_netWeight : GoodIn wsL_law wsX4_netWeight := goodIn_r _ [506, 273, 275, 276, 5, 277, 226, 74, 75, 76, 507, 508, 509, 510, 227, 426, 427, 428, 429, 386, 387, 388, 389, 390, 391, 331, 332, 333, 334, 52, 335, 236, 237, 238, 228, 229, 230, 231, 184, 186, 187, 188, 189, 51, 511, 512, 513, 514, 54, 487, 488, 489, 490, 53, 58, 232, 233, 234, 235, 430, 431, 432, 433, 258, 56, 327, 328, 329, 330, 462, 463, 464, 465, 466, 467, 468, 664, 665, 666, 667, 668, 669, 670, 671, 672, 673, 674, 675, 676] (by decide +kernel) (by decide +kernel)
set_option maxRecDepth 20000 in
theorem gL_law_X4_netWeight : GoodIn wsL_law (wsV RL 100 RX4 yX4_netWeight wsX4_netWeight) := goodIn_app (goodIn_of _ (by decide +kernel)) ggL_law_X4_netWeight
set_option maxRecDepth 20000 in
theorem ggL_law_X3_cargo : GoodIn wsL_law wsX3_cargo := goodIn_r _ [518, 264, 396, 265, 266, 267, 2, 268, 24, 397, 398, 399, 400, 22, 376, 377, 378, 26, 379, 380, 381, 319, 320, 321, 322, 42, 317, 318, 219, 220, 221, 344, 345, 346, 347, 313, 314, 315, 316, 401, 402, 403, 21, 404, 157, 405, 406, 407, 408, 170, 171, 172, 173, 38, 166, 167, 168, 169, 495, 496, 497, 498, 473, 474, 475, 476, 477, 309, 310, 311, 312, 213, 214, 215, 216, 217, 218, 409, 410, 411, 412, 413, 28, 414, 415, 416, 417, 438, 439, 440, 441, 442, 443, 444, 445, 446, 447, 448, 449, 450, 451, 452, 453, 499, 500, 501, 502, 43, 657, 658, 659, 660, 661, 662, 663, 684, 685, 686, 682, 683] (by decide +kernel) (by decide +kernel)
set_option maxRecDepth 20000 in
theorem gL_law_X3_cargo : GoodIn wsL_law (wsV RL 101 RX3 yX3_cargo wsX3_cargo) := goodIn_app (goodIn_of _ (by decide +kernel)) ggL_law_X3_cargo
set_option maxRecDepth 20000 in
theorem ggL_law_X4_cargo : GoodIn wsL_law wsX4_cargo := goodIn_r _ [522, 273, 275, 276, 5, 277, 226, 74, 75, 76, 523, 524, 525, 526, 227, 426, 427, 428, 429, 386, 387, 388, 389, 390, 391, 331, 332, 333, 334, 52, 335, 236, 237, 238, 228, 229, 230, 231, 184, 186, 187, 188, 189, 51, 511, 512, 513, 514, 54, 487, 488, 489, 490, 53, 58, 232, 233, 234, 235, 430, 431, 432, 433, 258, 56, 327, 328, 329, 330, 462, 463, 464, 465, 466, 467, 468, 664, 665, 666, 667, 668, 669, 670, 671, 672, 673, 674, 675, 676] (by decide +kernel) (by decide +kernel)
set_option maxRecDepth 20000 in
theorem gL_law_X4_cargo : GoodIn wsL_law (wsV RL 104 RX4 yX4_cargo wsX4_cargo) := goodIn_app (goodIn_of _ (by decide +kernel)) ggL_law_X4_cargo
set_option maxRecDepth 20000 in
theorem ggL_law_X3_cargoLow : GoodIn wsL_law wsX3_cargoLow := goodIn_r _ [530, 264, 396, 265, 266, 267, 2, 268, 24, 531, 532, 533, 534, 29, 397, 398, 399, 400, 22, 376, 377, 378, 26, 379, 380, 381, 319, 320, 321, 322, 42, 317, 318, 219, 220, 221, 344, 345, 346, 347, 313, 314, 315, 316, 401, 402, 403, 21, 404, 157, 405, 406, 407, 408, 170, 171, 172, 173, 38, 166, 167, 168, 169, 535, 536, 537, 538, 447, 448, 445, 449, 495, 496, 497, 498, 473, 474, 475, 476, 477, 309, 310, 311, 312, 213, 214, 215, 216, 217, 218, 409, 410, 411, 412, 413, 28, 414, 415, 416, 417, 438, 439, 440, 441, 442, 443, 444, 446, 450, 451, 452, 453, 499, 500, 501, 502, 43, 539, 540, 541, 542, 657, 658, 659, 660, 661, 662, 663, 684, 685, 686, 682, 683] (by decide +kernel) (by decide +kernel)
set_option maxRecDepth 20000 in
theorem gL_law_X3_cargoLow : GoodIn wsL_law (wsV RL 105 RX3 yX3_cargoLow wsX3_cargoLow) := goodIn_app (goodIn_of _ (by decide +kernel)) ggL_law_X3_cargoLow
set_option maxRecDepth 20000 in
theorem ggL_law_X4_cargoLow : GoodIn wsL_law wsX4_cargoLow := goodIn_r _ [546, 273, 275, 276, 5, 277, 226, 74, 75, 76, 547, 548, 549, 550, 227, 551, 552, 553, 554, 259, 426, 427, 428, 429, 386, 387, 388, 389, 390, 391, 331, 332, 333, 334, 52, 335, 236, 237, 238, 228, 229, 230, 231, 184, 186, 187, 188, 189, 51, 555, 556, 557, 558, 511, 512, 513, 514, 54, 487, 488, 489, 490, 53, 58, 232, 233, 234, 235, 430, 431, 432, 433, 258, 56, 327, 328, 329, 330, 462, 463, 464, 465, 466, 467, 468, 559, 560, 561, 562, 664, 665, 666, 667, 668, 669, 670, 671, 672, 673, 674, 675, 676] (by decide +kernel) (by decide +kernel)
set_option maxRecDepth 20000 in
theorem gL_law_X4_cargoLow : GoodIn wsL_law (wsV RL 108 RX4 yX4_cargoLow wsX4_cargoLow) := goodIn_app (goodIn_of _ (by decide +kernel)) ggL_law_X4_cargoLow
set_option maxRecDepth 20000 in
theorem ggL_law_X3_cargoHigh : GoodIn wsL_law wsX3_cargoHigh := goodIn_r _ [566, 264, 396, 265, 266, 267, 2, 268, 24, 531, 532, 533, 534, 29, 397, 398, 399, 400, 22, 376, 377, 378, 26, 379, 380, 381, 319, 320, 321, 322, 42, 317, 318, 219, 220, 221, 344, 345, 346, 347, 313, 314, 315, 316, 401, 402, 403, 21, 404, 157, 405, 406, 407, 408, 170, 171, 172, 173, 38, 166, 167, 168, 169, 539, 540, 541, 542, 443, 444, 445, 446, 495, 496, 497, 498, 473, 474, 475, 476, 477, 309, 310, 311, 312, 213, 214, 215, 216, 217, 218, 409, 410, 411, 412, 413, 28, 414, 415, 416, 417, 438, 439, 440, 441, 442, 447, 448, 449, 450, 451, 452, 453, 499, 500, 501, 502, 43, 535, 536, 537, 538, 657, 658, 659, 660, 661, 662, 663, 684, 685, 686, 682, 683] (by decide +kernel) (by decide +kernel)
set_option maxRecDepth 20000 in
theorem gL_law_X3_cargoHigh : GoodIn wsL_law (wsV RL 109 RX3 yX3_cargoHigh wsX3_cargoHigh) := goodIn_app (goodIn_of _ (by decide +kernel)) ggL_law_X3_cargoHigh
set_option maxRecDepth 20000 in
theorem ggL_law_X4_cargoHigh : GoodIn wsL_law wsX4_cargoHigh := goodIn_r _ [570, 273, 275, 276, 5, 277, 226, 74, 75, 76, 571, 572, 573, 574, 227, 551, 552, 553, 554, 259, 426, 427, 428, 429, 386, 387, 388, 389, 390, 391, 331, 332, 333, 334, 52, 335, 236, 237, 238, 228, 229, 230, 231, 184, 186, 187, 188, 189, 51, 559, 560, 561, 562, 511, 512, 513, 514, 54, 487, 488, 489, 490, 53, 58, 232, 233, 234, 235, 430, 431, 432, 433, 258, 56, 327, 328, 329, 330, 462, 463, 464, 465, 466, 467, 468, 555, 556, 557, 558, 664, 665, 666, 667, 668, 669, 670, 671, 672, 673, 674, 675, 676] (by decide +kernel) (by decide +kernel)
set_option maxRecDepth 20000 in
theorem gL_law_X4_cargoHigh : GoodIn wsL_law (wsV RL 112 RX4 yX4_cargoHigh wsX4_cargoHigh) := goodIn_app (goodIn_of _ (by decide +kernel)) ggL_law_X4_cargoHigh
set_option maxRecDepth 20000 in
theorem ggL_law_X3_draftFor : GoodIn wsL_law wsX3_draftFor := goodIn_r _ [578, 22, 579, 580, 581, 21, 582, 157, 217, 170, 171, 172, 173, 38, 405, 406, 407, 408, 415, 2, 416, 417, 219, 220, 221, 657, 658, 659, 660, 661, 662, 663, 682, 683] (by decide +kernel) (by decide +kernel)
set_option maxRecDepth 20000 in
theorem gL_law_X3_draftFor : GoodIn wsL_law (wsV RL 113 RX3 yX3_draftFor wsX3_draftFor) := goodIn_app (goodIn_of _ (by decide +kernel)) ggL_law_X3_draftFor
set_option maxRecDepth 20000 in
theorem ggL_law_X4_draftFor : GoodIn wsL_law wsX4_draftFor := goodIn_r _ [586, 184, 227, 335, 186, 187, 188, 5, 189, 51, 232, 233, 234, 235, 236, 237, 238, 664, 665, 666, 667, 668, 669, 670, 671, 672, 673, 674, 675, 676] (by decide +kernel) (by decide +kernel)
set_option maxRecDepth 20000 in
theorem gL_law_X4_draftFor : GoodIn wsL_law (wsV RL 116 RX4 yX4_draftFor wsX4_draftFor) := goodIn_app (goodIn_of _ (by decide +kernel)) ggL_law_X4_draftFor
set_option maxRecDepth 20000 in
theorem ggL_law_X3_heaviest : GoodIn wsL_law wsX3_heaviest := goodIn_r _ [590, 396, 265, 266, 267, 2, 268, 24, 397, 398, 399, 400, 22, 376, 377, 378, 26, 379, 380, 381, 319, 320, 321, 322, 42, 317, 318, 219, 220, 221, 344, 345, 346, 347, 313, 314, 315, 316, 401, 402, 403, 21, 404, 157, 405, 406, 407, 408, 170, 171, 172, 173, 38, 166, 167, 168, 169, 495, 496, 497, 498, 473, 474, 475, 476, 477, 309, 310, 311, 312, 213, 214, 215, 216, 217, 218, 409, 410, 411, 412, 413, 28, 414, 415, 416, 417, 438, 439, 440, 441, 442, 443, 444, 445, 446, 447, 448, 449, 450, 451, 452, 453, 499, 500, 501, 502, 43, 657, 658, 659, 660, 661, 662, 663, 684, 685, 686, 682, 683] (by decide +kernel) (by decide +kernel)
set_option maxRecDepth 20000 in
theorem gL_law_X3_heaviest : GoodIn wsL_law (wsV RL 117 RX3 yX3_heaviest wsX3_heaviest) := goodIn_app (goodIn_of _ (by decide +kernel)) ggL_law_X3_heaviest
set_option maxRecDepth 20000 in
theorem ggL_law_X4_heaviest : GoodIn wsL_law wsX4_heaviest := goodIn_r _ [594, 595, 596, 597, 5, 598, 227, 426, 427, 428, 429, 386, 387, 388, 389, 390, 391, 331, 332, 333, 334, 52, 335, 236, 237, 238, 228, 229, 230, 231, 184, 186, 187, 188, 189, 51, 74, 75, 76, 511, 512, 513, 514, 54, 487, 488, 489, 490, 53, 58, 232, 233, 234, 235, 430, 431, 432, 433, 258, 56, 327, 328, 329, 330, 462, 463, 464, 465, 466, 467, 468, 664, 665, 666, 667, 668, 669, 670, 671, 672, 673, 674, 675, 676] (by decide +kernel) (by decide +kernel)
set_option maxRecDepth 20000 in
theorem gL_law_X4_heaviest : GoodIn wsL_law (wsV RL 120 RX4 yX4_heaviest wsX4_heaviest) := goodIn_app (goodIn_of _ (by decide +kernel)) ggL_law_X4_heaviest
set_option maxRecDepth 20000 in
theorem ggL_law_X3_rowCount : GoodIn wsL_law wsX3_rowCount := goodIn_r _ [602, 22, 657, 658, 659, 660, 661, 662, 663, 682, 683] (by decide +kernel) (by decide +kernel)
set_option maxRecDepth 20000 in
theorem gL_law_X3_rowCount : GoodIn wsL_law (wsV RL 121 RX3 yX3_rowCount wsX3_rowCount) := goodIn_app (goodIn_of _ (by decide +kernel)) ggL_law_X3_rowCount
set_option maxRecDepth 20000 in
theorem ggL_law_X4_rowCount : GoodIn wsL_law wsX4_rowCount := goodIn_r _ [606, 184, 664, 665, 666, 667, 668, 669, 670, 671, 672, 673, 674, 675, 676] (by decide +kernel) (by decide +kernel)
set_option maxRecDepth 20000 in
theorem gL_law_X4_rowCount : GoodIn wsL_law (wsV RL 124 RX4 yX4_rowCount wsX4_rowCount) := goodIn_app (goodIn_of _ (by decide +kernel)) ggL_law_X4_rowCount
set_option maxRecDepth 20000 in
theorem ggL_law_X3_digest : GoodIn wsL_law wsX3_digest := goodIn_r _ [610, 611, 28, 29, 612, 613, 614, 2, 615, 22, 616, 617, 618, 619, 203, 171, 172, 21, 173, 157, 38, 620, 621, 622, 623, 624, 279, 280, 281, 264, 202, 265, 266, 267, 268, 24, 625, 306, 307, 308, 309, 310, 311, 26, 312, 313, 314, 315, 316, 42, 317, 318, 219, 220, 221, 319, 320, 321, 322, 626, 337, 338, 339, 340, 341, 342, 343, 344, 345, 346, 347, 627, 357, 358, 359, 360, 361, 362, 363, 628, 373, 374, 375, 376, 377, 378, 379, 380, 381, 629, 393, 394, 395, 396, 397, 398, 399, 400, 401, 402, 403, 404, 405, 406, 407, 408, 170, 166, 167, 168, 169, 409, 410, 411, 412, 413, 213, 214, 215, 216, 217, 218, 414, 415, 416, 417, 630, 435, 436, 437, 438, 439, 440, 441, 442, 443, 444, 445, 446, 447, 448, 449, 450, 451, 452, 453, 631, 470, 471, 472, 63, 473, 474, 475, 476, 477, 632, 492, 493, 494, 495, 496, 497, 498, 499, 500, 501, 502, 43, 633, 516, 517, 518, 634, 528, 529, 530, 531, 532, 533, 534, 535, 536, 537, 538, 539, 540, 541, 542, 635, 564, 565, 566, 636, 588, 589, 590, 637, 638, 639, 640, 14, 13, 657, 658, 659, 660, 661, 662, 663, 682, 683, 684, 685, 686] (by decide +kernel) (by decide +kernel)
set_option maxRecDepth 20000 in
theorem gL_law_X3_digest : GoodIn wsL_law (wsV RL 125 RX3 yX3_digest wsX3_digest) := goodIn_app (goodIn_of _ (by decide +kernel)) ggL_law_X3_digest
set_option maxRecDepth 20000 in
theorem ggL_law_X4_digest : GoodIn wsL_law wsX4_digest := goodIn_r _ [644, 645, 646, 184, 51, 56, 259, 72, 50, 647, 648, 649, 5, 650, 651, 652, 653, 654, 655, 52, 656, 466, 327, 328, 329, 330, 331, 332, 333, 334, 335, 236, 237, 238, 352, 353, 354, 355, 368, 369, 370, 371, 386, 387, 388, 389, 390, 391, 422, 423, 424, 425, 227, 426, 427, 428, 429, 228, 229, 230, 231, 186, 187, 188, 189, 74, 75, 76, 430, 431, 432, 433, 258, 232, 233, 234, 235, 458, 459, 460, 461, 462, 463, 464, 465, 467, 468, 483, 484, 485, 486, 487, 488, 489, 490, 53, 58, 507, 508, 509, 510, 511, 512, 513, 514, 54, 523, 524, 525, 526, 547, 548, 549, 550, 551, 552, 553, 554, 555, 556, 557, 558, 559, 560, 561, 562, 571, 572, 573, 574, 595, 596, 597, 598, 664, 665, 666, 667, 668, 669, 670, 671, 672, 673, 674, 675, 676] (by decide +kernel) (by decide +kernel)
set_option maxRecDepth 20000 in
theorem gL_law_X4_digest : GoodIn wsL_law (wsV RL 128 RX4 yX4_digest wsX4_digest) := goodIn_app (goodIn_of _ (by decide +kernel)) ggL_law_X4_digest
theorem dL_law_0 : decode cL_law 0 = .ok (.new 7, 3) := by decide +kernel
theorem dL_law_3 : decode cL_law 3 = .ok (.dup, 1) := by decide +kernel
theorem dL_law_4 : decode cL_law 4 = .ok (.invokespecial 9, 3) := by decide +kernel
theorem dL_law_7 : decode cL_law 7 = .ok (.astore_n 1, 1) := by decide +kernel
theorem dL_law_8 : decode cL_law 8 = .ok (.new 10, 3) := by decide +kernel
theorem dL_law_11 : decode cL_law 11 = .ok (.dup, 1) := by decide +kernel
theorem dL_law_12 : decode cL_law 12 = .ok (.invokespecial 12, 3) := by decide +kernel
theorem dL_law_15 : decode cL_law 15 = .ok (.astore_n 2, 1) := by decide +kernel
theorem dL_law_16 : decode cL_law 16 = .ok (.iconst 0, 1) := by decide +kernel
theorem dL_law_17 : decode cL_law 17 = .ok (.istore_n 3, 1) := by decide +kernel
theorem dL_law_18 : decode cL_law 18 = .ok (.iload_n 3, 1) := by decide +kernel
theorem dL_law_19 : decode cL_law 19 = .ok (.aload_n 0, 1) := by decide +kernel
theorem dL_law_20 : decode cL_law 20 = .ok (.arraylength, 1) := by decide +kernel
theorem dL_law_21 : decode cL_law 21 = .ok (.iconst 4, 1) := by decide +kernel
theorem dL_law_22 : decode cL_law 22 = .ok (.isub, 1) := by decide +kernel
theorem dL_law_23 : decode cL_law 23 = .ok (.if_icmp .gt 855, 3) := by decide +kernel
theorem dL_law_26 : decode cL_law 26 = .ok (.aload_n 0, 1) := by decide +kernel
theorem dL_law_27 : decode cL_law 27 = .ok (.iload_n 3, 1) := by decide +kernel
theorem dL_law_28 : decode cL_law 28 = .ok (.iaload, 1) := by decide +kernel
theorem dL_law_29 : decode cL_law 29 = .ok (.bipush 31, 2) := by decide +kernel
theorem dL_law_31 : decode cL_law 31 = .ok (.iand, 1) := by decide +kernel
theorem dL_law_32 : decode cL_law 32 = .ok (.tableswitch 840 0 27 #[128, 152, 166, 180, 194, 208, 232, 266, 290, 314, 358, 392, 426, 470, 494, 518, 542, 566, 590, 614, 648, 672, 706, 740, 774, 798, 812, 826], 128) := by decide +kernel
theorem dL_law_160 : decode cL_law 160 = .ok (.aload_n 1, 1) := by decide +kernel
theorem dL_law_161 : decode cL_law 161 = .ok (.aload_n 0, 1) := by decide +kernel
theorem dL_law_162 : decode cL_law 162 = .ok (.iload_n 3, 1) := by decide +kernel
theorem dL_law_163 : decode cL_law 163 = .ok (.iconst 1, 1) := by decide +kernel
theorem dL_law_164 : decode cL_law 164 = .ok (.iadd, 1) := by decide +kernel
theorem dL_law_165 : decode cL_law 165 = .ok (.iaload, 1) := by decide +kernel
theorem dL_law_166 : decode cL_law 166 = .ok (.invokevirtual 13, 3) := by decide +kernel
theorem dL_law_169 : decode cL_law 169 = .ok (.aload_n 2, 1) := by decide +kernel
theorem dL_law_170 : decode cL_law 170 = .ok (.aload_n 0, 1) := by decide +kernel
theorem dL_law_171 : decode cL_law 171 = .ok (.iload_n 3, 1) := by decide +kernel
theorem dL_law_172 : decode cL_law 172 = .ok (.iconst 1, 1) := by decide +kernel
theorem dL_law_173 : decode cL_law 173 = .ok (.iadd, 1) := by decide +kernel
theorem dL_law_174 : decode cL_law 174 = .ok (.iaload, 1) := by decide +kernel
theorem dL_law_175 : decode cL_law 175 = .ok (.invokevirtual 17, 3) := by decide +kernel
theorem dL_law_178 : decode cL_law 178 = .ok (.lcmp, 1) := by decide +kernel
theorem dL_law_179 : decode cL_law 179 = .ok (.ifCond .eq 693, 3) := by decide +kernel
theorem dL_law_182 : decode cL_law 182 = .ok (.iconst 0, 1) := by decide +kernel
theorem dL_law_183 : decode cL_law 183 = .ok (.ireturn, 1) := by decide +kernel
theorem dL_law_184 : decode cL_law 184 = .ok (.aload_n 1, 1) := by decide +kernel
theorem dL_law_185 : decode cL_law 185 = .ok (.invokevirtual 18, 3) := by decide +kernel
theorem dL_law_188 : decode cL_law 188 = .ok (.aload_n 2, 1) := by decide +kernel
theorem dL_law_189 : decode cL_law 189 = .ok (.invokevirtual 22, 3) := by decide +kernel
theorem dL_law_192 : decode cL_law 192 = .ok (.lcmp, 1) := by decide +kernel
theorem dL_law_193 : decode cL_law 193 = .ok (.ifCond .eq 679, 3) := by decide +kernel
theorem dL_law_196 : decode cL_law 196 = .ok (.iconst 0, 1) := by decide +kernel
theorem dL_law_197 : decode cL_law 197 = .ok (.ireturn, 1) := by decide +kernel
theorem dL_law_198 : decode cL_law 198 = .ok (.aload_n 1, 1) := by decide +kernel
theorem dL_law_199 : decode cL_law 199 = .ok (.invokevirtual 23, 3) := by decide +kernel
theorem dL_law_202 : decode cL_law 202 = .ok (.aload_n 2, 1) := by decide +kernel
theorem dL_law_203 : decode cL_law 203 = .ok (.invokevirtual 26, 3) := by decide +kernel
theorem dL_law_206 : decode cL_law 206 = .ok (.lcmp, 1) := by decide +kernel
theorem dL_law_207 : decode cL_law 207 = .ok (.ifCond .eq 665, 3) := by decide +kernel
theorem dL_law_210 : decode cL_law 210 = .ok (.iconst 0, 1) := by decide +kernel
theorem dL_law_211 : decode cL_law 211 = .ok (.ireturn, 1) := by decide +kernel
theorem dL_law_212 : decode cL_law 212 = .ok (.aload_n 1, 1) := by decide +kernel
theorem dL_law_213 : decode cL_law 213 = .ok (.invokevirtual 27, 3) := by decide +kernel
theorem dL_law_216 : decode cL_law 216 = .ok (.aload_n 2, 1) := by decide +kernel
theorem dL_law_217 : decode cL_law 217 = .ok (.invokevirtual 30, 3) := by decide +kernel
theorem dL_law_220 : decode cL_law 220 = .ok (.lcmp, 1) := by decide +kernel
theorem dL_law_221 : decode cL_law 221 = .ok (.ifCond .eq 651, 3) := by decide +kernel
theorem dL_law_224 : decode cL_law 224 = .ok (.iconst 0, 1) := by decide +kernel
theorem dL_law_225 : decode cL_law 225 = .ok (.ireturn, 1) := by decide +kernel
theorem dL_law_226 : decode cL_law 226 = .ok (.aload_n 1, 1) := by decide +kernel
theorem dL_law_227 : decode cL_law 227 = .ok (.invokevirtual 31, 3) := by decide +kernel
theorem dL_law_230 : decode cL_law 230 = .ok (.aload_n 2, 1) := by decide +kernel
theorem dL_law_231 : decode cL_law 231 = .ok (.invokevirtual 34, 3) := by decide +kernel
theorem dL_law_234 : decode cL_law 234 = .ok (.lcmp, 1) := by decide +kernel
theorem dL_law_235 : decode cL_law 235 = .ok (.ifCond .eq 637, 3) := by decide +kernel
theorem dL_law_238 : decode cL_law 238 = .ok (.iconst 0, 1) := by decide +kernel
theorem dL_law_239 : decode cL_law 239 = .ok (.ireturn, 1) := by decide +kernel
theorem dL_law_240 : decode cL_law 240 = .ok (.aload_n 1, 1) := by decide +kernel
theorem dL_law_241 : decode cL_law 241 = .ok (.aload_n 0, 1) := by decide +kernel
theorem dL_law_242 : decode cL_law 242 = .ok (.iload_n 3, 1) := by decide +kernel
theorem dL_law_243 : decode cL_law 243 = .ok (.iconst 1, 1) := by decide +kernel
theorem dL_law_244 : decode cL_law 244 = .ok (.iadd, 1) := by decide +kernel
theorem dL_law_245 : decode cL_law 245 = .ok (.iaload, 1) := by decide +kernel
theorem dL_law_246 : decode cL_law 246 = .ok (.invokevirtual 35, 3) := by decide +kernel
theorem dL_law_249 : decode cL_law 249 = .ok (.aload_n 2, 1) := by decide +kernel
theorem dL_law_250 : decode cL_law 250 = .ok (.aload_n 0, 1) := by decide +kernel
theorem dL_law_251 : decode cL_law 251 = .ok (.iload_n 3, 1) := by decide +kernel
theorem dL_law_252 : decode cL_law 252 = .ok (.iconst 1, 1) := by decide +kernel
theorem dL_law_253 : decode cL_law 253 = .ok (.iadd, 1) := by decide +kernel
theorem dL_law_254 : decode cL_law 254 = .ok (.iaload, 1) := by decide +kernel
theorem dL_law_255 : decode cL_law 255 = .ok (.invokevirtual 38, 3) := by decide +kernel
theorem dL_law_258 : decode cL_law 258 = .ok (.lcmp, 1) := by decide +kernel
theorem dL_law_259 : decode cL_law 259 = .ok (.ifCond .eq 613, 3) := by decide +kernel
theorem dL_law_262 : decode cL_law 262 = .ok (.iconst 0, 1) := by decide +kernel
theorem dL_law_263 : decode cL_law 263 = .ok (.ireturn, 1) := by decide +kernel
theorem dL_law_264 : decode cL_law 264 = .ok (.aload_n 1, 1) := by decide +kernel
theorem dL_law_265 : decode cL_law 265 = .ok (.aload_n 0, 1) := by decide +kernel
theorem dL_law_266 : decode cL_law 266 = .ok (.iload_n 3, 1) := by decide +kernel
theorem dL_law_267 : decode cL_law 267 = .ok (.iconst 1, 1) := by decide +kernel
theorem dL_law_268 : decode cL_law 268 = .ok (.iadd, 1) := by decide +kernel
theorem dL_law_269 : decode cL_law 269 = .ok (.iaload, 1) := by decide +kernel
theorem dL_law_270 : decode cL_law 270 = .ok (.aload_n 0, 1) := by decide +kernel
theorem dL_law_271 : decode cL_law 271 = .ok (.iload_n 3, 1) := by decide +kernel
theorem dL_law_272 : decode cL_law 272 = .ok (.iconst 2, 1) := by decide +kernel
theorem dL_law_273 : decode cL_law 273 = .ok (.iadd, 1) := by decide +kernel
theorem dL_law_274 : decode cL_law 274 = .ok (.iaload, 1) := by decide +kernel
theorem dL_law_275 : decode cL_law 275 = .ok (.invokevirtual 39, 3) := by decide +kernel
theorem dL_law_278 : decode cL_law 278 = .ok (.aload_n 2, 1) := by decide +kernel
theorem dL_law_279 : decode cL_law 279 = .ok (.aload_n 0, 1) := by decide +kernel
theorem dL_law_280 : decode cL_law 280 = .ok (.iload_n 3, 1) := by decide +kernel
theorem dL_law_281 : decode cL_law 281 = .ok (.iconst 1, 1) := by decide +kernel
theorem dL_law_282 : decode cL_law 282 = .ok (.iadd, 1) := by decide +kernel
theorem dL_law_283 : decode cL_law 283 = .ok (.iaload, 1) := by decide +kernel
theorem dL_law_284 : decode cL_law 284 = .ok (.aload_n 0, 1) := by decide +kernel
theorem dL_law_285 : decode cL_law 285 = .ok (.iload_n 3, 1) := by decide +kernel
theorem dL_law_286 : decode cL_law 286 = .ok (.iconst 2, 1) := by decide +kernel
theorem dL_law_287 : decode cL_law 287 = .ok (.iadd, 1) := by decide +kernel
theorem dL_law_288 : decode cL_law 288 = .ok (.iaload, 1) := by decide +kernel
theorem dL_law_289 : decode cL_law 289 = .ok (.invokevirtual 43, 3) := by decide +kernel
theorem dL_law_292 : decode cL_law 292 = .ok (.lcmp, 1) := by decide +kernel
theorem dL_law_293 : decode cL_law 293 = .ok (.ifCond .eq 579, 3) := by decide +kernel
theorem dL_law_296 : decode cL_law 296 = .ok (.iconst 0, 1) := by decide +kernel
theorem dL_law_297 : decode cL_law 297 = .ok (.ireturn, 1) := by decide +kernel
theorem dL_law_298 : decode cL_law 298 = .ok (.aload_n 1, 1) := by decide +kernel
theorem dL_law_299 : decode cL_law 299 = .ok (.aload_n 0, 1) := by decide +kernel
theorem dL_law_300 : decode cL_law 300 = .ok (.iload_n 3, 1) := by decide +kernel
theorem dL_law_301 : decode cL_law 301 = .ok (.iconst 1, 1) := by decide +kernel
theorem dL_law_302 : decode cL_law 302 = .ok (.iadd, 1) := by decide +kernel
theorem dL_law_303 : decode cL_law 303 = .ok (.iaload, 1) := by decide +kernel
theorem dL_law_304 : decode cL_law 304 = .ok (.invokevirtual 44, 3) := by decide +kernel
theorem dL_law_307 : decode cL_law 307 = .ok (.aload_n 2, 1) := by decide +kernel
theorem dL_law_308 : decode cL_law 308 = .ok (.aload_n 0, 1) := by decide +kernel
theorem dL_law_309 : decode cL_law 309 = .ok (.iload_n 3, 1) := by decide +kernel
theorem dL_law_310 : decode cL_law 310 = .ok (.iconst 1, 1) := by decide +kernel
theorem dL_law_311 : decode cL_law 311 = .ok (.iadd, 1) := by decide +kernel
theorem dL_law_312 : decode cL_law 312 = .ok (.iaload, 1) := by decide +kernel
theorem dL_law_313 : decode cL_law 313 = .ok (.invokevirtual 47, 3) := by decide +kernel
theorem dL_law_316 : decode cL_law 316 = .ok (.lcmp, 1) := by decide +kernel
theorem dL_law_317 : decode cL_law 317 = .ok (.ifCond .eq 555, 3) := by decide +kernel
theorem dL_law_320 : decode cL_law 320 = .ok (.iconst 0, 1) := by decide +kernel
theorem dL_law_321 : decode cL_law 321 = .ok (.ireturn, 1) := by decide +kernel
theorem dL_law_322 : decode cL_law 322 = .ok (.aload_n 1, 1) := by decide +kernel
theorem dL_law_323 : decode cL_law 323 = .ok (.aload_n 0, 1) := by decide +kernel
theorem dL_law_324 : decode cL_law 324 = .ok (.iload_n 3, 1) := by decide +kernel
theorem dL_law_325 : decode cL_law 325 = .ok (.iconst 1, 1) := by decide +kernel
theorem dL_law_326 : decode cL_law 326 = .ok (.iadd, 1) := by decide +kernel
theorem dL_law_327 : decode cL_law 327 = .ok (.iaload, 1) := by decide +kernel
theorem dL_law_328 : decode cL_law 328 = .ok (.invokevirtual 48, 3) := by decide +kernel
theorem dL_law_331 : decode cL_law 331 = .ok (.aload_n 2, 1) := by decide +kernel
theorem dL_law_332 : decode cL_law 332 = .ok (.aload_n 0, 1) := by decide +kernel
theorem dL_law_333 : decode cL_law 333 = .ok (.iload_n 3, 1) := by decide +kernel
theorem dL_law_334 : decode cL_law 334 = .ok (.iconst 1, 1) := by decide +kernel
theorem dL_law_335 : decode cL_law 335 = .ok (.iadd, 1) := by decide +kernel
theorem dL_law_336 : decode cL_law 336 = .ok (.iaload, 1) := by decide +kernel
theorem dL_law_337 : decode cL_law 337 = .ok (.invokevirtual 51, 3) := by decide +kernel
theorem dL_law_340 : decode cL_law 340 = .ok (.lcmp, 1) := by decide +kernel
theorem dL_law_341 : decode cL_law 341 = .ok (.ifCond .eq 531, 3) := by decide +kernel
theorem dL_law_344 : decode cL_law 344 = .ok (.iconst 0, 1) := by decide +kernel
theorem dL_law_345 : decode cL_law 345 = .ok (.ireturn, 1) := by decide +kernel
theorem dL_law_346 : decode cL_law 346 = .ok (.aload_n 1, 1) := by decide +kernel
theorem dL_law_347 : decode cL_law 347 = .ok (.aload_n 0, 1) := by decide +kernel
theorem dL_law_348 : decode cL_law 348 = .ok (.iload_n 3, 1) := by decide +kernel
theorem dL_law_349 : decode cL_law 349 = .ok (.iconst 1, 1) := by decide +kernel
theorem dL_law_350 : decode cL_law 350 = .ok (.iadd, 1) := by decide +kernel
theorem dL_law_351 : decode cL_law 351 = .ok (.iaload, 1) := by decide +kernel
theorem dL_law_352 : decode cL_law 352 = .ok (.aload_n 0, 1) := by decide +kernel
theorem dL_law_353 : decode cL_law 353 = .ok (.iload_n 3, 1) := by decide +kernel
theorem dL_law_354 : decode cL_law 354 = .ok (.iconst 2, 1) := by decide +kernel
theorem dL_law_355 : decode cL_law 355 = .ok (.iadd, 1) := by decide +kernel
theorem dL_law_356 : decode cL_law 356 = .ok (.iaload, 1) := by decide +kernel
theorem dL_law_357 : decode cL_law 357 = .ok (.aload_n 0, 1) := by decide +kernel
theorem dL_law_358 : decode cL_law 358 = .ok (.iload_n 3, 1) := by decide +kernel
theorem dL_law_359 : decode cL_law 359 = .ok (.iconst 3, 1) := by decide +kernel
theorem dL_law_360 : decode cL_law 360 = .ok (.iadd, 1) := by decide +kernel
theorem dL_law_361 : decode cL_law 361 = .ok (.iaload, 1) := by decide +kernel
theorem dL_law_362 : decode cL_law 362 = .ok (.invokevirtual 52, 3) := by decide +kernel
theorem dL_law_365 : decode cL_law 365 = .ok (.aload_n 2, 1) := by decide +kernel
theorem dL_law_366 : decode cL_law 366 = .ok (.aload_n 0, 1) := by decide +kernel
theorem dL_law_367 : decode cL_law 367 = .ok (.iload_n 3, 1) := by decide +kernel
theorem dL_law_368 : decode cL_law 368 = .ok (.iconst 1, 1) := by decide +kernel
theorem dL_law_369 : decode cL_law 369 = .ok (.iadd, 1) := by decide +kernel
theorem dL_law_370 : decode cL_law 370 = .ok (.iaload, 1) := by decide +kernel
theorem dL_law_371 : decode cL_law 371 = .ok (.aload_n 0, 1) := by decide +kernel
theorem dL_law_372 : decode cL_law 372 = .ok (.iload_n 3, 1) := by decide +kernel
theorem dL_law_373 : decode cL_law 373 = .ok (.iconst 2, 1) := by decide +kernel
theorem dL_law_374 : decode cL_law 374 = .ok (.iadd, 1) := by decide +kernel
theorem dL_law_375 : decode cL_law 375 = .ok (.iaload, 1) := by decide +kernel
theorem dL_law_376 : decode cL_law 376 = .ok (.aload_n 0, 1) := by decide +kernel
theorem dL_law_377 : decode cL_law 377 = .ok (.iload_n 3, 1) := by decide +kernel
theorem dL_law_378 : decode cL_law 378 = .ok (.iconst 3, 1) := by decide +kernel
theorem dL_law_379 : decode cL_law 379 = .ok (.iadd, 1) := by decide +kernel
theorem dL_law_380 : decode cL_law 380 = .ok (.iaload, 1) := by decide +kernel
theorem dL_law_381 : decode cL_law 381 = .ok (.invokevirtual 56, 3) := by decide +kernel
theorem dL_law_384 : decode cL_law 384 = .ok (.lcmp, 1) := by decide +kernel
theorem dL_law_385 : decode cL_law 385 = .ok (.ifCond .eq 487, 3) := by decide +kernel
theorem dL_law_388 : decode cL_law 388 = .ok (.iconst 0, 1) := by decide +kernel
theorem dL_law_389 : decode cL_law 389 = .ok (.ireturn, 1) := by decide +kernel
theorem dL_law_390 : decode cL_law 390 = .ok (.aload_n 1, 1) := by decide +kernel
theorem dL_law_391 : decode cL_law 391 = .ok (.aload_n 0, 1) := by decide +kernel
theorem dL_law_392 : decode cL_law 392 = .ok (.iload_n 3, 1) := by decide +kernel
theorem dL_law_393 : decode cL_law 393 = .ok (.iconst 1, 1) := by decide +kernel
