theorem dX4_light_12 : decode cX4_light 12 = .ok (.iload_n 1, 1) := by decide +kernel
theorem dX4_light_13 : decode cX4_light 13 = .ok (.aload_n 0, 1) := by decide +kernel
theorem dX4_light_14 : decode cX4_light 14 = .ok (.getfield 118, 3) := by decide +kernel
theorem dX4_light_17 : decode cX4_light 17 = .ok (.invokevirtual 174, 3) := by decide +kernel
theorem dX4_light_20 : decode cX4_light 20 = .ok (.lstore 4, 2) := by decide +kernel
theorem dX4_light_22 : decode cX4_light 22 = .ok (.lload_n 2, 1) := by decide +kernel
theorem dX4_light_23 : decode cX4_light 23 = .ok (.lload 4, 2) := by decide +kernel
theorem dX4_light_25 : decode cX4_light 25 = .ok (.lcmp, 1) := by decide +kernel
theorem dX4_light_26 : decode cX4_light 26 = .ok (.ifCond .ge 7, 3) := by decide +kernel
theorem dX4_light_29 : decode cX4_light 29 = .ok (.lload_n 2, 1) := by decide +kernel
theorem dX4_light_30 : decode cX4_light 30 = .ok (.goto 5, 3) := by decide +kernel
theorem dX4_light_33 : decode cX4_light 33 = .ok (.lload 4, 2) := by decide +kernel
theorem dX4_light_35 : decode cX4_light 35 = .ok (.lreturn, 1) := by decide +kernel
set_option maxRecDepth 20000 in
theorem ggX4_heavy_X4_net : GoodIn wsX4_heavy wsX4_net := goodIn_r _ [6, 7, 8, 9, 10, 5, 11, 12, 13, 14, 15, 16, 17, 18, 19, 20, 21, 22, 23, 24, 25, 26, 27, 28, 29, 30, 31, 32, 33, 34, 35, 36, 37, 38, 39, 40, 41, 42, 43, 44, 45, 46, 47, 48, 49, 50, 51, 52, 53, 54, 55, 56, 57, 58, 59, 60, 61, 62, 63, 64, 65, 66, 67, 68] (by decide +kernel) (by decide +kernel)
set_option maxRecDepth 20000 in
theorem gX4_heavy_X4_net : GoodIn wsX4_heavy (wsV RX4 174 RX4 yX4_net wsX4_net) := goodIn_app (goodIn_of _ (by decide +kernel)) ggX4_heavy_X4_net
theorem dX4_heavy_0 : decode cX4_heavy 0 = .ok (.aload_n 0, 1) := by decide +kernel
theorem dX4_heavy_1 : decode cX4_heavy 1 = .ok (.iload_n 1, 1) := by decide +kernel
theorem dX4_heavy_2 : decode cX4_heavy 2 = .ok (.aload_n 0, 1) := by decide +kernel
theorem dX4_heavy_3 : decode cX4_heavy 3 = .ok (.getfield 118, 3) := by decide +kernel
theorem dX4_heavy_6 : decode cX4_heavy 6 = .ok (.lneg, 1) := by decide +kernel
theorem dX4_heavy_7 : decode cX4_heavy 7 = .ok (.invokevirtual 174, 3) := by decide +kernel
theorem dX4_heavy_10 : decode cX4_heavy 10 = .ok (.lstore_n 2, 1) := by decide +kernel
theorem dX4_heavy_11 : decode cX4_heavy 11 = .ok (.aload_n 0, 1) := by decide +kernel
theorem dX4_heavy_12 : decode cX4_heavy 12 = .ok (.iload_n 1, 1) := by decide +kernel
theorem dX4_heavy_13 : decode cX4_heavy 13 = .ok (.aload_n 0, 1) := by decide +kernel
theorem dX4_heavy_14 : decode cX4_heavy 14 = .ok (.getfield 118, 3) := by decide +kernel
theorem dX4_heavy_17 : decode cX4_heavy 17 = .ok (.invokevirtual 174, 3) := by decide +kernel
theorem dX4_heavy_20 : decode cX4_heavy 20 = .ok (.lstore 4, 2) := by decide +kernel
theorem dX4_heavy_22 : decode cX4_heavy 22 = .ok (.lload_n 2, 1) := by decide +kernel
theorem dX4_heavy_23 : decode cX4_heavy 23 = .ok (.lload 4, 2) := by decide +kernel
theorem dX4_heavy_25 : decode cX4_heavy 25 = .ok (.lcmp, 1) := by decide +kernel
theorem dX4_heavy_26 : decode cX4_heavy 26 = .ok (.ifCond .le 7, 3) := by decide +kernel
theorem dX4_heavy_29 : decode cX4_heavy 29 = .ok (.lload_n 2, 1) := by decide +kernel
theorem dX4_heavy_30 : decode cX4_heavy 30 = .ok (.goto 5, 3) := by decide +kernel
theorem dX4_heavy_33 : decode cX4_heavy 33 = .ok (.lload 4, 2) := by decide +kernel
theorem dX4_heavy_35 : decode cX4_heavy 35 = .ok (.lreturn, 1) := by decide +kernel
set_option maxRecDepth 20000 in
theorem ggX4_lowTold_X4_hasBounds : GoodIn wsX4_lowTold wsX4_hasBounds := goodIn_r _ [6, 7, 8, 9, 10, 5, 11, 12, 13, 14, 15, 16, 17, 18, 19, 20, 21, 22, 23, 24, 25, 26, 27, 28, 29, 30, 31, 32, 33, 34, 35, 36, 37, 38, 39, 80, 81, 82, 83, 84, 85, 86, 87, 88, 89, 90, 91, 92] (by decide +kernel) (by decide +kernel)
set_option maxRecDepth 20000 in
theorem gX4_lowTold_X4_hasBounds : GoodIn wsX4_lowTold (wsV RX4 194 RX4 yX4_hasBounds wsX4_hasBounds) := goodIn_app (goodIn_of _ (by decide +kernel)) ggX4_lowTold_X4_hasBounds
set_option maxRecDepth 20000 in
theorem ggX4_lowTold_X4_light : GoodIn wsX4_lowTold wsX4_light := goodIn_r _ [43, 7, 44, 45, 46, 5, 47, 48, 49, 50, 51, 52, 53, 54, 12, 13, 14, 15, 16, 17, 18, 19, 20, 21, 22, 23, 24, 25, 26, 55, 56, 57, 58, 31, 32, 33, 34, 35, 36, 59, 60, 61, 62, 63, 64, 65, 66, 67, 68, 69, 70, 71, 72, 73, 74, 75, 80, 81, 82, 83, 84, 85, 86, 87, 88, 89, 90, 91, 92] (by decide +kernel) (by decide +kernel)
set_option maxRecDepth 20000 in
theorem gX4_lowTold_X4_light : GoodIn wsX4_lowTold (wsV RX4 197 RX4 yX4_light wsX4_light) := goodIn_app (goodIn_of _ (by decide +kernel)) ggX4_lowTold_X4_light
set_option maxRecDepth 20000 in
theorem ggX4_lowTold_X4_heavy : GoodIn wsX4_lowTold wsX4_heavy := goodIn_r _ [79, 7, 44, 45, 46, 5, 47, 48, 49, 50, 51, 52, 53, 54, 12, 13, 14, 15, 16, 17, 18, 19, 20, 21, 22, 23, 24, 25, 26, 55, 56, 57, 58, 31, 32, 33, 34, 35, 36, 59, 60, 61, 62, 63, 64, 65, 66, 67, 68, 69, 70, 71, 72, 73, 74, 75, 80, 81, 82, 83, 84, 85, 86, 87, 88, 89, 90, 91, 92] (by decide +kernel) (by decide +kernel)
set_option maxRecDepth 20000 in
theorem gX4_lowTold_X4_heavy : GoodIn wsX4_lowTold (wsV RX4 200 RX4 yX4_heavy wsX4_heavy) := goodIn_app (goodIn_of _ (by decide +kernel)) ggX4_lowTold_X4_heavy
theorem dX4_lowTold_0 : decode cX4_lowTold 0 = .ok (.aload_n 0, 1) := by decide +kernel
theorem dX4_lowTold_1 : decode cX4_lowTold 1 = .ok (.iload_n 1, 1) := by decide +kernel
theorem dX4_lowTold_2 : decode cX4_lowTold 2 = .ok (.invokevirtual 194, 3) := by decide +kernel
theorem dX4_lowTold_5 : decode cX4_lowTold 5 = .ok (.ifCond .eq 25, 3) := by decide +kernel
theorem dX4_lowTold_8 : decode cX4_lowTold 8 = .ok (.aload_n 0, 1) := by decide +kernel
theorem dX4_lowTold_9 : decode cX4_lowTold 9 = .ok (.iload_n 2, 1) := by decide +kernel
theorem dX4_lowTold_10 : decode cX4_lowTold 10 = .ok (.invokevirtual 194, 3) := by decide +kernel
theorem dX4_lowTold_13 : decode cX4_lowTold 13 = .ok (.ifCond .eq 17, 3) := by decide +kernel
theorem dX4_lowTold_16 : decode cX4_lowTold 16 = .ok (.aload_n 0, 1) := by decide +kernel
theorem dX4_lowTold_17 : decode cX4_lowTold 17 = .ok (.iload_n 2, 1) := by decide +kernel
theorem dX4_lowTold_18 : decode cX4_lowTold 18 = .ok (.invokevirtual 197, 3) := by decide +kernel
theorem dX4_lowTold_21 : decode cX4_lowTold 21 = .ok (.aload_n 0, 1) := by decide +kernel
theorem dX4_lowTold_22 : decode cX4_lowTold 22 = .ok (.iload_n 1, 1) := by decide +kernel
theorem dX4_lowTold_23 : decode cX4_lowTold 23 = .ok (.invokevirtual 200, 3) := by decide +kernel
theorem dX4_lowTold_26 : decode cX4_lowTold 26 = .ok (.lsub, 1) := by decide +kernel
theorem dX4_lowTold_27 : decode cX4_lowTold 27 = .ok (.goto 6, 3) := by decide +kernel
theorem dX4_lowTold_30 : decode cX4_lowTold 30 = .ok (.ldc2_w 110, 3) := by decide +kernel
theorem dX4_lowTold_33 : decode cX4_lowTold 33 = .ok (.lreturn, 1) := by decide +kernel
set_option maxRecDepth 20000 in
theorem ggX4_highTold_X4_hasBounds : GoodIn wsX4_highTold wsX4_hasBounds := goodIn_r _ [6, 7, 8, 9, 10, 5, 11, 12, 13, 14, 15, 16, 17, 18, 19, 20, 21, 22, 23, 24, 25, 26, 27, 28, 29, 30, 31, 32, 33, 34, 35, 36, 37, 38, 39, 80, 81, 82, 83, 84, 85, 86, 87, 88, 89, 90, 91, 92] (by decide +kernel) (by decide +kernel)
set_option maxRecDepth 20000 in
theorem gX4_highTold_X4_hasBounds : GoodIn wsX4_highTold (wsV RX4 194 RX4 yX4_hasBounds wsX4_hasBounds) := goodIn_app (goodIn_of _ (by decide +kernel)) ggX4_highTold_X4_hasBounds
set_option maxRecDepth 20000 in
theorem ggX4_highTold_X4_heavy : GoodIn wsX4_highTold wsX4_heavy := goodIn_r _ [43, 7, 44, 45, 46, 5, 47, 48, 49, 50, 51, 52, 53, 54, 12, 13, 14, 15, 16, 17, 18, 19, 20, 21, 22, 23, 24, 25, 26, 55, 56, 57, 58, 31, 32, 33, 34, 35, 36, 59, 60, 61, 62, 63, 64, 65, 66, 67, 68, 69, 70, 71, 72, 73, 74, 75, 80, 81, 82, 83, 84, 85, 86, 87, 88, 89, 90, 91, 92] (by decide +kernel) (by decide +kernel)
set_option maxRecDepth 20000 in
theorem gX4_highTold_X4_heavy : GoodIn wsX4_highTold (wsV RX4 200 RX4 yX4_heavy wsX4_heavy) := goodIn_app (goodIn_of _ (by decide +kernel)) ggX4_highTold_X4_heavy
set_option maxRecDepth 20000 in
theorem ggX4_highTold_X4_light : GoodIn wsX4_highTold wsX4_light := goodIn_r _ [79, 7, 44, 45, 46, 5, 47, 48, 49, 50, 51, 52, 53, 54, 12, 13, 14, 15, 16, 17, 18, 19, 20, 21, 22, 23, 24, 25, 26, 55, 56, 57, 58, 31, 32, 33, 34, 35, 36, 59, 60, 61, 62, 63, 64, 65, 66, 67, 68, 69, 70, 71, 72, 73, 74, 75, 80, 81, 82, 83, 84, 85, 86, 87, 88, 89, 90, 91, 92] (by decide +kernel) (by decide +kernel)
set_option maxRecDepth 20000 in
theorem gX4_highTold_X4_light : GoodIn wsX4_highTold (wsV RX4 197 RX4 yX4_light wsX4_light) := goodIn_app (goodIn_of _ (by decide +kernel)) ggX4_highTold_X4_light
theorem dX4_highTold_0 : decode cX4_highTold 0 = .ok (.aload_n 0, 1) := by decide +kernel
theorem dX4_highTold_1 : decode cX4_highTold 1 = .ok (.iload_n 1, 1) := by decide +kernel
theorem dX4_highTold_2 : decode cX4_highTold 2 = .ok (.invokevirtual 194, 3) := by decide +kernel
theorem dX4_highTold_5 : decode cX4_highTold 5 = .ok (.ifCond .eq 25, 3) := by decide +kernel
theorem dX4_highTold_8 : decode cX4_highTold 8 = .ok (.aload_n 0, 1) := by decide +kernel
theorem dX4_highTold_9 : decode cX4_highTold 9 = .ok (.iload_n 2, 1) := by decide +kernel
theorem dX4_highTold_10 : decode cX4_highTold 10 = .ok (.invokevirtual 194, 3) := by decide +kernel
theorem dX4_highTold_13 : decode cX4_highTold 13 = .ok (.ifCond .eq 17, 3) := by decide +kernel
theorem dX4_highTold_16 : decode cX4_highTold 16 = .ok (.aload_n 0, 1) := by decide +kernel
theorem dX4_highTold_17 : decode cX4_highTold 17 = .ok (.iload_n 2, 1) := by decide +kernel
theorem dX4_highTold_18 : decode cX4_highTold 18 = .ok (.invokevirtual 200, 3) := by decide +kernel
theorem dX4_highTold_21 : decode cX4_highTold 21 = .ok (.aload_n 0, 1) := by decide +kernel
theorem dX4_highTold_22 : decode cX4_highTold 22 = .ok (.iload_n 1, 1) := by decide +kernel
theorem dX4_highTold_23 : decode cX4_highTold 23 = .ok (.invokevirtual 197, 3) := by decide +kernel
theorem dX4_highTold_26 : decode cX4_highTold 26 = .ok (.lsub, 1) := by decide +kernel
theorem dX4_highTold_27 : decode cX4_highTold 27 = .ok (.goto 6, 3) := by decide +kernel
theorem dX4_highTold_30 : decode cX4_highTold 30 = .ok (.ldc2_w 110, 3) := by decide +kernel
theorem dX4_highTold_33 : decode cX4_highTold 33 = .ok (.lreturn, 1) := by decide +kernel
set_option maxRecDepth 20000 in
theorem ggX4_cargoLow_X4_isSurvey : GoodIn wsX4_cargoLow wsX4_isSurvey := goodIn_r _ [5, 6, 7, 8, 4, 9] (by decide +kernel) (by decide +kernel)
set_option maxRecDepth 20000 in
theorem gX4_cargoLow_X4_isSurvey : GoodIn wsX4_cargoLow (va_wsS RX4 121 yX4_isSurvey wsX4_isSurvey) := goodIn_app (goodIn_of _ (by decide +kernel)) ggX4_cargoLow_X4_isSurvey
set_option maxRecDepth 20000 in
theorem ggX4_cargoLow_X4_lowTold : GoodIn wsX4_cargoLow wsX4_lowTold := goodIn_r _ [13, 14, 15, 16, 17, 4, 18, 19, 20, 21, 22, 23, 24, 25, 26, 27, 28, 29, 30, 31, 32, 33, 34, 35, 36, 37, 38, 39, 40, 41, 42, 43, 44, 45, 46, 47, 48, 7, 8, 9, 49, 50, 51, 52, 53, 54, 55, 56, 57, 58, 59, 60, 61, 62, 63, 64, 65, 66, 67, 68, 69, 70, 71, 72, 73, 74, 75, 76, 77, 78, 79, 80, 81, 82, 83, 84, 85, 86, 87, 88, 89, 90, 91, 92, 93, 94, 95, 96, 97, 98, 99, 100, 101] (by decide +kernel) (by decide +kernel)
set_option maxRecDepth 20000 in
theorem gX4_cargoLow_X4_lowTold : GoodIn wsX4_cargoLow (wsV RX4 203 RX4 yX4_lowTold wsX4_lowTold) := goodIn_app (goodIn_of _ (by decide +kernel)) ggX4_cargoLow_X4_lowTold
theorem dX4_cargoLow_0 : decode cX4_cargoLow 0 = .ok (.iload_n 1, 1) := by decide +kernel
theorem dX4_cargoLow_1 : decode cX4_cargoLow 1 = .ok (.invokestatic 121, 3) := by decide +kernel
theorem dX4_cargoLow_4 : decode cX4_cargoLow 4 = .ok (.ifCond .eq 19, 3) := by decide +kernel
theorem dX4_cargoLow_7 : decode cX4_cargoLow 7 = .ok (.iload_n 2, 1) := by decide +kernel
theorem dX4_cargoLow_8 : decode cX4_cargoLow 8 = .ok (.invokestatic 121, 3) := by decide +kernel
theorem dX4_cargoLow_11 : decode cX4_cargoLow 11 = .ok (.ifCond .eq 12, 3) := by decide +kernel
theorem dX4_cargoLow_14 : decode cX4_cargoLow 14 = .ok (.aload_n 0, 1) := by decide +kernel
theorem dX4_cargoLow_15 : decode cX4_cargoLow 15 = .ok (.iload_n 1, 1) := by decide +kernel
theorem dX4_cargoLow_16 : decode cX4_cargoLow 16 = .ok (.iload_n 2, 1) := by decide +kernel
theorem dX4_cargoLow_17 : decode cX4_cargoLow 17 = .ok (.invokevirtual 203, 3) := by decide +kernel
theorem dX4_cargoLow_20 : decode cX4_cargoLow 20 = .ok (.goto 6, 3) := by decide +kernel
theorem dX4_cargoLow_23 : decode cX4_cargoLow 23 = .ok (.ldc2_w 125, 3) := by decide +kernel
theorem dX4_cargoLow_26 : decode cX4_cargoLow 26 = .ok (.lreturn, 1) := by decide +kernel
set_option maxRecDepth 20000 in
theorem ggX4_cargoHigh_X4_isSurvey : GoodIn wsX4_cargoHigh wsX4_isSurvey := goodIn_r _ [5, 6, 7, 8, 4, 9] (by decide +kernel) (by decide +kernel)
set_option maxRecDepth 20000 in
theorem gX4_cargoHigh_X4_isSurvey : GoodIn wsX4_cargoHigh (va_wsS RX4 121 yX4_isSurvey wsX4_isSurvey) := goodIn_app (goodIn_of _ (by decide +kernel)) ggX4_cargoHigh_X4_isSurvey
set_option maxRecDepth 20000 in
theorem ggX4_cargoHigh_X4_highTold : GoodIn wsX4_cargoHigh wsX4_highTold := goodIn_r _ [13, 14, 15, 16, 17, 4, 18, 19, 20, 21, 22, 23, 24, 25, 26, 27, 28, 29, 30, 31, 32, 33, 34, 35, 36, 37, 38, 39, 40, 41, 42, 43, 44, 45, 46, 47, 48, 7, 8, 9, 49, 50, 51, 52, 53, 54, 55, 56, 57, 58, 59, 60, 61, 62, 63, 64, 65, 66, 67, 68, 69, 70, 71, 72, 73, 74, 75, 76, 77, 78, 79, 80, 81, 82, 83, 84, 85, 86, 87, 88, 89, 90, 91, 92, 93, 94, 95, 96, 97, 98, 99, 100, 101] (by decide +kernel) (by decide +kernel)
set_option maxRecDepth 20000 in
theorem gX4_cargoHigh_X4_highTold : GoodIn wsX4_cargoHigh (wsV RX4 206 RX4 yX4_highTold wsX4_highTold) := goodIn_app (goodIn_of _ (by decide +kernel)) ggX4_cargoHigh_X4_highTold
theorem dX4_cargoHigh_0 : decode cX4_cargoHigh 0 = .ok (.iload_n 1, 1) := by decide +kernel
theorem dX4_cargoHigh_1 : decode cX4_cargoHigh 1 = .ok (.invokestatic 121, 3) := by decide +kernel
theorem dX4_cargoHigh_4 : decode cX4_cargoHigh 4 = .ok (.ifCond .eq 19, 3) := by decide +kernel
theorem dX4_cargoHigh_7 : decode cX4_cargoHigh 7 = .ok (.iload_n 2, 1) := by decide +kernel
theorem dX4_cargoHigh_8 : decode cX4_cargoHigh 8 = .ok (.invokestatic 121, 3) := by decide +kernel
theorem dX4_cargoHigh_11 : decode cX4_cargoHigh 11 = .ok (.ifCond .eq 12, 3) := by decide +kernel
theorem dX4_cargoHigh_14 : decode cX4_cargoHigh 14 = .ok (.aload_n 0, 1) := by decide +kernel
theorem dX4_cargoHigh_15 : decode cX4_cargoHigh 15 = .ok (.iload_n 1, 1) := by decide +kernel
theorem dX4_cargoHigh_16 : decode cX4_cargoHigh 16 = .ok (.iload_n 2, 1) := by decide +kernel
theorem dX4_cargoHigh_17 : decode cX4_cargoHigh 17 = .ok (.invokevirtual 206, 3) := by decide +kernel
theorem dX4_cargoHigh_20 : decode cX4_cargoHigh 20 = .ok (.goto 6, 3) := by decide +kernel
theorem dX4_cargoHigh_23 : decode cX4_cargoHigh 23 = .ok (.ldc2_w 125, 3) := by decide +kernel
theorem dX4_cargoHigh_26 : decode cX4_cargoHigh 26 = .ok (.lreturn, 1) := by decide +kernel
set_option maxRecDepth 20000 in
theorem ggX4_draftFor_X4_cell : GoodIn wsX4_draftFor wsX4_cell := goodIn_r _ [8, 9, 17, 18, 19, 20, 21, 22, 23, 24, 25, 26, 27, 28, 29] (by decide +kernel) (by decide +kernel)
set_option maxRecDepth 20000 in
theorem gX4_draftFor_X4_cell : GoodIn wsX4_draftFor (wsV RX4 88 RX4 yX4_cell wsX4_cell) := goodIn_app (goodIn_of _ (by decide +kernel)) ggX4_draftFor_X4_cell
set_option maxRecDepth 20000 in
theorem ggX4_draftFor_X4_at : GoodIn wsX4_draftFor wsX4_at := goodIn_r _ [13, 1, 4, 5, 6, 7, 8, 9, 14, 15, 16, 17, 18, 19, 20, 21, 22, 23, 24, 25, 26, 27, 28, 29] (by decide +kernel) (by decide +kernel)
set_option maxRecDepth 20000 in
theorem gX4_draftFor_X4_at : GoodIn wsX4_draftFor (wsV RX4 106 RX4 yX4_at wsX4_at) := goodIn_app (goodIn_of _ (by decide +kernel)) ggX4_draftFor_X4_at
theorem dX4_draftFor_0 : decode cX4_draftFor 0 = .ok (.aload_n 0, 1) := by decide +kernel
theorem dX4_draftFor_1 : decode cX4_draftFor 1 = .ok (.getfield 85, 3) := by decide +kernel
theorem dX4_draftFor_4 : decode cX4_draftFor 4 = .ok (.ifCond .eq 20, 3) := by decide +kernel
theorem dX4_draftFor_7 : decode cX4_draftFor 7 = .ok (.aload_n 0, 1) := by decide +kernel
theorem dX4_draftFor_8 : decode cX4_draftFor 8 = .ok (.aload_n 0, 1) := by decide +kernel
theorem dX4_draftFor_9 : decode cX4_draftFor 9 = .ok (.getfield 85, 3) := by decide +kernel
theorem dX4_draftFor_12 : decode cX4_draftFor 12 = .ok (.iconst 1, 1) := by decide +kernel
theorem dX4_draftFor_13 : decode cX4_draftFor 13 = .ok (.isub, 1) := by decide +kernel
theorem dX4_draftFor_14 : decode cX4_draftFor 14 = .ok (.iconst 1, 1) := by decide +kernel
theorem dX4_draftFor_15 : decode cX4_draftFor 15 = .ok (.invokevirtual 88, 3) := by decide +kernel
theorem dX4_draftFor_18 : decode cX4_draftFor 18 = .ok (.iload_n 1, 1) := by decide +kernel
theorem dX4_draftFor_19 : decode cX4_draftFor 19 = .ok (.i2l, 1) := by decide +kernel
theorem dX4_draftFor_20 : decode cX4_draftFor 20 = .ok (.lcmp, 1) := by decide +kernel
theorem dX4_draftFor_21 : decode cX4_draftFor 21 = .ok (.ifCond .ge 7, 3) := by decide +kernel
theorem dX4_draftFor_24 : decode cX4_draftFor 24 = .ok (.ldc2_w 110, 3) := by decide +kernel
theorem dX4_draftFor_27 : decode cX4_draftFor 27 = .ok (.lreturn, 1) := by decide +kernel
theorem dX4_draftFor_28 : decode cX4_draftFor 28 = .ok (.aload_n 0, 1) := by decide +kernel
theorem dX4_draftFor_29 : decode cX4_draftFor 29 = .ok (.iconst 0, 1) := by decide +kernel
theorem dX4_draftFor_30 : decode cX4_draftFor 30 = .ok (.iconst 0, 1) := by decide +kernel
theorem dX4_draftFor_31 : decode cX4_draftFor 31 = .ok (.invokevirtual 88, 3) := by decide +kernel
theorem dX4_draftFor_34 : decode cX4_draftFor 34 = .ok (.lstore_n 2, 1) := by decide +kernel
theorem dX4_draftFor_35 : decode cX4_draftFor 35 = .ok (.aload_n 0, 1) := by decide +kernel
theorem dX4_draftFor_36 : decode cX4_draftFor 36 = .ok (.aload_n 0, 1) := by decide +kernel
theorem dX4_draftFor_37 : decode cX4_draftFor 37 = .ok (.getfield 85, 3) := by decide +kernel
theorem dX4_draftFor_40 : decode cX4_draftFor 40 = .ok (.iconst 1, 1) := by decide +kernel
theorem dX4_draftFor_41 : decode cX4_draftFor 41 = .ok (.isub, 1) := by decide +kernel
theorem dX4_draftFor_42 : decode cX4_draftFor 42 = .ok (.iconst 0, 1) := by decide +kernel
theorem dX4_draftFor_43 : decode cX4_draftFor 43 = .ok (.invokevirtual 88, 3) := by decide +kernel
theorem dX4_draftFor_46 : decode cX4_draftFor 46 = .ok (.lstore 4, 2) := by decide +kernel
theorem dX4_draftFor_48 : decode cX4_draftFor 48 = .ok (.lload_n 2, 1) := by decide +kernel
theorem dX4_draftFor_49 : decode cX4_draftFor 49 = .ok (.lload 4, 2) := by decide +kernel
theorem dX4_draftFor_51 : decode cX4_draftFor 51 = .ok (.lcmp, 1) := by decide +kernel
theorem dX4_draftFor_52 : decode cX4_draftFor 52 = .ok (.ifCond .ge 41, 3) := by decide +kernel
theorem dX4_draftFor_55 : decode cX4_draftFor 55 = .ok (.lload_n 2, 1) := by decide +kernel
theorem dX4_draftFor_56 : decode cX4_draftFor 56 = .ok (.lload 4, 2) := by decide +kernel
theorem dX4_draftFor_58 : decode cX4_draftFor 58 = .ok (.ladd, 1) := by decide +kernel
theorem dX4_draftFor_59 : decode cX4_draftFor 59 = .ok (.ldc2_w 133, 3) := by decide +kernel
theorem dX4_draftFor_62 : decode cX4_draftFor 62 = .ok (.ldiv, 1) := by decide +kernel
theorem dX4_draftFor_63 : decode cX4_draftFor 63 = .ok (.lstore 6, 2) := by decide +kernel
theorem dX4_draftFor_65 : decode cX4_draftFor 65 = .ok (.aload_n 0, 1) := by decide +kernel
theorem dX4_draftFor_66 : decode cX4_draftFor 66 = .ok (.iconst 0, 1) := by decide +kernel
theorem dX4_draftFor_67 : decode cX4_draftFor 67 = .ok (.lload 6, 2) := by decide +kernel
theorem dX4_draftFor_69 : decode cX4_draftFor 69 = .ok (.invokevirtual 106, 3) := by decide +kernel
theorem dX4_draftFor_72 : decode cX4_draftFor 72 = .ok (.iload_n 1, 1) := by decide +kernel
theorem dX4_draftFor_73 : decode cX4_draftFor 73 = .ok (.i2l, 1) := by decide +kernel
theorem dX4_draftFor_74 : decode cX4_draftFor 74 = .ok (.lcmp, 1) := by decide +kernel
theorem dX4_draftFor_75 : decode cX4_draftFor 75 = .ok (.ifCond .lt 10, 3) := by decide +kernel
theorem dX4_draftFor_78 : decode cX4_draftFor 78 = .ok (.lload 6, 2) := by decide +kernel
theorem dX4_draftFor_80 : decode cX4_draftFor 80 = .ok (.lstore 4, 2) := by decide +kernel
theorem dX4_draftFor_82 : decode cX4_draftFor 82 = .ok (.goto 8, 3) := by decide +kernel
theorem dX4_draftFor_85 : decode cX4_draftFor 85 = .ok (.lload 6, 2) := by decide +kernel
theorem dX4_draftFor_87 : decode cX4_draftFor 87 = .ok (.lconst 1, 1) := by decide +kernel
theorem dX4_draftFor_88 : decode cX4_draftFor 88 = .ok (.ladd, 1) := by decide +kernel
theorem dX4_draftFor_89 : decode cX4_draftFor 89 = .ok (.lstore_n 2, 1) := by decide +kernel
theorem dX4_draftFor_90 : decode cX4_draftFor 90 = .ok (.goto (-42), 3) := by decide +kernel
theorem dX4_draftFor_93 : decode cX4_draftFor 93 = .ok (.lload_n 2, 1) := by decide +kernel
theorem dX4_draftFor_94 : decode cX4_draftFor 94 = .ok (.lreturn, 1) := by decide +kernel
set_option maxRecDepth 20000 in
theorem ggX4_heaviestNow_X4_isComputable : GoodIn wsX4_heaviestNow wsX4_isComputable := goodIn_r _ [6, 7, 8, 9, 5, 10, 11, 12, 13, 14, 15, 16, 17, 18, 19, 20, 21, 22, 23, 24, 25, 26, 27, 28, 29, 30, 31, 32, 33, 34, 67, 68, 69, 70, 71, 72, 73, 74, 75, 76, 77, 78, 79] (by decide +kernel) (by decide +kernel)
set_option maxRecDepth 20000 in
theorem gX4_heaviestNow_X4_isComputable : GoodIn wsX4_heaviestNow (wsV RX4 170 RX4 yX4_isComputable wsX4_isComputable) := goodIn_app (goodIn_of _ (by decide +kernel)) ggX4_heaviestNow_X4_isComputable
set_option maxRecDepth 20000 in
theorem ggX4_heaviestNow_X4_net : GoodIn wsX4_heaviestNow wsX4_net := goodIn_r _ [38, 39, 40, 41, 42, 5, 43, 44, 45, 7, 8, 9, 10, 11, 12, 13, 14, 15, 16, 17, 18, 19, 20, 21, 46, 47, 48, 49, 26, 27, 28, 29, 30, 31, 50, 51, 52, 53, 54, 55, 56, 57, 58, 59, 60, 61, 62, 63, 64, 65, 66, 67, 68, 69, 70, 71, 72, 73, 74, 75, 76, 77, 78, 79] (by decide +kernel) (by decide +kernel)
set_option maxRecDepth 20000 in
theorem gX4_heaviestNow_X4_net : GoodIn wsX4_heaviestNow (wsV RX4 174 RX4 yX4_net wsX4_net) := goodIn_app (goodIn_of _ (by decide +kernel)) ggX4_heaviestNow_X4_net
theorem dX4_heaviestNow_0 : decode cX4_heaviestNow 0 = .ok (.iconst (-1), 1) := by decide +kernel
theorem dX4_heaviestNow_1 : decode cX4_heaviestNow 1 = .ok (.istore_n 1, 1) := by decide +kernel
theorem dX4_heaviestNow_2 : decode cX4_heaviestNow 2 = .ok (.iconst 0, 1) := by decide +kernel
theorem dX4_heaviestNow_3 : decode cX4_heaviestNow 3 = .ok (.istore_n 2, 1) := by decide +kernel
theorem dX4_heaviestNow_4 : decode cX4_heaviestNow 4 = .ok (.iload_n 2, 1) := by decide +kernel
theorem dX4_heaviestNow_5 : decode cX4_heaviestNow 5 = .ok (.iconst 4, 1) := by decide +kernel
theorem dX4_heaviestNow_6 : decode cX4_heaviestNow 6 = .ok (.if_icmp .ge 54, 3) := by decide +kernel
theorem dX4_heaviestNow_9 : decode cX4_heaviestNow 9 = .ok (.aload_n 0, 1) := by decide +kernel
theorem dX4_heaviestNow_10 : decode cX4_heaviestNow 10 = .ok (.iload_n 2, 1) := by decide +kernel
theorem dX4_heaviestNow_11 : decode cX4_heaviestNow 11 = .ok (.lconst 0, 1) := by decide +kernel
theorem dX4_heaviestNow_12 : decode cX4_heaviestNow 12 = .ok (.invokevirtual 170, 3) := by decide +kernel
theorem dX4_heaviestNow_15 : decode cX4_heaviestNow 15 = .ok (.ifCond .eq 27, 3) := by decide +kernel
theorem dX4_heaviestNow_18 : decode cX4_heaviestNow 18 = .ok (.iload_n 1, 1) := by decide +kernel
theorem dX4_heaviestNow_19 : decode cX4_heaviestNow 19 = .ok (.ifCond .lt 19, 3) := by decide +kernel
theorem dX4_heaviestNow_22 : decode cX4_heaviestNow 22 = .ok (.aload_n 0, 1) := by decide +kernel
theorem dX4_heaviestNow_23 : decode cX4_heaviestNow 23 = .ok (.iload_n 2, 1) := by decide +kernel
theorem dX4_heaviestNow_24 : decode cX4_heaviestNow 24 = .ok (.lconst 0, 1) := by decide +kernel
theorem dX4_heaviestNow_25 : decode cX4_heaviestNow 25 = .ok (.invokevirtual 174, 3) := by decide +kernel
theorem dX4_heaviestNow_28 : decode cX4_heaviestNow 28 = .ok (.aload_n 0, 1) := by decide +kernel
theorem dX4_heaviestNow_29 : decode cX4_heaviestNow 29 = .ok (.iload_n 1, 1) := by decide +kernel
theorem dX4_heaviestNow_30 : decode cX4_heaviestNow 30 = .ok (.lconst 0, 1) := by decide +kernel
theorem dX4_heaviestNow_31 : decode cX4_heaviestNow 31 = .ok (.invokevirtual 174, 3) := by decide +kernel
theorem dX4_heaviestNow_34 : decode cX4_heaviestNow 34 = .ok (.lcmp, 1) := by decide +kernel
theorem dX4_heaviestNow_35 : decode cX4_heaviestNow 35 = .ok (.ifCond .le 7, 3) := by decide +kernel
theorem dX4_heaviestNow_38 : decode cX4_heaviestNow 38 = .ok (.iconst 1, 1) := by decide +kernel
theorem dX4_heaviestNow_39 : decode cX4_heaviestNow 39 = .ok (.goto 4, 3) := by decide +kernel
theorem dX4_heaviestNow_42 : decode cX4_heaviestNow 42 = .ok (.iconst 0, 1) := by decide +kernel
theorem dX4_heaviestNow_43 : decode cX4_heaviestNow 43 = .ok (.istore_n 3, 1) := by decide +kernel
theorem dX4_heaviestNow_44 : decode cX4_heaviestNow 44 = .ok (.iload_n 3, 1) := by decide +kernel
theorem dX4_heaviestNow_45 : decode cX4_heaviestNow 45 = .ok (.ifCond .eq 7, 3) := by decide +kernel
theorem dX4_heaviestNow_48 : decode cX4_heaviestNow 48 = .ok (.iload_n 2, 1) := by decide +kernel
theorem dX4_heaviestNow_49 : decode cX4_heaviestNow 49 = .ok (.goto 4, 3) := by decide +kernel
theorem dX4_heaviestNow_52 : decode cX4_heaviestNow 52 = .ok (.iload_n 1, 1) := by decide +kernel
theorem dX4_heaviestNow_53 : decode cX4_heaviestNow 53 = .ok (.istore_n 1, 1) := by decide +kernel
theorem dX4_heaviestNow_54 : decode cX4_heaviestNow 54 = .ok (.iinc 2 1, 3) := by decide +kernel
theorem dX4_heaviestNow_57 : decode cX4_heaviestNow 57 = .ok (.goto (-53), 3) := by decide +kernel
theorem dX4_heaviestNow_60 : decode cX4_heaviestNow 60 = .ok (.iload_n 1, 1) := by decide +kernel
theorem dX4_heaviestNow_61 : decode cX4_heaviestNow 61 = .ok (.ifCond .ge 9, 3) := by decide +kernel
theorem dX4_heaviestNow_64 : decode cX4_heaviestNow 64 = .ok (.ldc2_w 110, 3) := by decide +kernel
theorem dX4_heaviestNow_67 : decode cX4_heaviestNow 67 = .ok (.goto 5, 3) := by decide +kernel
theorem dX4_heaviestNow_70 : decode cX4_heaviestNow 70 = .ok (.iload_n 1, 1) := by decide +kernel
theorem dX4_heaviestNow_71 : decode cX4_heaviestNow 71 = .ok (.i2l, 1) := by decide +kernel
theorem dX4_heaviestNow_72 : decode cX4_heaviestNow 72 = .ok (.lreturn, 1) := by decide +kernel
set_option maxRecDepth 20000 in
theorem ggX4_heaviest_X4_heaviestNow : GoodIn wsX4_heaviest wsX4_heaviestNow := goodIn_r _ [5, 6, 7, 8, 9, 4, 10, 11, 12, 13, 14, 15, 16, 17, 18, 19, 20, 21, 22, 23, 24, 25, 26, 27, 28, 29, 30, 31, 32, 33, 34, 35, 36, 37, 38, 39, 40, 41, 42, 43, 44, 45, 46, 47, 48, 49, 50, 51, 52, 53, 54, 55, 56, 57, 58, 59, 60, 61, 62, 63, 64, 65, 66, 67, 68, 69, 70, 71, 72, 73, 74, 75, 76, 77, 78, 79, 80, 81, 82, 83] (by decide +kernel) (by decide +kernel)
set_option maxRecDepth 20000 in
theorem gX4_heaviest_X4_heaviestNow : GoodIn wsX4_heaviest (wsV RX4 209 RX4 yX4_heaviestNow wsX4_heaviestNow) := goodIn_app (goodIn_of _ (by decide +kernel)) ggX4_heaviest_X4_heaviestNow
theorem dX4_heaviest_0 : decode cX4_heaviest 0 = .ok (.aload_n 0, 1) := by decide +kernel
theorem dX4_heaviest_1 : decode cX4_heaviest 1 = .ok (.invokevirtual 209, 3) := by decide +kernel
theorem dX4_heaviest_4 : decode cX4_heaviest 4 = .ok (.lreturn, 1) := by decide +kernel
theorem dX4_rowCount_0 : decode cX4_rowCount 0 = .ok (.aload_n 0, 1) := by decide +kernel
theorem dX4_rowCount_1 : decode cX4_rowCount 1 = .ok (.getfield 85, 3) := by decide +kernel
theorem dX4_rowCount_4 : decode cX4_rowCount 4 = .ok (.i2l, 1) := by decide +kernel
theorem dX4_rowCount_5 : decode cX4_rowCount 5 = .ok (.lreturn, 1) := by decide +kernel
theorem dX4_mix_0 : decode cX4_mix 0 = .ok (.aload_n 0, 1) := by decide +kernel
theorem dX4_mix_1 : decode cX4_mix 1 = .ok (.ldc2_w 213, 3) := by decide +kernel
theorem dX4_mix_4 : decode cX4_mix 4 = .ok (.aload_n 0, 1) := by decide +kernel
theorem dX4_mix_5 : decode cX4_mix 5 = .ok (.getfield 215, 3) := by decide +kernel
theorem dX4_mix_8 : decode cX4_mix 8 = .ok (.lmul, 1) := by decide +kernel
theorem dX4_mix_9 : decode cX4_mix 9 = .ok (.lload_n 1, 1) := by decide +kernel
theorem dX4_mix_10 : decode cX4_mix 10 = .ok (.ladd, 1) := by decide +kernel
theorem dX4_mix_11 : decode cX4_mix 11 = .ok (.putfield 215, 3) := by decide +kernel
theorem dX4_mix_14 : decode cX4_mix 14 = .ok (.return_, 1) := by decide +kernel
set_option maxRecDepth 20000 in
theorem ggX4_mixSurvey_X4_mix : GoodIn wsX4_mixSurvey wsX4_mix := goodIn_r _ [8, 9, 10, 98, 99, 100, 101, 102, 103, 104, 105, 106, 107, 108, 109, 110] (by decide +kernel) (by decide +kernel)
set_option maxRecDepth 20000 in
theorem gX4_mixSurvey_X4_mix : GoodIn wsX4_mixSurvey (wsV RX4 218 RX4 yX4_mix wsX4_mix) := goodIn_app (goodIn_of _ (by decide +kernel)) ggX4_mixSurvey_X4_mix
set_option maxRecDepth 20000 in
theorem ggX4_mixSurvey_X4_trimOf : GoodIn wsX4_mixSurvey wsX4_trimOf := goodIn_r _ [14, 15, 16, 17, 7, 18, 1, 19, 20, 21, 22, 98, 99, 100, 101, 102, 103, 104, 105, 106, 107, 108, 109, 110] (by decide +kernel) (by decide +kernel)
set_option maxRecDepth 20000 in
theorem gX4_mixSurvey_X4_trimOf : GoodIn wsX4_mixSurvey (wsV RX4 143 RX4 yX4_trimOf wsX4_trimOf) := goodIn_app (goodIn_of _ (by decide +kernel)) ggX4_mixSurvey_X4_trimOf
set_option maxRecDepth 20000 in
theorem ggX4_mixSurvey_X4_deflectionOf : GoodIn wsX4_mixSurvey wsX4_deflectionOf := goodIn_r _ [26, 19, 15, 16, 17, 7, 18, 1, 20, 21, 22, 98, 99, 100, 101, 102, 103, 104, 105, 106, 107, 108, 109, 110] (by decide +kernel) (by decide +kernel)
set_option maxRecDepth 20000 in
theorem gX4_mixSurvey_X4_deflectionOf : GoodIn wsX4_mixSurvey (wsV RX4 146 RX4 yX4_deflectionOf wsX4_deflectionOf) := goodIn_app (goodIn_of _ (by decide +kernel)) ggX4_mixSurvey_X4_deflectionOf
set_option maxRecDepth 20000 in
theorem ggX4_mixSurvey_X4_heelOf : GoodIn wsX4_mixSurvey wsX4_heelOf := goodIn_r _ [30, 1, 98, 99, 100, 101, 102, 103, 104, 105, 106, 107, 108, 109, 110] (by decide +kernel) (by decide +kernel)
set_option maxRecDepth 20000 in
theorem gX4_mixSurvey_X4_heelOf : GoodIn wsX4_mixSurvey (wsV RX4 149 RX4 yX4_heelOf wsX4_heelOf) := goodIn_app (goodIn_of _ (by decide +kernel)) ggX4_mixSurvey_X4_heelOf
set_option maxRecDepth 20000 in
theorem ggX4_mixSurvey_X4_quarter : GoodIn wsX4_mixSurvey wsX4_quarter := goodIn_r _ [34, 35, 36, 15, 16, 17, 7, 18, 1, 19, 20, 21, 22, 98, 99, 100, 101, 102, 103, 104, 105, 106, 107, 108, 109, 110] (by decide +kernel) (by decide +kernel)
set_option maxRecDepth 20000 in
theorem gX4_mixSurvey_X4_quarter : GoodIn wsX4_mixSurvey (wsV RX4 152 RX4 yX4_quarter wsX4_quarter) := goodIn_app (goodIn_of _ (by decide +kernel)) ggX4_mixSurvey_X4_quarter
set_option maxRecDepth 20000 in
theorem ggX4_mixSurvey_X4_firstTold : GoodIn wsX4_mixSurvey wsX4_firstTold := goodIn_r _ [40, 41, 42, 43, 44, 7, 45, 31, 32, 33, 34, 35, 36, 15, 16, 17, 18, 1, 19, 20, 21, 22, 46, 47, 48, 49, 50, 51, 52, 53, 54, 55, 56, 57, 58, 59, 60, 61, 62, 63, 64, 11, 12, 13, 14, 65, 66, 67, 68, 98, 99, 100, 101, 102, 103, 104, 105, 106, 107, 108, 109, 110] (by decide +kernel) (by decide +kernel)
set_option maxRecDepth 20000 in
theorem gX4_mixSurvey_X4_firstTold : GoodIn wsX4_mixSurvey (wsV RX4 177 RX4 yX4_firstTold wsX4_firstTold) := goodIn_app (goodIn_of _ (by decide +kernel)) ggX4_mixSurvey_X4_firstTold
set_option maxRecDepth 20000 in
theorem ggX4_mixSurvey_X4_secondTold : GoodIn wsX4_mixSurvey wsX4_secondTold := goodIn_r _ [72, 41, 42, 43, 44, 7, 45, 31, 32, 33, 34, 35, 36, 15, 16, 17, 18, 1, 19, 20, 21, 22, 46, 47, 48, 49, 50, 51, 52, 53, 54, 55, 56, 57, 58, 73, 74, 75, 76, 3, 77, 78, 64, 11, 12, 13, 14, 65, 66, 67, 68, 98, 99, 100, 101, 102, 103, 104, 105, 106, 107, 108, 109, 110] (by decide +kernel) (by decide +kernel)
set_option maxRecDepth 20000 in
theorem gX4_mixSurvey_X4_secondTold : GoodIn wsX4_mixSurvey (wsV RX4 180 RX4 yX4_secondTold wsX4_secondTold) := goodIn_app (goodIn_of _ (by decide +kernel)) ggX4_mixSurvey_X4_secondTold
set_option maxRecDepth 20000 in
theorem ggX4_mixSurvey_X4_displacedTold : GoodIn wsX4_mixSurvey wsX4_displacedTold := goodIn_r _ [82, 41, 42, 43, 44, 7, 45, 31, 32, 33, 34, 35, 36, 15, 16, 17, 18, 1, 19, 20, 21, 22, 46, 47, 48, 49, 50, 51, 52, 53, 54, 55, 56, 57, 58, 83, 84, 85, 86, 87, 88, 65, 66, 67, 68, 59, 60, 61, 62, 63, 64, 11, 12, 13, 14, 73, 74, 75, 76, 3, 77, 78, 98, 99, 100, 101, 102, 103, 104, 105, 106, 107, 108, 109, 110] (by decide +kernel) (by decide +kernel)
set_option maxRecDepth 20000 in
theorem gX4_mixSurvey_X4_displacedTold : GoodIn wsX4_mixSurvey (wsV RX4 185 RX4 yX4_displacedTold wsX4_displacedTold) := goodIn_app (goodIn_of _ (by decide +kernel)) ggX4_mixSurvey_X4_displacedTold
set_option maxRecDepth 20000 in
theorem ggX4_mixSurvey_X4_netTold : GoodIn wsX4_mixSurvey wsX4_netTold := goodIn_r _ [92, 41, 42, 43, 44, 7, 45, 31, 32, 33, 34, 35, 36, 15, 16, 17, 18, 1, 19, 20, 21, 22, 46, 47, 48, 49, 50, 51, 52, 53, 54, 55, 56, 57, 58, 93, 94, 95, 96, 97, 83, 84, 85, 86, 87, 88, 65, 66, 67, 68, 59, 60, 61, 62, 63, 64, 11, 12, 13, 14, 73, 74, 75, 76, 3, 77, 78, 98, 99, 100, 101, 102, 103, 104, 105, 106, 107, 108, 109, 110] (by decide +kernel) (by decide +kernel)
set_option maxRecDepth 20000 in
theorem gX4_mixSurvey_X4_netTold : GoodIn wsX4_mixSurvey (wsV RX4 188 RX4 yX4_netTold wsX4_netTold) := goodIn_app (goodIn_of _ (by decide +kernel)) ggX4_mixSurvey_X4_netTold
theorem dX4_mixSurvey_0 : decode cX4_mixSurvey 0 = .ok (.iconst 0, 1) := by decide +kernel
theorem dX4_mixSurvey_1 : decode cX4_mixSurvey 1 = .ok (.istore_n 2, 1) := by decide +kernel
theorem dX4_mixSurvey_2 : decode cX4_mixSurvey 2 = .ok (.iload_n 2, 1) := by decide +kernel
theorem dX4_mixSurvey_3 : decode cX4_mixSurvey 3 = .ok (.bipush 6, 2) := by decide +kernel
theorem dX4_mixSurvey_5 : decode cX4_mixSurvey 5 = .ok (.if_icmp .ge 24, 3) := by decide +kernel
theorem dX4_mixSurvey_8 : decode cX4_mixSurvey 8 = .ok (.aload_n 0, 1) := by decide +kernel
theorem dX4_mixSurvey_9 : decode cX4_mixSurvey 9 = .ok (.aload_n 0, 1) := by decide +kernel
theorem dX4_mixSurvey_10 : decode cX4_mixSurvey 10 = .ok (.getfield 17, 3) := by decide +kernel
theorem dX4_mixSurvey_13 : decode cX4_mixSurvey 13 = .ok (.bipush 6, 2) := by decide +kernel
theorem dX4_mixSurvey_15 : decode cX4_mixSurvey 15 = .ok (.iload_n 1, 1) := by decide +kernel
theorem dX4_mixSurvey_16 : decode cX4_mixSurvey 16 = .ok (.imul, 1) := by decide +kernel
theorem dX4_mixSurvey_17 : decode cX4_mixSurvey 17 = .ok (.iload_n 2, 1) := by decide +kernel
theorem dX4_mixSurvey_18 : decode cX4_mixSurvey 18 = .ok (.iadd, 1) := by decide +kernel
theorem dX4_mixSurvey_19 : decode cX4_mixSurvey 19 = .ok (.laload, 1) := by decide +kernel
theorem dX4_mixSurvey_20 : decode cX4_mixSurvey 20 = .ok (.invokevirtual 218, 3) := by decide +kernel
theorem dX4_mixSurvey_23 : decode cX4_mixSurvey 23 = .ok (.iinc 2 1, 3) := by decide +kernel
theorem dX4_mixSurvey_26 : decode cX4_mixSurvey 26 = .ok (.goto (-24), 3) := by decide +kernel
theorem dX4_mixSurvey_29 : decode cX4_mixSurvey 29 = .ok (.aload_n 0, 1) := by decide +kernel
theorem dX4_mixSurvey_30 : decode cX4_mixSurvey 30 = .ok (.aload_n 0, 1) := by decide +kernel
theorem dX4_mixSurvey_31 : decode cX4_mixSurvey 31 = .ok (.iload_n 1, 1) := by decide +kernel
theorem dX4_mixSurvey_32 : decode cX4_mixSurvey 32 = .ok (.lconst 0, 1) := by decide +kernel
theorem dX4_mixSurvey_33 : decode cX4_mixSurvey 33 = .ok (.invokevirtual 143, 3) := by decide +kernel
theorem dX4_mixSurvey_36 : decode cX4_mixSurvey 36 = .ok (.invokevirtual 218, 3) := by decide +kernel
theorem dX4_mixSurvey_39 : decode cX4_mixSurvey 39 = .ok (.aload_n 0, 1) := by decide +kernel
theorem dX4_mixSurvey_40 : decode cX4_mixSurvey 40 = .ok (.aload_n 0, 1) := by decide +kernel
theorem dX4_mixSurvey_41 : decode cX4_mixSurvey 41 = .ok (.iload_n 1, 1) := by decide +kernel
theorem dX4_mixSurvey_42 : decode cX4_mixSurvey 42 = .ok (.invokevirtual 146, 3) := by decide +kernel
theorem dX4_mixSurvey_45 : decode cX4_mixSurvey 45 = .ok (.invokevirtual 218, 3) := by decide +kernel
theorem dX4_mixSurvey_48 : decode cX4_mixSurvey 48 = .ok (.aload_n 0, 1) := by decide +kernel
theorem dX4_mixSurvey_49 : decode cX4_mixSurvey 49 = .ok (.aload_n 0, 1) := by decide +kernel
theorem dX4_mixSurvey_50 : decode cX4_mixSurvey 50 = .ok (.iload_n 1, 1) := by decide +kernel
theorem dX4_mixSurvey_51 : decode cX4_mixSurvey 51 = .ok (.invokevirtual 149, 3) := by decide +kernel
theorem dX4_mixSurvey_54 : decode cX4_mixSurvey 54 = .ok (.invokevirtual 218, 3) := by decide +kernel
theorem dX4_mixSurvey_57 : decode cX4_mixSurvey 57 = .ok (.aload_n 0, 1) := by decide +kernel
theorem dX4_mixSurvey_58 : decode cX4_mixSurvey 58 = .ok (.aload_n 0, 1) := by decide +kernel
theorem dX4_mixSurvey_59 : decode cX4_mixSurvey 59 = .ok (.iload_n 1, 1) := by decide +kernel
theorem dX4_mixSurvey_60 : decode cX4_mixSurvey 60 = .ok (.lconst 0, 1) := by decide +kernel
theorem dX4_mixSurvey_61 : decode cX4_mixSurvey 61 = .ok (.invokevirtual 152, 3) := by decide +kernel
theorem dX4_mixSurvey_64 : decode cX4_mixSurvey 64 = .ok (.invokevirtual 218, 3) := by decide +kernel
theorem dX4_mixSurvey_67 : decode cX4_mixSurvey 67 = .ok (.aload_n 0, 1) := by decide +kernel
theorem dX4_mixSurvey_68 : decode cX4_mixSurvey 68 = .ok (.aload_n 0, 1) := by decide +kernel
theorem dX4_mixSurvey_69 : decode cX4_mixSurvey 69 = .ok (.iload_n 1, 1) := by decide +kernel
theorem dX4_mixSurvey_70 : decode cX4_mixSurvey 70 = .ok (.invokevirtual 177, 3) := by decide +kernel
theorem dX4_mixSurvey_73 : decode cX4_mixSurvey 73 = .ok (.invokevirtual 218, 3) := by decide +kernel
theorem dX4_mixSurvey_76 : decode cX4_mixSurvey 76 = .ok (.aload_n 0, 1) := by decide +kernel
theorem dX4_mixSurvey_77 : decode cX4_mixSurvey 77 = .ok (.aload_n 0, 1) := by decide +kernel
theorem dX4_mixSurvey_78 : decode cX4_mixSurvey 78 = .ok (.iload_n 1, 1) := by decide +kernel
theorem dX4_mixSurvey_79 : decode cX4_mixSurvey 79 = .ok (.invokevirtual 180, 3) := by decide +kernel
theorem dX4_mixSurvey_82 : decode cX4_mixSurvey 82 = .ok (.invokevirtual 218, 3) := by decide +kernel
theorem dX4_mixSurvey_85 : decode cX4_mixSurvey 85 = .ok (.aload_n 0, 1) := by decide +kernel
theorem dX4_mixSurvey_86 : decode cX4_mixSurvey 86 = .ok (.aload_n 0, 1) := by decide +kernel
theorem dX4_mixSurvey_87 : decode cX4_mixSurvey 87 = .ok (.iload_n 1, 1) := by decide +kernel
theorem dX4_mixSurvey_88 : decode cX4_mixSurvey 88 = .ok (.ldc2_w 222, 3) := by decide +kernel
theorem dX4_mixSurvey_91 : decode cX4_mixSurvey 91 = .ok (.invokevirtual 185, 3) := by decide +kernel
theorem dX4_mixSurvey_94 : decode cX4_mixSurvey 94 = .ok (.invokevirtual 218, 3) := by decide +kernel
theorem dX4_mixSurvey_97 : decode cX4_mixSurvey 97 = .ok (.aload_n 0, 1) := by decide +kernel
theorem dX4_mixSurvey_98 : decode cX4_mixSurvey 98 = .ok (.aload_n 0, 1) := by decide +kernel
theorem dX4_mixSurvey_99 : decode cX4_mixSurvey 99 = .ok (.iload_n 1, 1) := by decide +kernel
theorem dX4_mixSurvey_100 : decode cX4_mixSurvey 100 = .ok (.lconst 0, 1) := by decide +kernel
theorem dX4_mixSurvey_101 : decode cX4_mixSurvey 101 = .ok (.invokevirtual 185, 3) := by decide +kernel
theorem dX4_mixSurvey_104 : decode cX4_mixSurvey 104 = .ok (.invokevirtual 218, 3) := by decide +kernel
theorem dX4_mixSurvey_107 : decode cX4_mixSurvey 107 = .ok (.aload_n 0, 1) := by decide +kernel
theorem dX4_mixSurvey_108 : decode cX4_mixSurvey 108 = .ok (.aload_n 0, 1) := by decide +kernel
theorem dX4_mixSurvey_109 : decode cX4_mixSurvey 109 = .ok (.iload_n 1, 1) := by decide +kernel
theorem dX4_mixSurvey_110 : decode cX4_mixSurvey 110 = .ok (.ldc2_w 155, 3) := by decide +kernel
theorem dX4_mixSurvey_113 : decode cX4_mixSurvey 113 = .ok (.invokevirtual 185, 3) := by decide +kernel
theorem dX4_mixSurvey_116 : decode cX4_mixSurvey 116 = .ok (.invokevirtual 218, 3) := by decide +kernel
theorem dX4_mixSurvey_119 : decode cX4_mixSurvey 119 = .ok (.aload_n 0, 1) := by decide +kernel
theorem dX4_mixSurvey_120 : decode cX4_mixSurvey 120 = .ok (.aload_n 0, 1) := by decide +kernel
theorem dX4_mixSurvey_121 : decode cX4_mixSurvey 121 = .ok (.iload_n 1, 1) := by decide +kernel
theorem dX4_mixSurvey_122 : decode cX4_mixSurvey 122 = .ok (.invokevirtual 188, 3) := by decide +kernel
theorem dX4_mixSurvey_125 : decode cX4_mixSurvey 125 = .ok (.invokevirtual 218, 3) := by decide +kernel
theorem dX4_mixSurvey_128 : decode cX4_mixSurvey 128 = .ok (.return_, 1) := by decide +kernel
set_option maxRecDepth 20000 in
theorem ggX4_digest_X4_mix : GoodIn wsX4_digest wsX4_mix := goodIn_r _ [13, 14, 2, 134, 135, 136, 137, 138, 139, 140, 141, 142, 143, 144, 145, 146] (by decide +kernel) (by decide +kernel)
set_option maxRecDepth 20000 in
theorem gX4_digest_X4_mix : GoodIn wsX4_digest (wsV RX4 218 RX4 yX4_mix wsX4_mix) := goodIn_app (goodIn_of _ (by decide +kernel)) ggX4_digest_X4_mix
set_option maxRecDepth 20000 in
theorem ggX4_digest_X4_mixSurvey : GoodIn wsX4_digest wsX4_mixSurvey := goodIn_r _ [18, 19, 20, 21, 9, 10, 11, 12, 13, 14, 2, 22, 23, 24, 25, 26, 27, 28, 29, 30, 31, 32, 33, 34, 35, 36, 37, 38, 39, 40, 41, 42, 43, 44, 45, 46, 47, 48, 49, 50, 51, 52, 53, 54, 55, 56, 57, 58, 59, 60, 3, 61, 62, 63, 64, 4, 65, 66, 67, 68, 69, 70, 71, 72, 5, 73, 74, 75, 76, 77, 78, 79, 80, 81, 82, 83, 84, 85, 86, 87, 88, 89, 90, 91, 92, 93, 94, 95, 96, 97, 98, 99, 100, 101, 102, 103, 104, 105, 134, 135, 136, 137, 138, 139, 140, 141, 142, 143, 144, 145, 146] (by decide +kernel) (by decide +kernel)
set_option maxRecDepth 20000 in
theorem gX4_digest_X4_mixSurvey : GoodIn wsX4_digest (wsV RX4 226 RX4 yX4_mixSurvey wsX4_mixSurvey) := goodIn_app (goodIn_of _ (by decide +kernel)) ggX4_digest_X4_mixSurvey
set_option maxRecDepth 20000 in
theorem ggX4_digest_X4_cargoTold : GoodIn wsX4_digest wsX4_cargoTold := goodIn_r _ [109, 52, 53, 54, 55, 12, 56, 42, 43, 44, 45, 46, 47, 26, 27, 28, 29, 19, 30, 31, 32, 33, 57, 58, 59, 60, 3, 61, 62, 63, 64, 4, 65, 66, 67, 101, 102, 103, 104, 105, 91, 92, 93, 94, 95, 96, 73, 74, 75, 76, 68, 69, 70, 71, 72, 5, 22, 23, 24, 25, 81, 82, 83, 84, 21, 85, 86, 134, 135, 136, 137, 138, 139, 140, 141, 142, 143, 144, 145, 146] (by decide +kernel) (by decide +kernel)
set_option maxRecDepth 20000 in
theorem gX4_digest_X4_cargoTold : GoodIn wsX4_digest (wsV RX4 191 RX4 yX4_cargoTold wsX4_cargoTold) := goodIn_app (goodIn_of _ (by decide +kernel)) ggX4_digest_X4_cargoTold
set_option maxRecDepth 20000 in
theorem ggX4_digest_X4_lowTold : GoodIn wsX4_digest wsX4_lowTold := goodIn_r _ [113, 52, 114, 115, 116, 12, 117, 6, 53, 54, 55, 56, 42, 43, 44, 45, 46, 47, 26, 27, 28, 29, 19, 30, 31, 32, 33, 57, 58, 59, 60, 3, 61, 62, 63, 64, 4, 65, 66, 67, 118, 119, 120, 121, 101, 102, 103, 104, 105, 91, 92, 93, 94, 95, 96, 73, 74, 75, 76, 68, 69, 70, 71, 72, 5, 22, 23, 24, 25, 81, 82, 83, 84, 21, 85, 86, 122, 123, 124, 125, 134, 135, 136, 137, 138, 139, 140, 141, 142, 143, 144, 145, 146] (by decide +kernel) (by decide +kernel)
set_option maxRecDepth 20000 in
theorem gX4_digest_X4_lowTold : GoodIn wsX4_digest (wsV RX4 203 RX4 yX4_lowTold wsX4_lowTold) := goodIn_app (goodIn_of _ (by decide +kernel)) ggX4_digest_X4_lowTold
set_option maxRecDepth 20000 in
theorem ggX4_digest_X4_highTold : GoodIn wsX4_digest wsX4_highTold := goodIn_r _ [129, 52, 114, 115, 116, 12, 117, 6, 53, 54, 55, 56, 42, 43, 44, 45, 46, 47, 26, 27, 28, 29, 19, 30, 31, 32, 33, 57, 58, 59, 60, 3, 61, 62, 63, 64, 4, 65, 66, 67, 122, 123, 124, 125, 101, 102, 103, 104, 105, 91, 92, 93, 94, 95, 96, 73, 74, 75, 76, 68, 69, 70, 71, 72, 5, 22, 23, 24, 25, 81, 82, 83, 84, 21, 85, 86, 118, 119, 120, 121, 134, 135, 136, 137, 138, 139, 140, 141, 142, 143, 144, 145, 146] (by decide +kernel) (by decide +kernel)
set_option maxRecDepth 20000 in
theorem gX4_digest_X4_highTold : GoodIn wsX4_digest (wsV RX4 206 RX4 yX4_highTold wsX4_highTold) := goodIn_app (goodIn_of _ (by decide +kernel)) ggX4_digest_X4_highTold
set_option maxRecDepth 20000 in
theorem ggX4_digest_X4_heaviestNow : GoodIn wsX4_digest wsX4_heaviestNow := goodIn_r _ [133, 52, 53, 54, 55, 12, 56, 42, 43, 44, 45, 46, 47, 26, 27, 28, 29, 19, 30, 31, 32, 33, 57, 58, 59, 60, 3, 61, 62, 63, 64, 4, 65, 66, 67, 101, 102, 103, 104, 105, 91, 92, 93, 94, 95, 96, 73, 74, 75, 76, 68, 69, 70, 71, 72, 5, 22, 23, 24, 25, 81, 82, 83, 84, 21, 85, 86, 134, 135, 136, 137, 138, 139, 140, 141, 142, 143, 144, 145, 146] (by decide +kernel) (by decide +kernel)
set_option maxRecDepth 20000 in
theorem gX4_digest_X4_heaviestNow : GoodIn wsX4_digest (wsV RX4 209 RX4 yX4_heaviestNow wsX4_heaviestNow) := goodIn_app (goodIn_of _ (by decide +kernel)) ggX4_digest_X4_heaviestNow
theorem dX4_digest_0 : decode cX4_digest 0 = .ok (.aload_n 0, 1) := by decide +kernel
theorem dX4_digest_1 : decode cX4_digest 1 = .ok (.ldc2_w 224, 3) := by decide +kernel
theorem dX4_digest_4 : decode cX4_digest 4 = .ok (.putfield 215, 3) := by decide +kernel
theorem dX4_digest_7 : decode cX4_digest 7 = .ok (.aload_n 0, 1) := by decide +kernel
theorem dX4_digest_8 : decode cX4_digest 8 = .ok (.aload_n 0, 1) := by decide +kernel
theorem dX4_digest_9 : decode cX4_digest 9 = .ok (.getfield 85, 3) := by decide +kernel
theorem dX4_digest_12 : decode cX4_digest 12 = .ok (.i2l, 1) := by decide +kernel
theorem dX4_digest_13 : decode cX4_digest 13 = .ok (.invokevirtual 218, 3) := by decide +kernel
theorem dX4_digest_16 : decode cX4_digest 16 = .ok (.iconst 0, 1) := by decide +kernel
theorem dX4_digest_17 : decode cX4_digest 17 = .ok (.istore_n 1, 1) := by decide +kernel
theorem dX4_digest_18 : decode cX4_digest 18 = .ok (.iload_n 1, 1) := by decide +kernel
theorem dX4_digest_19 : decode cX4_digest 19 = .ok (.iconst 5, 1) := by decide +kernel
theorem dX4_digest_20 : decode cX4_digest 20 = .ok (.aload_n 0, 1) := by decide +kernel
theorem dX4_digest_21 : decode cX4_digest 21 = .ok (.getfield 85, 3) := by decide +kernel
theorem dX4_digest_24 : decode cX4_digest 24 = .ok (.imul, 1) := by decide +kernel
theorem dX4_digest_25 : decode cX4_digest 25 = .ok (.if_icmp .ge 19, 3) := by decide +kernel
theorem dX4_digest_28 : decode cX4_digest 28 = .ok (.aload_n 0, 1) := by decide +kernel
theorem dX4_digest_29 : decode cX4_digest 29 = .ok (.aload_n 0, 1) := by decide +kernel
theorem dX4_digest_30 : decode cX4_digest 30 = .ok (.getfield 13, 3) := by decide +kernel
theorem dX4_digest_33 : decode cX4_digest 33 = .ok (.iload_n 1, 1) := by decide +kernel
theorem dX4_digest_34 : decode cX4_digest 34 = .ok (.laload, 1) := by decide +kernel
theorem dX4_digest_35 : decode cX4_digest 35 = .ok (.invokevirtual 218, 3) := by decide +kernel
theorem dX4_digest_38 : decode cX4_digest 38 = .ok (.iinc 1 1, 3) := by decide +kernel
theorem dX4_digest_41 : decode cX4_digest 41 = .ok (.goto (-23), 3) := by decide +kernel
theorem dX4_digest_44 : decode cX4_digest 44 = .ok (.iconst 0, 1) := by decide +kernel
theorem dX4_digest_45 : decode cX4_digest 45 = .ok (.istore_n 1, 1) := by decide +kernel
theorem dX4_digest_46 : decode cX4_digest 46 = .ok (.iload_n 1, 1) := by decide +kernel
theorem dX4_digest_47 : decode cX4_digest 47 = .ok (.iconst 4, 1) := by decide +kernel
theorem dX4_digest_48 : decode cX4_digest 48 = .ok (.if_icmp .ge 14, 3) := by decide +kernel
theorem dX4_digest_51 : decode cX4_digest 51 = .ok (.aload_n 0, 1) := by decide +kernel
theorem dX4_digest_52 : decode cX4_digest 52 = .ok (.iload_n 1, 1) := by decide +kernel
theorem dX4_digest_53 : decode cX4_digest 53 = .ok (.invokevirtual 226, 3) := by decide +kernel
theorem dX4_digest_56 : decode cX4_digest 56 = .ok (.iinc 1 1, 3) := by decide +kernel
theorem dX4_digest_59 : decode cX4_digest 59 = .ok (.goto (-13), 3) := by decide +kernel
theorem dX4_digest_62 : decode cX4_digest 62 = .ok (.aload_n 0, 1) := by decide +kernel
theorem dX4_digest_63 : decode cX4_digest 63 = .ok (.aload_n 0, 1) := by decide +kernel
theorem dX4_digest_64 : decode cX4_digest 64 = .ok (.iconst 0, 1) := by decide +kernel
theorem dX4_digest_65 : decode cX4_digest 65 = .ok (.iconst 1, 1) := by decide +kernel
theorem dX4_digest_66 : decode cX4_digest 66 = .ok (.invokevirtual 191, 3) := by decide +kernel
theorem dX4_digest_69 : decode cX4_digest 69 = .ok (.invokevirtual 218, 3) := by decide +kernel
theorem dX4_digest_72 : decode cX4_digest 72 = .ok (.aload_n 0, 1) := by decide +kernel
theorem dX4_digest_73 : decode cX4_digest 73 = .ok (.aload_n 0, 1) := by decide +kernel
theorem dX4_digest_74 : decode cX4_digest 74 = .ok (.iconst 0, 1) := by decide +kernel
theorem dX4_digest_75 : decode cX4_digest 75 = .ok (.iconst 1, 1) := by decide +kernel
theorem dX4_digest_76 : decode cX4_digest 76 = .ok (.invokevirtual 203, 3) := by decide +kernel
theorem dX4_digest_79 : decode cX4_digest 79 = .ok (.invokevirtual 218, 3) := by decide +kernel
theorem dX4_digest_82 : decode cX4_digest 82 = .ok (.aload_n 0, 1) := by decide +kernel
theorem dX4_digest_83 : decode cX4_digest 83 = .ok (.aload_n 0, 1) := by decide +kernel
theorem dX4_digest_84 : decode cX4_digest 84 = .ok (.iconst 0, 1) := by decide +kernel
theorem dX4_digest_85 : decode cX4_digest 85 = .ok (.iconst 1, 1) := by decide +kernel
theorem dX4_digest_86 : decode cX4_digest 86 = .ok (.invokevirtual 206, 3) := by decide +kernel
theorem dX4_digest_89 : decode cX4_digest 89 = .ok (.invokevirtual 218, 3) := by decide +kernel
theorem dX4_digest_92 : decode cX4_digest 92 = .ok (.aload_n 0, 1) := by decide +kernel
theorem dX4_digest_93 : decode cX4_digest 93 = .ok (.aload_n 0, 1) := by decide +kernel
theorem dX4_digest_94 : decode cX4_digest 94 = .ok (.invokevirtual 209, 3) := by decide +kernel
theorem dX4_digest_97 : decode cX4_digest 97 = .ok (.invokevirtual 218, 3) := by decide +kernel
theorem dX4_digest_100 : decode cX4_digest 100 = .ok (.aload_n 0, 1) := by decide +kernel
theorem dX4_digest_101 : decode cX4_digest 101 = .ok (.aload_n 0, 1) := by decide +kernel
theorem dX4_digest_102 : decode cX4_digest 102 = .ok (.getfield 28, 3) := by decide +kernel
theorem dX4_digest_105 : decode cX4_digest 105 = .ok (.invokevirtual 218, 3) := by decide +kernel
theorem dX4_digest_108 : decode cX4_digest 108 = .ok (.aload_n 0, 1) := by decide +kernel
theorem dX4_digest_109 : decode cX4_digest 109 = .ok (.aload_n 0, 1) := by decide +kernel
theorem dX4_digest_110 : decode cX4_digest 110 = .ok (.getfield 118, 3) := by decide +kernel
theorem dX4_digest_113 : decode cX4_digest 113 = .ok (.invokevirtual 218, 3) := by decide +kernel
theorem dX4_digest_116 : decode cX4_digest 116 = .ok (.aload_n 0, 1) := by decide +kernel
theorem dX4_digest_117 : decode cX4_digest 117 = .ok (.aload_n 0, 1) := by decide +kernel
theorem dX4_digest_118 : decode cX4_digest 118 = .ok (.getfield 47, 3) := by decide +kernel
theorem dX4_digest_121 : decode cX4_digest 121 = .ok (.i2l, 1) := by decide +kernel
theorem dX4_digest_122 : decode cX4_digest 122 = .ok (.invokevirtual 218, 3) := by decide +kernel
theorem dX4_digest_125 : decode cX4_digest 125 = .ok (.iconst 0, 1) := by decide +kernel
theorem dX4_digest_126 : decode cX4_digest 126 = .ok (.istore_n 1, 1) := by decide +kernel
theorem dX4_digest_127 : decode cX4_digest 127 = .ok (.iload_n 1, 1) := by decide +kernel
