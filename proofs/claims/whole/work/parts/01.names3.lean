theorem dX10_keepsEntryAlive_28 : decode cX10_keepsEntryAlive 28 = .ok (.iconst 0, 1) := by decide +kernel
theorem dX10_keepsEntryAlive_29 : decode cX10_keepsEntryAlive 29 = .ok (.ireturn, 1) := by decide +kernel
set_option maxRecDepth 20000 in
theorem ggX10_typeFigure_X1_takesNumber : GoodIn wsX10_typeFigure wsX1_takesNumber := goodIn_r _ [8, 9, 26, 27, 28, 29, 30, 31, 32, 33, 34, 35, 36] (by decide +kernel) (by decide +kernel)
set_option maxRecDepth 20000 in
theorem gX10_typeFigure_X1_takesNumber : GoodIn wsX10_typeFigure (wsV RX10 316 RX1 yX1_takesNumber wsX1_takesNumber) := goodIn_app (goodIn_of _ (by decide +kernel)) ggX10_typeFigure_X1_takesNumber
set_option maxRecDepth 20000 in
theorem ggX10_typeFigure_X1_places : GoodIn wsX10_typeFigure wsX1_places := goodIn_r _ [13, 9, 14, 15, 16, 26, 27, 28, 29, 30, 31, 32, 33, 34, 35, 36, 37, 38, 39, 40, 41, 42, 43, 44, 45, 46, 47, 48, 49, 50, 51, 52, 53, 54, 55, 56] (by decide +kernel) (by decide +kernel)
set_option maxRecDepth 20000 in
theorem gX10_typeFigure_X1_places : GoodIn wsX10_typeFigure (wsV RX10 230 RX1 yX1_places wsX1_places) := goodIn_app (goodIn_of _ (by decide +kernel)) ggX10_typeFigure_X1_places
set_option maxRecDepth 20000 in
theorem ggX10_typeFigure_X9_addFigure : GoodIn wsX10_typeFigure wsX9_addFigure := goodIn_r _ [21, 22, 23, 24, 25, 57, 58, 59, 60] (by decide +kernel) (by decide +kernel)
set_option maxRecDepth 20000 in
theorem gX10_typeFigure_X9_addFigure : GoodIn wsX10_typeFigure (wsV RX10 319 RX9 yX9_addFigure wsX9_addFigure) := goodIn_app (goodIn_of _ (by decide +kernel)) ggX10_typeFigure_X9_addFigure
theorem dX10_typeFigure_0 : decode cX10_typeFigure 0 = .ok (.aload_n 1, 1) := by decide +kernel
theorem dX10_typeFigure_1 : decode cX10_typeFigure 1 = .ok (.invokevirtual 316, 3) := by decide +kernel
theorem dX10_typeFigure_4 : decode cX10_typeFigure 4 = .ok (.ifCond .eq 28, 3) := by decide +kernel
theorem dX10_typeFigure_7 : decode cX10_typeFigure 7 = .ok (.aload_n 1, 1) := by decide +kernel
theorem dX10_typeFigure_8 : decode cX10_typeFigure 8 = .ok (.getfield 106, 3) := by decide +kernel
theorem dX10_typeFigure_11 : decode cX10_typeFigure 11 = .ok (.getfield 226, 3) := by decide +kernel
theorem dX10_typeFigure_14 : decode cX10_typeFigure 14 = .ok (.iload_n 2, 1) := by decide +kernel
theorem dX10_typeFigure_15 : decode cX10_typeFigure 15 = .ok (.aload_n 1, 1) := by decide +kernel
theorem dX10_typeFigure_16 : decode cX10_typeFigure 16 = .ok (.invokevirtual 230, 3) := by decide +kernel
theorem dX10_typeFigure_19 : decode cX10_typeFigure 19 = .ok (.invokevirtual 319, 3) := by decide +kernel
theorem dX10_typeFigure_22 : decode cX10_typeFigure 22 = .ok (.ifCond .eq 10, 3) := by decide +kernel
theorem dX10_typeFigure_25 : decode cX10_typeFigure 25 = .ok (.aload_n 1, 1) := by decide +kernel
theorem dX10_typeFigure_26 : decode cX10_typeFigure 26 = .ok (.getfield 141, 3) := by decide +kernel
theorem dX10_typeFigure_29 : decode cX10_typeFigure 29 = .ok (.goto 4, 3) := by decide +kernel
theorem dX10_typeFigure_32 : decode cX10_typeFigure 32 = .ok (.iconst (-1), 1) := by decide +kernel
theorem dX10_typeFigure_33 : decode cX10_typeFigure 33 = .ok (.ireturn, 1) := by decide +kernel
set_option maxRecDepth 20000 in
theorem ggX10_typePoint_X1_takesNumber : GoodIn wsX10_typePoint wsX1_takesNumber := goodIn_r _ [8, 9, 24, 25, 26, 27, 28, 29, 30, 31, 32, 33, 34] (by decide +kernel) (by decide +kernel)
set_option maxRecDepth 20000 in
theorem gX10_typePoint_X1_takesNumber : GoodIn wsX10_typePoint (wsV RX10 316 RX1 yX1_takesNumber wsX1_takesNumber) := goodIn_app (goodIn_of _ (by decide +kernel)) ggX10_typePoint_X1_takesNumber
set_option maxRecDepth 20000 in
theorem ggX10_typePoint_X1_places : GoodIn wsX10_typePoint wsX1_places := goodIn_r _ [13, 9, 14, 15, 16, 24, 25, 26, 27, 28, 29, 30, 31, 32, 33, 34, 35, 36, 37, 38, 39, 40, 41, 42, 43, 44, 45, 46, 47, 48, 49, 50, 51, 52, 53, 54] (by decide +kernel) (by decide +kernel)
set_option maxRecDepth 20000 in
theorem gX10_typePoint_X1_places : GoodIn wsX10_typePoint (wsV RX10 230 RX1 yX1_places wsX1_places) := goodIn_app (goodIn_of _ (by decide +kernel)) ggX10_typePoint_X1_places
set_option maxRecDepth 20000 in
theorem ggX10_typePoint_X9_addPoint : GoodIn wsX10_typePoint wsX9_addPoint := goodIn_r _ [21, 22, 23, 55, 56, 57, 58] (by decide +kernel) (by decide +kernel)
set_option maxRecDepth 20000 in
theorem gX10_typePoint_X9_addPoint : GoodIn wsX10_typePoint (wsV RX10 323 RX9 yX9_addPoint wsX9_addPoint) := goodIn_app (goodIn_of _ (by decide +kernel)) ggX10_typePoint_X9_addPoint
theorem dX10_typePoint_0 : decode cX10_typePoint 0 = .ok (.aload_n 1, 1) := by decide +kernel
theorem dX10_typePoint_1 : decode cX10_typePoint 1 = .ok (.invokevirtual 316, 3) := by decide +kernel
theorem dX10_typePoint_4 : decode cX10_typePoint 4 = .ok (.ifCond .eq 27, 3) := by decide +kernel
theorem dX10_typePoint_7 : decode cX10_typePoint 7 = .ok (.aload_n 1, 1) := by decide +kernel
theorem dX10_typePoint_8 : decode cX10_typePoint 8 = .ok (.getfield 106, 3) := by decide +kernel
theorem dX10_typePoint_11 : decode cX10_typePoint 11 = .ok (.getfield 226, 3) := by decide +kernel
theorem dX10_typePoint_14 : decode cX10_typePoint 14 = .ok (.aload_n 1, 1) := by decide +kernel
theorem dX10_typePoint_15 : decode cX10_typePoint 15 = .ok (.invokevirtual 230, 3) := by decide +kernel
theorem dX10_typePoint_18 : decode cX10_typePoint 18 = .ok (.invokevirtual 323, 3) := by decide +kernel
theorem dX10_typePoint_21 : decode cX10_typePoint 21 = .ok (.ifCond .eq 10, 3) := by decide +kernel
theorem dX10_typePoint_24 : decode cX10_typePoint 24 = .ok (.aload_n 1, 1) := by decide +kernel
theorem dX10_typePoint_25 : decode cX10_typePoint 25 = .ok (.getfield 141, 3) := by decide +kernel
theorem dX10_typePoint_28 : decode cX10_typePoint 28 = .ok (.goto 4, 3) := by decide +kernel
theorem dX10_typePoint_31 : decode cX10_typePoint 31 = .ok (.iconst (-1), 1) := by decide +kernel
theorem dX10_typePoint_32 : decode cX10_typePoint 32 = .ok (.ireturn, 1) := by decide +kernel
set_option maxRecDepth 20000 in
theorem ggX10_pressClear_X1_goTo : GoodIn wsX10_pressClear wsX1_goTo := goodIn_r _ [8, 9, 10, 11, 12, 13, 14, 15, 16, 17, 18, 19, 20, 59, 60, 61, 62, 63, 64, 65, 66, 67, 68, 69, 70, 71, 72, 73, 74, 75, 76, 77, 78, 79, 80] (by decide +kernel) (by decide +kernel)
set_option maxRecDepth 20000 in
theorem gX10_pressClear_X1_goTo : GoodIn wsX10_pressClear (wsV RX10 326 RX1 yX1_goTo wsX1_goTo) := goodIn_app (goodIn_of _ (by decide +kernel)) ggX10_pressClear_X1_goTo
set_option maxRecDepth 20000 in
theorem ggX10_pressClear_X1_takesNumber : GoodIn wsX10_pressClear wsX1_takesNumber := goodIn_r _ [24, 9, 59, 60, 61, 62, 63, 64, 65, 66, 67, 68, 69] (by decide +kernel) (by decide +kernel)
set_option maxRecDepth 20000 in
theorem gX10_pressClear_X1_takesNumber : GoodIn wsX10_pressClear (wsV RX10 316 RX1 yX1_takesNumber wsX1_takesNumber) := goodIn_app (goodIn_of _ (by decide +kernel)) ggX10_pressClear_X1_takesNumber
set_option maxRecDepth 20000 in
theorem ggX10_pressClear_X9_length : GoodIn wsX10_pressClear wsX9_length := goodIn_r _ [28, 20, 18, 77, 78, 79, 80] (by decide +kernel) (by decide +kernel)
set_option maxRecDepth 20000 in
theorem gX10_pressClear_X9_length : GoodIn wsX10_pressClear (wsV RX10 239 RX9 yX9_length wsX9_length) := goodIn_app (goodIn_of _ (by decide +kernel)) ggX10_pressClear_X9_length
set_option maxRecDepth 20000 in
theorem ggX10_pressClear_X9_clear : GoodIn wsX10_pressClear wsX9_clear := goodIn_r _ [16, 17, 18, 19, 20, 77, 78, 79, 80] (by decide +kernel) (by decide +kernel)
set_option maxRecDepth 20000 in
theorem gX10_pressClear_X9_clear : GoodIn wsX10_pressClear (wsV RX10 329 RX9 yX9_clear wsX9_clear) := goodIn_app (goodIn_of _ (by decide +kernel)) ggX10_pressClear_X9_clear
set_option maxRecDepth 20000 in
theorem ggX10_pressClear_X10_dropEntry : GoodIn wsX10_pressClear wsX10_dropEntry := goodIn_r _ [34, 1, 2, 35, 36, 37, 38, 39, 40, 41, 42, 4, 5, 6, 7, 8, 9, 10, 11, 12, 13, 14, 15, 16, 17, 18, 19, 20, 43, 44, 45, 33, 46, 47, 48, 49, 50, 51, 52, 53, 54, 55, 56, 57, 58, 59, 60, 61, 62, 63, 64, 65, 66, 67, 68, 69, 70, 71, 72, 73, 74, 75, 76, 77, 78, 79, 80, 81, 82, 83, 84, 85, 86, 87, 88, 89, 90, 91] (by decide +kernel) (by decide +kernel)
set_option maxRecDepth 20000 in
theorem gX10_pressClear_X10_dropEntry : GoodIn wsX10_pressClear (wsV RX10 332 RX10 yX10_dropEntry wsX10_dropEntry) := goodIn_app (goodIn_of _ (by decide +kernel)) ggX10_pressClear_X10_dropEntry
theorem dX10_pressClear_0 : decode cX10_pressClear 0 = .ok (.aload_n 1, 1) := by decide +kernel
theorem dX10_pressClear_1 : decode cX10_pressClear 1 = .ok (.getfield 141, 3) := by decide +kernel
theorem dX10_pressClear_4 : decode cX10_pressClear 4 = .ok (.iconst 5, 1) := by decide +kernel
theorem dX10_pressClear_5 : decode cX10_pressClear 5 = .ok (.if_icmp .ne 11, 3) := by decide +kernel
theorem dX10_pressClear_8 : decode cX10_pressClear 8 = .ok (.aload_n 1, 1) := by decide +kernel
theorem dX10_pressClear_9 : decode cX10_pressClear 9 = .ok (.iconst 3, 1) := by decide +kernel
theorem dX10_pressClear_10 : decode cX10_pressClear 10 = .ok (.invokevirtual 326, 3) := by decide +kernel
theorem dX10_pressClear_13 : decode cX10_pressClear 13 = .ok (.goto 43, 3) := by decide +kernel
theorem dX10_pressClear_16 : decode cX10_pressClear 16 = .ok (.aload_n 1, 1) := by decide +kernel
theorem dX10_pressClear_17 : decode cX10_pressClear 17 = .ok (.invokevirtual 316, 3) := by decide +kernel
theorem dX10_pressClear_20 : decode cX10_pressClear 20 = .ok (.ifCond .ne 5, 3) := by decide +kernel
theorem dX10_pressClear_23 : decode cX10_pressClear 23 = .ok (.iconst (-1), 1) := by decide +kernel
theorem dX10_pressClear_24 : decode cX10_pressClear 24 = .ok (.ireturn, 1) := by decide +kernel
theorem dX10_pressClear_25 : decode cX10_pressClear 25 = .ok (.aload_n 1, 1) := by decide +kernel
theorem dX10_pressClear_26 : decode cX10_pressClear 26 = .ok (.getfield 106, 3) := by decide +kernel
theorem dX10_pressClear_29 : decode cX10_pressClear 29 = .ok (.getfield 226, 3) := by decide +kernel
theorem dX10_pressClear_32 : decode cX10_pressClear 32 = .ok (.invokevirtual 239, 3) := by decide +kernel
theorem dX10_pressClear_35 : decode cX10_pressClear 35 = .ok (.ifCond .le 16, 3) := by decide +kernel
theorem dX10_pressClear_38 : decode cX10_pressClear 38 = .ok (.aload_n 1, 1) := by decide +kernel
theorem dX10_pressClear_39 : decode cX10_pressClear 39 = .ok (.getfield 106, 3) := by decide +kernel
theorem dX10_pressClear_42 : decode cX10_pressClear 42 = .ok (.getfield 226, 3) := by decide +kernel
theorem dX10_pressClear_45 : decode cX10_pressClear 45 = .ok (.invokevirtual 329, 3) := by decide +kernel
theorem dX10_pressClear_48 : decode cX10_pressClear 48 = .ok (.goto 8, 3) := by decide +kernel
theorem dX10_pressClear_51 : decode cX10_pressClear 51 = .ok (.aload_n 0, 1) := by decide +kernel
theorem dX10_pressClear_52 : decode cX10_pressClear 52 = .ok (.aload_n 1, 1) := by decide +kernel
theorem dX10_pressClear_53 : decode cX10_pressClear 53 = .ok (.invokevirtual 332, 3) := by decide +kernel
theorem dX10_pressClear_56 : decode cX10_pressClear 56 = .ok (.aload_n 1, 1) := by decide +kernel
theorem dX10_pressClear_57 : decode cX10_pressClear 57 = .ok (.getfield 141, 3) := by decide +kernel
theorem dX10_pressClear_60 : decode cX10_pressClear 60 = .ok (.ireturn, 1) := by decide +kernel
set_option maxRecDepth 20000 in
theorem ggX10_pressEnter_X1_takesNumber : GoodIn wsX10_pressEnter wsX1_takesNumber := goodIn_r _ [8, 9, 126, 127, 128, 129, 130, 131, 132, 133, 134, 135, 136] (by decide +kernel) (by decide +kernel)
set_option maxRecDepth 20000 in
theorem gX10_pressEnter_X1_takesNumber : GoodIn wsX10_pressEnter (wsV RX10 316 RX1 yX1_takesNumber wsX1_takesNumber) := goodIn_app (goodIn_of _ (by decide +kernel)) ggX10_pressEnter_X1_takesNumber
set_option maxRecDepth 20000 in
theorem ggX10_pressEnter_X9_isComplete : GoodIn wsX10_pressEnter wsX9_isComplete := goodIn_r _ [14, 15, 16, 17, 144, 145, 146, 147] (by decide +kernel) (by decide +kernel)
set_option maxRecDepth 20000 in
theorem gX10_pressEnter_X9_isComplete : GoodIn wsX10_pressEnter (wsV RX10 336 RX9 yX9_isComplete wsX9_isComplete) := goodIn_app (goodIn_of _ (by decide +kernel)) ggX10_pressEnter_X9_isComplete
set_option maxRecDepth 20000 in
theorem ggX10_pressEnter_X1_places : GoodIn wsX10_pressEnter wsX1_places := goodIn_r _ [21, 9, 22, 23, 24, 126, 127, 128, 129, 130, 131, 132, 133, 134, 135, 136, 137, 138, 139, 140, 141, 142, 143, 148, 149, 150, 151, 152, 153, 154, 155, 156, 157, 158, 159, 160] (by decide +kernel) (by decide +kernel)
set_option maxRecDepth 20000 in
theorem gX10_pressEnter_X1_places : GoodIn wsX10_pressEnter (wsV RX10 230 RX1 yX1_places wsX1_places) := goodIn_app (goodIn_of _ (by decide +kernel)) ggX10_pressEnter_X1_places
set_option maxRecDepth 20000 in
theorem ggX10_pressEnter_X9_inUnits : GoodIn wsX10_pressEnter wsX9_inUnits := goodIn_r _ [28, 29, 17, 144, 145, 146, 147] (by decide +kernel) (by decide +kernel)
set_option maxRecDepth 20000 in
theorem gX10_pressEnter_X9_inUnits : GoodIn wsX10_pressEnter (wsV RX10 233 RX9 yX9_inUnits wsX9_inUnits) := goodIn_app (goodIn_of _ (by decide +kernel)) ggX10_pressEnter_X9_inUnits
set_option maxRecDepth 20000 in
theorem ggX10_pressEnter_X10_enterDrug : GoodIn wsX10_pressEnter wsX10_enterDrug := goodIn_r _ [34, 1, 35, 36, 37, 3, 38, 39, 40, 33, 41, 42, 43, 44, 45, 7, 46, 9, 22, 47, 48, 49, 50, 13, 51, 29, 15, 17, 16, 126, 127, 128, 129, 130, 131, 132, 133, 134, 135, 136, 161, 162, 163, 164, 165, 166, 167, 168, 137, 138, 139, 140, 141, 142, 143, 148, 149, 150, 151, 152, 153, 154, 155, 156, 157, 158, 159, 160, 144, 145, 146, 147] (by decide +kernel) (by decide +kernel)
set_option maxRecDepth 20000 in
theorem gX10_pressEnter_X10_enterDrug : GoodIn wsX10_pressEnter (wsV RX10 339 RX10 yX10_enterDrug wsX10_enterDrug) := goodIn_app (goodIn_of _ (by decide +kernel)) ggX10_pressEnter_X10_enterDrug
set_option maxRecDepth 20000 in
theorem ggX10_pressEnter_X10_enterWeight : GoodIn wsX10_pressEnter wsX10_enterWeight := goodIn_r _ [55, 1, 56, 3, 43, 44, 45, 7, 46, 9, 22, 47, 48, 49, 50, 13, 51, 29, 15, 17, 16, 126, 127, 128, 129, 130, 131, 132, 133, 134, 135, 136, 137, 138, 139, 140, 141, 142, 143, 144, 145, 146, 147] (by decide +kernel) (by decide +kernel)
set_option maxRecDepth 20000 in
theorem gX10_pressEnter_X10_enterWeight : GoodIn wsX10_pressEnter (wsV RX10 342 RX10 yX10_enterWeight wsX10_enterWeight) := goodIn_app (goodIn_of _ (by decide +kernel)) ggX10_pressEnter_X10_enterWeight
set_option maxRecDepth 20000 in
theorem ggX10_pressEnter_X10_enterAmount : GoodIn wsX10_pressEnter wsX10_enterAmount := goodIn_r _ [60, 1, 36, 56, 61, 62, 2, 63, 64, 65, 3, 66, 67, 68, 69, 70, 71, 72, 73, 74, 75, 76, 77, 78, 79, 80, 81, 82, 83, 84, 49, 50, 13, 51, 29, 15, 17, 16, 85, 86, 87, 33, 88, 89, 90, 91, 92, 93, 94, 95, 96, 97, 98, 99, 100, 43, 44, 45, 7, 46, 9, 22, 47, 48, 126, 127, 128, 129, 130, 131, 132, 133, 134, 135, 136, 137, 138, 139, 140, 141, 142, 143, 148, 149, 150, 151, 152, 153, 154, 155, 156, 157, 158, 159, 160, 144, 145, 146, 147, 161, 162, 163, 164, 165, 166, 167, 168, 169, 170, 171] (by decide +kernel) (by decide +kernel)
set_option maxRecDepth 20000 in
theorem gX10_pressEnter_X10_enterAmount : GoodIn wsX10_pressEnter (wsV RX10 345 RX10 yX10_enterAmount wsX10_enterAmount) := goodIn_app (goodIn_of _ (by decide +kernel)) ggX10_pressEnter_X10_enterAmount
set_option maxRecDepth 20000 in
theorem ggX10_pressEnter_X10_enterVolume : GoodIn wsX10_pressEnter wsX10_enterVolume := goodIn_r _ [104, 1, 105, 36, 63, 56, 106, 107, 108, 3, 66, 67, 68, 69, 70, 71, 72, 73, 74, 75, 76, 77, 78, 79, 80, 81, 82, 83, 109, 110, 111, 112, 113, 114, 115, 116, 117, 118, 119, 120, 121, 122, 123, 124, 125, 43, 44, 45, 7, 46, 9, 22, 47, 48, 49, 50, 13, 51, 29, 15, 17, 16, 85, 86, 87, 33, 88, 89, 90, 91, 92, 93, 94, 95, 96, 97, 98, 99, 100, 126, 127, 128, 129, 130, 131, 132, 133, 134, 135, 136, 137, 138, 139, 140, 141, 142, 143, 172, 173, 174, 175, 176, 177, 178, 179, 148, 149, 150, 151, 152, 153, 154, 155, 156, 157, 158, 159, 160, 144, 145, 146, 147, 161, 162, 163, 164, 165, 166, 167, 168, 169, 170, 171] (by decide +kernel) (by decide +kernel)
set_option maxRecDepth 20000 in
theorem gX10_pressEnter_X10_enterVolume : GoodIn wsX10_pressEnter (wsV RX10 348 RX10 yX10_enterVolume wsX10_enterVolume) := goodIn_app (goodIn_of _ (by decide +kernel)) ggX10_pressEnter_X10_enterVolume
theorem dX10_pressEnter_0 : decode cX10_pressEnter 0 = .ok (.aload_n 1, 1) := by decide +kernel
theorem dX10_pressEnter_1 : decode cX10_pressEnter 1 = .ok (.invokevirtual 316, 3) := by decide +kernel
theorem dX10_pressEnter_4 : decode cX10_pressEnter 4 = .ok (.ifCond .eq 16, 3) := by decide +kernel
theorem dX10_pressEnter_7 : decode cX10_pressEnter 7 = .ok (.aload_n 1, 1) := by decide +kernel
theorem dX10_pressEnter_8 : decode cX10_pressEnter 8 = .ok (.getfield 106, 3) := by decide +kernel
theorem dX10_pressEnter_11 : decode cX10_pressEnter 11 = .ok (.getfield 226, 3) := by decide +kernel
theorem dX10_pressEnter_14 : decode cX10_pressEnter 14 = .ok (.invokevirtual 336, 3) := by decide +kernel
theorem dX10_pressEnter_17 : decode cX10_pressEnter 17 = .ok (.ifCond .ne 5, 3) := by decide +kernel
theorem dX10_pressEnter_20 : decode cX10_pressEnter 20 = .ok (.iconst (-1), 1) := by decide +kernel
theorem dX10_pressEnter_21 : decode cX10_pressEnter 21 = .ok (.ireturn, 1) := by decide +kernel
theorem dX10_pressEnter_22 : decode cX10_pressEnter 22 = .ok (.aload_n 1, 1) := by decide +kernel
theorem dX10_pressEnter_23 : decode cX10_pressEnter 23 = .ok (.getfield 106, 3) := by decide +kernel
theorem dX10_pressEnter_26 : decode cX10_pressEnter 26 = .ok (.getfield 226, 3) := by decide +kernel
theorem dX10_pressEnter_29 : decode cX10_pressEnter 29 = .ok (.aload_n 1, 1) := by decide +kernel
theorem dX10_pressEnter_30 : decode cX10_pressEnter 30 = .ok (.invokevirtual 230, 3) := by decide +kernel
theorem dX10_pressEnter_33 : decode cX10_pressEnter 33 = .ok (.invokevirtual 233, 3) := by decide +kernel
theorem dX10_pressEnter_36 : decode cX10_pressEnter 36 = .ok (.istore_n 2, 1) := by decide +kernel
theorem dX10_pressEnter_37 : decode cX10_pressEnter 37 = .ok (.aload_n 1, 1) := by decide +kernel
theorem dX10_pressEnter_38 : decode cX10_pressEnter 38 = .ok (.getfield 141, 3) := by decide +kernel
theorem dX10_pressEnter_41 : decode cX10_pressEnter 41 = .ok (.tableswitch 48 1 3 #[27, 34, 41], 27) := by decide +kernel
theorem dX10_pressEnter_68 : decode cX10_pressEnter 68 = .ok (.aload_n 0, 1) := by decide +kernel
theorem dX10_pressEnter_69 : decode cX10_pressEnter 69 = .ok (.aload_n 1, 1) := by decide +kernel
theorem dX10_pressEnter_70 : decode cX10_pressEnter 70 = .ok (.iload_n 2, 1) := by decide +kernel
theorem dX10_pressEnter_71 : decode cX10_pressEnter 71 = .ok (.invokevirtual 339, 3) := by decide +kernel
theorem dX10_pressEnter_74 : decode cX10_pressEnter 74 = .ok (.ireturn, 1) := by decide +kernel
theorem dX10_pressEnter_75 : decode cX10_pressEnter 75 = .ok (.aload_n 0, 1) := by decide +kernel
theorem dX10_pressEnter_76 : decode cX10_pressEnter 76 = .ok (.aload_n 1, 1) := by decide +kernel
theorem dX10_pressEnter_77 : decode cX10_pressEnter 77 = .ok (.iload_n 2, 1) := by decide +kernel
theorem dX10_pressEnter_78 : decode cX10_pressEnter 78 = .ok (.invokevirtual 342, 3) := by decide +kernel
theorem dX10_pressEnter_81 : decode cX10_pressEnter 81 = .ok (.ireturn, 1) := by decide +kernel
theorem dX10_pressEnter_82 : decode cX10_pressEnter 82 = .ok (.aload_n 0, 1) := by decide +kernel
theorem dX10_pressEnter_83 : decode cX10_pressEnter 83 = .ok (.aload_n 1, 1) := by decide +kernel
theorem dX10_pressEnter_84 : decode cX10_pressEnter 84 = .ok (.iload_n 2, 1) := by decide +kernel
theorem dX10_pressEnter_85 : decode cX10_pressEnter 85 = .ok (.invokevirtual 345, 3) := by decide +kernel
theorem dX10_pressEnter_88 : decode cX10_pressEnter 88 = .ok (.ireturn, 1) := by decide +kernel
theorem dX10_pressEnter_89 : decode cX10_pressEnter 89 = .ok (.aload_n 0, 1) := by decide +kernel
theorem dX10_pressEnter_90 : decode cX10_pressEnter 90 = .ok (.aload_n 1, 1) := by decide +kernel
theorem dX10_pressEnter_91 : decode cX10_pressEnter 91 = .ok (.iload_n 2, 1) := by decide +kernel
theorem dX10_pressEnter_92 : decode cX10_pressEnter 92 = .ok (.invokevirtual 348, 3) := by decide +kernel
theorem dX10_pressEnter_95 : decode cX10_pressEnter 95 = .ok (.ireturn, 1) := by decide +kernel
set_option maxRecDepth 20000 in
theorem ggX10_enterDrug_X10_isTold : GoodIn wsX10_enterDrug wsX10_isTold := goodIn_r _ [10, 2, 11, 40, 41, 42, 43, 44, 45, 46, 47, 55, 56, 57, 58, 59, 60, 61, 62, 63, 64, 65, 66, 67] (by decide +kernel) (by decide +kernel)
set_option maxRecDepth 20000 in
theorem gX10_enterDrug_X10_isTold : GoodIn wsX10_enterDrug (wsV RX10 265 RX10 yX10_isTold wsX10_isTold) := goodIn_app (goodIn_of _ (by decide +kernel)) ggX10_enterDrug_X10_isTold
set_option maxRecDepth 20000 in
theorem ggX10_enterDrug_X1_goTo : GoodIn wsX10_enterDrug wsX1_goTo := goodIn_r _ [16, 17, 18, 19, 20, 21, 22, 23, 24, 25, 26, 27, 28, 29, 30, 31, 32, 33, 34, 35, 36, 37, 38, 39, 48, 49, 50, 51, 52, 53, 54, 68, 69, 70, 71] (by decide +kernel) (by decide +kernel)
set_option maxRecDepth 20000 in
theorem gX10_enterDrug_X1_goTo : GoodIn wsX10_enterDrug (wsV RX10 326 RX1 yX1_goTo wsX1_goTo) := goodIn_app (goodIn_of _ (by decide +kernel)) ggX10_enterDrug_X1_goTo
theorem dX10_enterDrug_0 : decode cX10_enterDrug 0 = .ok (.aload_n 0, 1) := by decide +kernel
theorem dX10_enterDrug_1 : decode cX10_enterDrug 1 = .ok (.iload_n 2, 1) := by decide +kernel
theorem dX10_enterDrug_2 : decode cX10_enterDrug 2 = .ok (.invokevirtual 265, 3) := by decide +kernel
theorem dX10_enterDrug_5 : decode cX10_enterDrug 5 = .ok (.ifCond .ne 5, 3) := by decide +kernel
theorem dX10_enterDrug_8 : decode cX10_enterDrug 8 = .ok (.iconst (-1), 1) := by decide +kernel
theorem dX10_enterDrug_9 : decode cX10_enterDrug 9 = .ok (.ireturn, 1) := by decide +kernel
theorem dX10_enterDrug_10 : decode cX10_enterDrug 10 = .ok (.aload_n 1, 1) := by decide +kernel
theorem dX10_enterDrug_11 : decode cX10_enterDrug 11 = .ok (.getfield 106, 3) := by decide +kernel
theorem dX10_enterDrug_14 : decode cX10_enterDrug 14 = .ok (.aload_n 0, 1) := by decide +kernel
theorem dX10_enterDrug_15 : decode cX10_enterDrug 15 = .ok (.getfield 11, 3) := by decide +kernel
theorem dX10_enterDrug_18 : decode cX10_enterDrug 18 = .ok (.iload_n 2, 1) := by decide +kernel
theorem dX10_enterDrug_19 : decode cX10_enterDrug 19 = .ok (.aaload, 1) := by decide +kernel
theorem dX10_enterDrug_20 : decode cX10_enterDrug 20 = .ok (.putfield 268, 3) := by decide +kernel
theorem dX10_enterDrug_23 : decode cX10_enterDrug 23 = .ok (.aload_n 1, 1) := by decide +kernel
theorem dX10_enterDrug_24 : decode cX10_enterDrug 24 = .ok (.aload_n 0, 1) := by decide +kernel
theorem dX10_enterDrug_25 : decode cX10_enterDrug 25 = .ok (.getfield 11, 3) := by decide +kernel
theorem dX10_enterDrug_28 : decode cX10_enterDrug 28 = .ok (.iload_n 2, 1) := by decide +kernel
theorem dX10_enterDrug_29 : decode cX10_enterDrug 29 = .ok (.aaload, 1) := by decide +kernel
theorem dX10_enterDrug_30 : decode cX10_enterDrug 30 = .ok (.getfield 62, 3) := by decide +kernel
theorem dX10_enterDrug_33 : decode cX10_enterDrug 33 = .ok (.iconst 1, 1) := by decide +kernel
theorem dX10_enterDrug_34 : decode cX10_enterDrug 34 = .ok (.if_icmp .ne 7, 3) := by decide +kernel
theorem dX10_enterDrug_37 : decode cX10_enterDrug 37 = .ok (.iconst 2, 1) := by decide +kernel
theorem dX10_enterDrug_38 : decode cX10_enterDrug 38 = .ok (.goto 4, 3) := by decide +kernel
theorem dX10_enterDrug_41 : decode cX10_enterDrug 41 = .ok (.iconst 3, 1) := by decide +kernel
theorem dX10_enterDrug_42 : decode cX10_enterDrug 42 = .ok (.invokevirtual 326, 3) := by decide +kernel
theorem dX10_enterDrug_45 : decode cX10_enterDrug 45 = .ok (.aload_n 1, 1) := by decide +kernel
theorem dX10_enterDrug_46 : decode cX10_enterDrug 46 = .ok (.getfield 141, 3) := by decide +kernel
theorem dX10_enterDrug_49 : decode cX10_enterDrug 49 = .ok (.ireturn, 1) := by decide +kernel
set_option maxRecDepth 20000 in
theorem ggX10_enterWeight_X1_goTo : GoodIn wsX10_enterWeight wsX1_goTo := goodIn_r _ [8, 9, 10, 11, 12, 13, 14, 15, 16, 17, 18, 19, 20, 21, 22, 23, 24, 25, 26, 27, 28, 29, 30, 31, 32, 33, 34, 35, 36, 37, 38, 39, 40, 41, 42] (by decide +kernel) (by decide +kernel)
set_option maxRecDepth 20000 in
theorem gX10_enterWeight_X1_goTo : GoodIn wsX10_enterWeight (wsV RX10 326 RX1 yX1_goTo wsX1_goTo) := goodIn_app (goodIn_of _ (by decide +kernel)) ggX10_enterWeight_X1_goTo
theorem dX10_enterWeight_0 : decode cX10_enterWeight 0 = .ok (.iload_n 2, 1) := by decide +kernel
theorem dX10_enterWeight_1 : decode cX10_enterWeight 1 = .ok (.iconst 5, 1) := by decide +kernel
theorem dX10_enterWeight_2 : decode cX10_enterWeight 2 = .ok (.if_icmp .lt 10, 3) := by decide +kernel
theorem dX10_enterWeight_5 : decode cX10_enterWeight 5 = .ok (.iload_n 2, 1) := by decide +kernel
theorem dX10_enterWeight_6 : decode cX10_enterWeight 6 = .ok (.sipush 3000, 3) := by decide +kernel
theorem dX10_enterWeight_9 : decode cX10_enterWeight 9 = .ok (.if_icmp .le 5, 3) := by decide +kernel
theorem dX10_enterWeight_12 : decode cX10_enterWeight 12 = .ok (.iconst (-1), 1) := by decide +kernel
theorem dX10_enterWeight_13 : decode cX10_enterWeight 13 = .ok (.ireturn, 1) := by decide +kernel
theorem dX10_enterWeight_14 : decode cX10_enterWeight 14 = .ok (.aload_n 1, 1) := by decide +kernel
theorem dX10_enterWeight_15 : decode cX10_enterWeight 15 = .ok (.getfield 106, 3) := by decide +kernel
theorem dX10_enterWeight_18 : decode cX10_enterWeight 18 = .ok (.iload_n 2, 1) := by decide +kernel
theorem dX10_enterWeight_19 : decode cX10_enterWeight 19 = .ok (.putfield 351, 3) := by decide +kernel
theorem dX10_enterWeight_22 : decode cX10_enterWeight 22 = .ok (.aload_n 1, 1) := by decide +kernel
theorem dX10_enterWeight_23 : decode cX10_enterWeight 23 = .ok (.iconst 3, 1) := by decide +kernel
theorem dX10_enterWeight_24 : decode cX10_enterWeight 24 = .ok (.invokevirtual 326, 3) := by decide +kernel
theorem dX10_enterWeight_27 : decode cX10_enterWeight 27 = .ok (.aload_n 1, 1) := by decide +kernel
theorem dX10_enterWeight_28 : decode cX10_enterWeight 28 = .ok (.getfield 141, 3) := by decide +kernel
theorem dX10_enterWeight_31 : decode cX10_enterWeight 31 = .ok (.ireturn, 1) := by decide +kernel
set_option maxRecDepth 20000 in
theorem ggX10_enterAmount_X2_rateFor : GoodIn wsX10_enterAmount wsX2_rateFor := goodIn_r _ [15, 16, 17, 18, 19, 20, 21, 22, 23, 24, 25, 26, 27, 28, 82, 83, 84, 85, 86, 87, 88, 89, 90, 91, 92, 93, 94] (by decide +kernel) (by decide +kernel)
set_option maxRecDepth 20000 in
theorem gX10_enterAmount_X2_rateFor : GoodIn wsX10_enterAmount (wsV RX10 247 RX2 yX2_rateFor wsX2_rateFor) := goodIn_app (goodIn_of _ (by decide +kernel)) ggX10_enterAmount_X2_rateFor
set_option maxRecDepth 20000 in
theorem ggX10_enterAmount_X9_clear : GoodIn wsX10_enterAmount wsX9_clear := goodIn_r _ [33, 34, 35, 36, 37, 95, 96, 97, 98] (by decide +kernel) (by decide +kernel)
set_option maxRecDepth 20000 in
theorem gX10_enterAmount_X9_clear : GoodIn wsX10_enterAmount (wsV RX10 329 RX9 yX9_clear wsX9_clear) := goodIn_app (goodIn_of _ (by decide +kernel)) ggX10_enterAmount_X9_clear
set_option maxRecDepth 20000 in
theorem ggX10_enterAmount_X10_note : GoodIn wsX10_enterAmount wsX10_note := goodIn_r _ [42, 43, 44, 45, 46, 47, 48, 49, 50, 51, 52, 53, 54, 99, 100, 101, 102, 103, 104, 105, 106, 64, 65, 66, 67, 68, 69, 70, 71, 72, 73, 74, 107, 108, 109] (by decide +kernel) (by decide +kernel)
set_option maxRecDepth 20000 in
theorem gX10_enterAmount_X10_note : GoodIn wsX10_enterAmount (wsV RX10 354 RX10 yX10_note wsX10_note) := goodIn_app (goodIn_of _ (by decide +kernel)) ggX10_enterAmount_X10_note
set_option maxRecDepth 20000 in
theorem ggX10_enterAmount_X1_goTo : GoodIn wsX10_enterAmount wsX1_goTo := goodIn_r _ [59, 60, 61, 62, 63, 30, 31, 32, 33, 34, 35, 36, 37, 64, 65, 66, 67, 68, 69, 70, 71, 72, 73, 74, 75, 76, 77, 78, 79, 80, 81, 95, 96, 97, 98] (by decide +kernel) (by decide +kernel)
set_option maxRecDepth 20000 in
theorem gX10_enterAmount_X1_goTo : GoodIn wsX10_enterAmount (wsV RX10 326 RX1 yX1_goTo wsX1_goTo) := goodIn_app (goodIn_of _ (by decide +kernel)) ggX10_enterAmount_X1_goTo
theorem dX10_enterAmount_0 : decode cX10_enterAmount 0 = .ok (.aload_n 1, 1) := by decide +kernel
theorem dX10_enterAmount_1 : decode cX10_enterAmount 1 = .ok (.getfield 106, 3) := by decide +kernel
theorem dX10_enterAmount_4 : decode cX10_enterAmount 4 = .ok (.getfield 268, 3) := by decide +kernel
theorem dX10_enterAmount_7 : decode cX10_enterAmount 7 = .ok (.astore_n 3, 1) := by decide +kernel
theorem dX10_enterAmount_8 : decode cX10_enterAmount 8 = .ok (.aload_n 3, 1) := by decide +kernel
theorem dX10_enterAmount_9 : decode cX10_enterAmount 9 = .ok (.iload_n 2, 1) := by decide +kernel
theorem dX10_enterAmount_10 : decode cX10_enterAmount 10 = .ok (.aload_n 1, 1) := by decide +kernel
theorem dX10_enterAmount_11 : decode cX10_enterAmount 11 = .ok (.getfield 106, 3) := by decide +kernel
theorem dX10_enterAmount_14 : decode cX10_enterAmount 14 = .ok (.getfield 351, 3) := by decide +kernel
theorem dX10_enterAmount_17 : decode cX10_enterAmount 17 = .ok (.invokevirtual 247, 3) := by decide +kernel
theorem dX10_enterAmount_20 : decode cX10_enterAmount 20 = .ok (.istore 4, 2) := by decide +kernel
theorem dX10_enterAmount_22 : decode cX10_enterAmount 22 = .ok (.iload_n 2, 1) := by decide +kernel
theorem dX10_enterAmount_23 : decode cX10_enterAmount 23 = .ok (.aload_n 3, 1) := by decide +kernel
theorem dX10_enterAmount_24 : decode cX10_enterAmount 24 = .ok (.getfield 68, 3) := by decide +kernel
theorem dX10_enterAmount_27 : decode cX10_enterAmount 27 = .ok (.if_icmp .lt 25, 3) := by decide +kernel
theorem dX10_enterAmount_30 : decode cX10_enterAmount 30 = .ok (.iload_n 2, 1) := by decide +kernel
theorem dX10_enterAmount_31 : decode cX10_enterAmount 31 = .ok (.aload_n 3, 1) := by decide +kernel
theorem dX10_enterAmount_32 : decode cX10_enterAmount 32 = .ok (.getfield 77, 3) := by decide +kernel
theorem dX10_enterAmount_35 : decode cX10_enterAmount 35 = .ok (.if_icmp .gt 17, 3) := by decide +kernel
theorem dX10_enterAmount_38 : decode cX10_enterAmount 38 = .ok (.iload 4, 2) := by decide +kernel
theorem dX10_enterAmount_40 : decode cX10_enterAmount 40 = .ok (.iconst 1, 1) := by decide +kernel
theorem dX10_enterAmount_41 : decode cX10_enterAmount 41 = .ok (.if_icmp .lt 11, 3) := by decide +kernel
theorem dX10_enterAmount_44 : decode cX10_enterAmount 44 = .ok (.iload 4, 2) := by decide +kernel
theorem dX10_enterAmount_46 : decode cX10_enterAmount 46 = .ok (.sipush 9999, 3) := by decide +kernel
theorem dX10_enterAmount_49 : decode cX10_enterAmount 49 = .ok (.if_icmp .le 23, 3) := by decide +kernel
theorem dX10_enterAmount_52 : decode cX10_enterAmount 52 = .ok (.aload_n 1, 1) := by decide +kernel
theorem dX10_enterAmount_53 : decode cX10_enterAmount 53 = .ok (.getfield 106, 3) := by decide +kernel
theorem dX10_enterAmount_56 : decode cX10_enterAmount 56 = .ok (.getfield 226, 3) := by decide +kernel
theorem dX10_enterAmount_59 : decode cX10_enterAmount 59 = .ok (.invokevirtual 329, 3) := by decide +kernel
theorem dX10_enterAmount_62 : decode cX10_enterAmount 62 = .ok (.aload_n 0, 1) := by decide +kernel
theorem dX10_enterAmount_63 : decode cX10_enterAmount 63 = .ok (.iconst 1, 1) := by decide +kernel
theorem dX10_enterAmount_64 : decode cX10_enterAmount 64 = .ok (.aload_n 1, 1) := by decide +kernel
theorem dX10_enterAmount_65 : decode cX10_enterAmount 65 = .ok (.iload_n 2, 1) := by decide +kernel
theorem dX10_enterAmount_66 : decode cX10_enterAmount 66 = .ok (.invokevirtual 354, 3) := by decide +kernel
theorem dX10_enterAmount_69 : decode cX10_enterAmount 69 = .ok (.bipush (-2), 2) := by decide +kernel
theorem dX10_enterAmount_71 : decode cX10_enterAmount 71 = .ok (.ireturn, 1) := by decide +kernel
theorem dX10_enterAmount_72 : decode cX10_enterAmount 72 = .ok (.aload_n 1, 1) := by decide +kernel
theorem dX10_enterAmount_73 : decode cX10_enterAmount 73 = .ok (.getfield 106, 3) := by decide +kernel
theorem dX10_enterAmount_76 : decode cX10_enterAmount 76 = .ok (.iload_n 2, 1) := by decide +kernel
theorem dX10_enterAmount_77 : decode cX10_enterAmount 77 = .ok (.putfield 358, 3) := by decide +kernel
theorem dX10_enterAmount_80 : decode cX10_enterAmount 80 = .ok (.aload_n 1, 1) := by decide +kernel
theorem dX10_enterAmount_81 : decode cX10_enterAmount 81 = .ok (.iload_n 2, 1) := by decide +kernel
theorem dX10_enterAmount_82 : decode cX10_enterAmount 82 = .ok (.aload_n 3, 1) := by decide +kernel
theorem dX10_enterAmount_83 : decode cX10_enterAmount 83 = .ok (.getfield 71, 3) := by decide +kernel
theorem dX10_enterAmount_86 : decode cX10_enterAmount 86 = .ok (.if_icmp .lt 15, 3) := by decide +kernel
theorem dX10_enterAmount_89 : decode cX10_enterAmount 89 = .ok (.iload_n 2, 1) := by decide +kernel
theorem dX10_enterAmount_90 : decode cX10_enterAmount 90 = .ok (.aload_n 3, 1) := by decide +kernel
theorem dX10_enterAmount_91 : decode cX10_enterAmount 91 = .ok (.getfield 74, 3) := by decide +kernel
theorem dX10_enterAmount_94 : decode cX10_enterAmount 94 = .ok (.if_icmp .gt 7, 3) := by decide +kernel
theorem dX10_enterAmount_97 : decode cX10_enterAmount 97 = .ok (.iconst 4, 1) := by decide +kernel
theorem dX10_enterAmount_98 : decode cX10_enterAmount 98 = .ok (.goto 4, 3) := by decide +kernel
theorem dX10_enterAmount_101 : decode cX10_enterAmount 101 = .ok (.iconst 5, 1) := by decide +kernel
theorem dX10_enterAmount_102 : decode cX10_enterAmount 102 = .ok (.invokevirtual 326, 3) := by decide +kernel
theorem dX10_enterAmount_105 : decode cX10_enterAmount 105 = .ok (.aload_n 1, 1) := by decide +kernel
theorem dX10_enterAmount_106 : decode cX10_enterAmount 106 = .ok (.getfield 141, 3) := by decide +kernel
theorem dX10_enterAmount_109 : decode cX10_enterAmount 109 = .ok (.ireturn, 1) := by decide +kernel
set_option maxRecDepth 20000 in
theorem ggX10_enterVolume_X2_rateFor : GoodIn wsX10_enterVolume wsX2_rateFor := goodIn_r _ [14, 15, 16, 17, 18, 19, 20, 21, 22, 23, 24, 25, 26, 27, 105, 106, 107, 108, 109, 110, 111, 112, 113, 114, 115, 116, 117] (by decide +kernel) (by decide +kernel)
set_option maxRecDepth 20000 in
theorem gX10_enterVolume_X2_rateFor : GoodIn wsX10_enterVolume (wsV RX10 247 RX2 yX2_rateFor wsX2_rateFor) := goodIn_app (goodIn_of _ (by decide +kernel)) ggX10_enterVolume_X2_rateFor
set_option maxRecDepth 20000 in
theorem ggX10_enterVolume_X7_renew : GoodIn wsX10_enterVolume wsX7_renew := goodIn_r _ [32, 33, 34, 35, 36, 37, 100, 101, 102, 103, 104] (by decide +kernel) (by decide +kernel)
set_option maxRecDepth 20000 in
theorem gX10_enterVolume_X7_renew : GoodIn wsX10_enterVolume (wsV RX10 361 RX7 yX7_renew wsX7_renew) := goodIn_app (goodIn_of _ (by decide +kernel)) ggX10_enterVolume_X7_renew
set_option maxRecDepth 20000 in
theorem ggX10_enterVolume_X3_forgetDrug : GoodIn wsX10_enterVolume wsX3_forgetDrug := goodIn_r _ [42, 43, 44, 90, 91, 92, 93, 94, 95, 96] (by decide +kernel) (by decide +kernel)
set_option maxRecDepth 20000 in
theorem gX10_enterVolume_X3_forgetDrug : GoodIn wsX10_enterVolume (wsV RX10 365 RX3 yX3_forgetDrug wsX3_forgetDrug) := goodIn_app (goodIn_of _ (by decide +kernel)) ggX10_enterVolume_X3_forgetDrug
set_option maxRecDepth 20000 in
theorem ggX10_enterVolume_X1_goTo : GoodIn wsX10_enterVolume wsX1_goTo := goodIn_r _ [49, 50, 51, 52, 53, 54, 55, 56, 57, 58, 59, 60, 61, 79, 80, 81, 82, 83, 84, 85, 86, 87, 88, 89, 90, 91, 92, 93, 94, 95, 96, 118, 119, 120, 121] (by decide +kernel) (by decide +kernel)
set_option maxRecDepth 20000 in
theorem gX10_enterVolume_X1_goTo : GoodIn wsX10_enterVolume (wsV RX10 326 RX1 yX1_goTo wsX1_goTo) := goodIn_app (goodIn_of _ (by decide +kernel)) ggX10_enterVolume_X1_goTo
set_option maxRecDepth 20000 in
theorem ggX10_enterVolume_X10_note : GoodIn wsX10_enterVolume wsX10_note := goodIn_r _ [66, 67, 68, 69, 70, 71, 72, 73, 74, 75, 76, 77, 78, 122, 123, 124, 125, 126, 127, 128, 129, 79, 80, 81, 82, 83, 84, 85, 86, 87, 88, 89, 130, 131, 132] (by decide +kernel) (by decide +kernel)
set_option maxRecDepth 20000 in
theorem gX10_enterVolume_X10_note : GoodIn wsX10_enterVolume (wsV RX10 354 RX10 yX10_note wsX10_note) := goodIn_app (goodIn_of _ (by decide +kernel)) ggX10_enterVolume_X10_note
theorem dX10_enterVolume_0 : decode cX10_enterVolume 0 = .ok (.aload_n 1, 1) := by decide +kernel
theorem dX10_enterVolume_1 : decode cX10_enterVolume 1 = .ok (.getfield 106, 3) := by decide +kernel
theorem dX10_enterVolume_4 : decode cX10_enterVolume 4 = .ok (.astore_n 3, 1) := by decide +kernel
theorem dX10_enterVolume_5 : decode cX10_enterVolume 5 = .ok (.aload_n 1, 1) := by decide +kernel
theorem dX10_enterVolume_6 : decode cX10_enterVolume 6 = .ok (.getfield 163, 3) := by decide +kernel
theorem dX10_enterVolume_9 : decode cX10_enterVolume 9 = .ok (.aload_n 3, 1) := by decide +kernel
theorem dX10_enterVolume_10 : decode cX10_enterVolume 10 = .ok (.getfield 268, 3) := by decide +kernel
theorem dX10_enterVolume_13 : decode cX10_enterVolume 13 = .ok (.aload_n 3, 1) := by decide +kernel
theorem dX10_enterVolume_14 : decode cX10_enterVolume 14 = .ok (.getfield 268, 3) := by decide +kernel
theorem dX10_enterVolume_17 : decode cX10_enterVolume 17 = .ok (.aload_n 3, 1) := by decide +kernel
theorem dX10_enterVolume_18 : decode cX10_enterVolume 18 = .ok (.getfield 358, 3) := by decide +kernel
theorem dX10_enterVolume_21 : decode cX10_enterVolume 21 = .ok (.aload_n 3, 1) := by decide +kernel
theorem dX10_enterVolume_22 : decode cX10_enterVolume 22 = .ok (.getfield 351, 3) := by decide +kernel
theorem dX10_enterVolume_25 : decode cX10_enterVolume 25 = .ok (.invokevirtual 247, 3) := by decide +kernel
theorem dX10_enterVolume_28 : decode cX10_enterVolume 28 = .ok (.iload_n 2, 1) := by decide +kernel
theorem dX10_enterVolume_29 : decode cX10_enterVolume 29 = .ok (.invokevirtual 361, 3) := by decide +kernel
theorem dX10_enterVolume_32 : decode cX10_enterVolume 32 = .ok (.aload_n 1, 1) := by decide +kernel
theorem dX10_enterVolume_33 : decode cX10_enterVolume 33 = .ok (.getfield 181, 3) := by decide +kernel
theorem dX10_enterVolume_36 : decode cX10_enterVolume 36 = .ok (.iconst 0, 1) := by decide +kernel
theorem dX10_enterVolume_37 : decode cX10_enterVolume 37 = .ok (.putfield 185, 3) := by decide +kernel
theorem dX10_enterVolume_40 : decode cX10_enterVolume 40 = .ok (.aload_n 3, 1) := by decide +kernel
theorem dX10_enterVolume_41 : decode cX10_enterVolume 41 = .ok (.invokevirtual 365, 3) := by decide +kernel
theorem dX10_enterVolume_44 : decode cX10_enterVolume 44 = .ok (.aload_n 1, 1) := by decide +kernel
theorem dX10_enterVolume_45 : decode cX10_enterVolume 45 = .ok (.bipush 6, 2) := by decide +kernel
theorem dX10_enterVolume_47 : decode cX10_enterVolume 47 = .ok (.invokevirtual 326, 3) := by decide +kernel
theorem dX10_enterVolume_50 : decode cX10_enterVolume 50 = .ok (.aload_n 0, 1) := by decide +kernel
theorem dX10_enterVolume_51 : decode cX10_enterVolume 51 = .ok (.iconst 0, 1) := by decide +kernel
theorem dX10_enterVolume_52 : decode cX10_enterVolume 52 = .ok (.aload_n 1, 1) := by decide +kernel
theorem dX10_enterVolume_53 : decode cX10_enterVolume 53 = .ok (.aload_n 1, 1) := by decide +kernel
theorem dX10_enterVolume_54 : decode cX10_enterVolume 54 = .ok (.getfield 163, 3) := by decide +kernel
theorem dX10_enterVolume_57 : decode cX10_enterVolume 57 = .ok (.getfield 167, 3) := by decide +kernel
theorem dX10_enterVolume_60 : decode cX10_enterVolume 60 = .ok (.invokevirtual 354, 3) := by decide +kernel
theorem dX10_enterVolume_63 : decode cX10_enterVolume 63 = .ok (.aload_n 1, 1) := by decide +kernel
theorem dX10_enterVolume_64 : decode cX10_enterVolume 64 = .ok (.getfield 141, 3) := by decide +kernel
theorem dX10_enterVolume_67 : decode cX10_enterVolume 67 = .ok (.ireturn, 1) := by decide +kernel
set_option maxRecDepth 20000 in
theorem ggX10_pressBegin_X1_isAtRest : GoodIn wsX10_pressBegin wsX1_isAtRest := goodIn_r _ [9, 10, 26, 27, 28, 29, 30, 31, 32, 33, 34, 35, 36] (by decide +kernel) (by decide +kernel)
set_option maxRecDepth 20000 in
theorem gX10_pressBegin_X1_isAtRest : GoodIn wsX10_pressBegin (wsV RX10 368 RX1 yX1_isAtRest wsX1_isAtRest) := goodIn_app (goodIn_of _ (by decide +kernel)) ggX10_pressBegin_X1_isAtRest
set_option maxRecDepth 20000 in
theorem ggX10_pressBegin_X1_goTo : GoodIn wsX10_pressBegin wsX1_goTo := goodIn_r _ [14, 10, 15, 16, 17, 18, 19, 20, 21, 22, 23, 24, 25, 26, 27, 28, 29, 30, 31, 32, 33, 34, 35, 36, 37, 38, 39, 40, 41, 42, 43, 44, 45, 46, 47] (by decide +kernel) (by decide +kernel)
set_option maxRecDepth 20000 in
theorem gX10_pressBegin_X1_goTo : GoodIn wsX10_pressBegin (wsV RX10 326 RX1 yX1_goTo wsX1_goTo) := goodIn_app (goodIn_of _ (by decide +kernel)) ggX10_pressBegin_X1_goTo
theorem dX10_pressBegin_0 : decode cX10_pressBegin 0 = .ok (.aload_n 1, 1) := by decide +kernel
theorem dX10_pressBegin_1 : decode cX10_pressBegin 1 = .ok (.invokevirtual 368, 3) := by decide +kernel
theorem dX10_pressBegin_4 : decode cX10_pressBegin 4 = .ok (.ifCond .ne 12, 3) := by decide +kernel
theorem dX10_pressBegin_7 : decode cX10_pressBegin 7 = .ok (.aload_n 1, 1) := by decide +kernel
theorem dX10_pressBegin_8 : decode cX10_pressBegin 8 = .ok (.getfield 141, 3) := by decide +kernel
theorem dX10_pressBegin_11 : decode cX10_pressBegin 11 = .ok (.ifCond .eq 5, 3) := by decide +kernel
theorem dX10_pressBegin_14 : decode cX10_pressBegin 14 = .ok (.iconst (-1), 1) := by decide +kernel
theorem dX10_pressBegin_15 : decode cX10_pressBegin 15 = .ok (.ireturn, 1) := by decide +kernel
theorem dX10_pressBegin_16 : decode cX10_pressBegin 16 = .ok (.aload_n 1, 1) := by decide +kernel
theorem dX10_pressBegin_17 : decode cX10_pressBegin 17 = .ok (.getfield 106, 3) := by decide +kernel
theorem dX10_pressBegin_20 : decode cX10_pressBegin 20 = .ok (.aload_n 1, 1) := by decide +kernel
theorem dX10_pressBegin_21 : decode cX10_pressBegin 21 = .ok (.getfield 141, 3) := by decide +kernel
theorem dX10_pressBegin_24 : decode cX10_pressBegin 24 = .ok (.putfield 371, 3) := by decide +kernel
theorem dX10_pressBegin_27 : decode cX10_pressBegin 27 = .ok (.aload_n 1, 1) := by decide +kernel
theorem dX10_pressBegin_28 : decode cX10_pressBegin 28 = .ok (.iconst 0, 1) := by decide +kernel
theorem dX10_pressBegin_29 : decode cX10_pressBegin 29 = .ok (.putfield 210, 3) := by decide +kernel
theorem dX10_pressBegin_32 : decode cX10_pressBegin 32 = .ok (.aload_n 1, 1) := by decide +kernel
theorem dX10_pressBegin_33 : decode cX10_pressBegin 33 = .ok (.iconst 1, 1) := by decide +kernel
theorem dX10_pressBegin_34 : decode cX10_pressBegin 34 = .ok (.invokevirtual 326, 3) := by decide +kernel
theorem dX10_pressBegin_37 : decode cX10_pressBegin 37 = .ok (.aload_n 1, 1) := by decide +kernel
theorem dX10_pressBegin_38 : decode cX10_pressBegin 38 = .ok (.getfield 141, 3) := by decide +kernel
theorem dX10_pressBegin_41 : decode cX10_pressBegin 41 = .ok (.ireturn, 1) := by decide +kernel
set_option maxRecDepth 20000 in
theorem ggX10_pressRun_X1_canRun : GoodIn wsX10_pressRun wsX1_canRun := goodIn_r _ [6, 7, 8, 9, 10, 11, 12, 5, 13, 14, 39, 40, 41, 42, 43, 44, 45, 46, 47, 48, 49, 50, 51, 52, 53, 54, 55, 56] (by decide +kernel) (by decide +kernel)
set_option maxRecDepth 20000 in
theorem gX10_pressRun_X1_canRun : GoodIn wsX10_pressRun (wsV RX10 374 RX1 yX1_canRun wsX1_canRun) := goodIn_app (goodIn_of _ (by decide +kernel)) ggX10_pressRun_X1_canRun
set_option maxRecDepth 20000 in
theorem ggX10_pressRun_X10_startRunning : GoodIn wsX10_pressRun wsX10_startRunning := goodIn_r _ [19, 1, 20, 21, 22, 23, 24, 25, 18, 26, 27, 28, 29, 30, 31, 32, 33, 34, 35, 36, 37, 38, 39, 40, 41, 42, 43, 44, 45, 46, 47, 48, 49, 57, 58, 59, 60, 61, 62, 63, 64, 65, 66, 67, 68, 69, 70, 71, 72] (by decide +kernel) (by decide +kernel)
set_option maxRecDepth 20000 in
theorem gX10_pressRun_X10_startRunning : GoodIn wsX10_pressRun (wsV RX10 377 RX10 yX10_startRunning wsX10_startRunning) := goodIn_app (goodIn_of _ (by decide +kernel)) ggX10_pressRun_X10_startRunning
theorem dX10_pressRun_0 : decode cX10_pressRun 0 = .ok (.aload_n 1, 1) := by decide +kernel
theorem dX10_pressRun_1 : decode cX10_pressRun 1 = .ok (.invokevirtual 374, 3) := by decide +kernel
theorem dX10_pressRun_4 : decode cX10_pressRun 4 = .ok (.ifCond .ne 5, 3) := by decide +kernel
theorem dX10_pressRun_7 : decode cX10_pressRun 7 = .ok (.iconst (-1), 1) := by decide +kernel
theorem dX10_pressRun_8 : decode cX10_pressRun 8 = .ok (.ireturn, 1) := by decide +kernel
theorem dX10_pressRun_9 : decode cX10_pressRun 9 = .ok (.aload_n 0, 1) := by decide +kernel
theorem dX10_pressRun_10 : decode cX10_pressRun 10 = .ok (.aload_n 1, 1) := by decide +kernel
theorem dX10_pressRun_11 : decode cX10_pressRun 11 = .ok (.invokevirtual 377, 3) := by decide +kernel
theorem dX10_pressRun_14 : decode cX10_pressRun 14 = .ok (.aload_n 1, 1) := by decide +kernel
theorem dX10_pressRun_15 : decode cX10_pressRun 15 = .ok (.getfield 141, 3) := by decide +kernel
theorem dX10_pressRun_18 : decode cX10_pressRun 18 = .ok (.ireturn, 1) := by decide +kernel
set_option maxRecDepth 20000 in
theorem ggX10_startRunning_X10_note : GoodIn wsX10_startRunning wsX10_note := goodIn_r _ [9, 10, 11, 12, 13, 14, 15, 16, 17, 18, 19, 20, 21, 38, 39, 40, 41, 42, 43, 44, 45, 22, 23, 24, 25, 26, 27, 28, 29, 30, 31, 32, 46, 47, 48] (by decide +kernel) (by decide +kernel)
set_option maxRecDepth 20000 in
theorem gX10_startRunning_X10_note : GoodIn wsX10_startRunning (wsV RX10 354 RX10 yX10_note wsX10_note) := goodIn_app (goodIn_of _ (by decide +kernel)) ggX10_startRunning_X10_note
theorem dX10_startRunning_0 : decode cX10_startRunning 0 = .ok (.aload_n 1, 1) := by decide +kernel
theorem dX10_startRunning_1 : decode cX10_startRunning 1 = .ok (.bipush 7, 2) := by decide +kernel
theorem dX10_startRunning_3 : decode cX10_startRunning 3 = .ok (.putfield 141, 3) := by decide +kernel
theorem dX10_startRunning_6 : decode cX10_startRunning 6 = .ok (.aload_n 1, 1) := by decide +kernel
theorem dX10_startRunning_7 : decode cX10_startRunning 7 = .ok (.iconst 0, 1) := by decide +kernel
theorem dX10_startRunning_8 : decode cX10_startRunning 8 = .ok (.putfield 210, 3) := by decide +kernel
theorem dX10_startRunning_11 : decode cX10_startRunning 11 = .ok (.aload_n 0, 1) := by decide +kernel
theorem dX10_startRunning_12 : decode cX10_startRunning 12 = .ok (.iconst 3, 1) := by decide +kernel
theorem dX10_startRunning_13 : decode cX10_startRunning 13 = .ok (.aload_n 1, 1) := by decide +kernel
theorem dX10_startRunning_14 : decode cX10_startRunning 14 = .ok (.aload_n 1, 1) := by decide +kernel
theorem dX10_startRunning_15 : decode cX10_startRunning 15 = .ok (.getfield 163, 3) := by decide +kernel
theorem dX10_startRunning_18 : decode cX10_startRunning 18 = .ok (.getfield 167, 3) := by decide +kernel
theorem dX10_startRunning_21 : decode cX10_startRunning 21 = .ok (.invokevirtual 354, 3) := by decide +kernel
theorem dX10_startRunning_24 : decode cX10_startRunning 24 = .ok (.return_, 1) := by decide +kernel
set_option maxRecDepth 20000 in
theorem ggX10_pressStop_X1_hold : GoodIn wsX10_pressStop wsX1_hold := goodIn_r _ [8, 9, 10, 11, 61, 62, 63, 64, 65, 66, 67, 68, 69, 70, 71, 77, 78, 79] (by decide +kernel) (by decide +kernel)
set_option maxRecDepth 20000 in
theorem gX10_pressStop_X1_hold : GoodIn wsX10_pressStop (wsV RX10 380 RX1 yX1_hold wsX1_hold) := goodIn_app (goodIn_of _ (by decide +kernel)) ggX10_pressStop_X1_hold
set_option maxRecDepth 20000 in
theorem ggX10_pressStop_X10_note : GoodIn wsX10_pressStop wsX10_note := goodIn_r _ [16, 17, 18, 19, 20, 21, 22, 23, 24, 25, 26, 27, 28, 80, 81, 82, 83, 84, 85, 86, 87, 61, 62, 63, 64, 65, 66, 67, 68, 69, 70, 71, 88, 89, 90] (by decide +kernel) (by decide +kernel)
set_option maxRecDepth 20000 in
theorem gX10_pressStop_X10_note : GoodIn wsX10_pressStop (wsV RX10 354 RX10 yX10_note wsX10_note) := goodIn_app (goodIn_of _ (by decide +kernel)) ggX10_pressStop_X10_note
set_option maxRecDepth 20000 in
theorem ggX10_pressStop_X1_hasEntry : GoodIn wsX10_pressStop wsX1_hasEntry := goodIn_r _ [32, 9, 61, 62, 63, 64, 65, 66, 67, 68, 69, 70, 71] (by decide +kernel) (by decide +kernel)
set_option maxRecDepth 20000 in
theorem gX10_pressStop_X1_hasEntry : GoodIn wsX10_pressStop (wsV RX10 242 RX1 yX1_hasEntry wsX1_hasEntry) := goodIn_app (goodIn_of _ (by decide +kernel)) ggX10_pressStop_X1_hasEntry
set_option maxRecDepth 20000 in
theorem ggX10_pressStop_X10_dropEntry : GoodIn wsX10_pressStop wsX10_dropEntry := goodIn_r _ [36, 1, 37, 38, 39, 40, 41, 42, 43, 44, 45, 46, 47, 48, 7, 49, 9, 50, 51, 52, 53, 54, 55, 56, 57, 58, 59, 60, 12, 13, 14, 15, 16, 17, 18, 19, 20, 21, 22, 23, 24, 25, 26, 27, 28, 61, 62, 63, 64, 65, 66, 67, 68, 69, 70, 71, 91, 92, 93, 94, 95, 96, 97, 98, 99, 100, 101, 80, 81, 82, 83, 84, 85, 86, 87, 88, 89, 90] (by decide +kernel) (by decide +kernel)
set_option maxRecDepth 20000 in
theorem gX10_pressStop_X10_dropEntry : GoodIn wsX10_pressStop (wsV RX10 332 RX10 yX10_dropEntry wsX10_dropEntry) := goodIn_app (goodIn_of _ (by decide +kernel)) ggX10_pressStop_X10_dropEntry
theorem dX10_pressStop_0 : decode cX10_pressStop 0 = .ok (.aload_n 1, 1) := by decide +kernel
theorem dX10_pressStop_1 : decode cX10_pressStop 1 = .ok (.getfield 141, 3) := by decide +kernel
theorem dX10_pressStop_4 : decode cX10_pressStop 4 = .ok (.bipush 7, 2) := by decide +kernel
theorem dX10_pressStop_6 : decode cX10_pressStop 6 = .ok (.if_icmp .ne 23, 3) := by decide +kernel
theorem dX10_pressStop_9 : decode cX10_pressStop 9 = .ok (.aload_n 1, 1) := by decide +kernel
theorem dX10_pressStop_10 : decode cX10_pressStop 10 = .ok (.invokevirtual 380, 3) := by decide +kernel
theorem dX10_pressStop_13 : decode cX10_pressStop 13 = .ok (.aload_n 0, 1) := by decide +kernel
theorem dX10_pressStop_14 : decode cX10_pressStop 14 = .ok (.iconst 4, 1) := by decide +kernel
theorem dX10_pressStop_15 : decode cX10_pressStop 15 = .ok (.aload_n 1, 1) := by decide +kernel
theorem dX10_pressStop_16 : decode cX10_pressStop 16 = .ok (.aload_n 1, 1) := by decide +kernel
theorem dX10_pressStop_17 : decode cX10_pressStop 17 = .ok (.getfield 163, 3) := by decide +kernel
theorem dX10_pressStop_20 : decode cX10_pressStop 20 = .ok (.getfield 175, 3) := by decide +kernel
theorem dX10_pressStop_23 : decode cX10_pressStop 23 = .ok (.invokevirtual 354, 3) := by decide +kernel
theorem dX10_pressStop_26 : decode cX10_pressStop 26 = .ok (.goto 20, 3) := by decide +kernel
theorem dX10_pressStop_29 : decode cX10_pressStop 29 = .ok (.aload_n 1, 1) := by decide +kernel
theorem dX10_pressStop_30 : decode cX10_pressStop 30 = .ok (.invokevirtual 242, 3) := by decide +kernel
theorem dX10_pressStop_33 : decode cX10_pressStop 33 = .ok (.ifCond .eq 11, 3) := by decide +kernel
theorem dX10_pressStop_36 : decode cX10_pressStop 36 = .ok (.aload_n 0, 1) := by decide +kernel
theorem dX10_pressStop_37 : decode cX10_pressStop 37 = .ok (.aload_n 1, 1) := by decide +kernel
theorem dX10_pressStop_38 : decode cX10_pressStop 38 = .ok (.invokevirtual 332, 3) := by decide +kernel
theorem dX10_pressStop_41 : decode cX10_pressStop 41 = .ok (.goto 5, 3) := by decide +kernel
theorem dX10_pressStop_44 : decode cX10_pressStop 44 = .ok (.iconst (-1), 1) := by decide +kernel
theorem dX10_pressStop_45 : decode cX10_pressStop 45 = .ok (.ireturn, 1) := by decide +kernel
theorem dX10_pressStop_46 : decode cX10_pressStop 46 = .ok (.aload_n 1, 1) := by decide +kernel
theorem dX10_pressStop_47 : decode cX10_pressStop 47 = .ok (.getfield 141, 3) := by decide +kernel
theorem dX10_pressStop_50 : decode cX10_pressStop 50 = .ok (.ireturn, 1) := by decide +kernel
set_option maxRecDepth 20000 in
theorem ggX10_pressOver_X1_goTo : GoodIn wsX10_pressOver wsX1_goTo := goodIn_r _ [8, 9, 10, 11, 12, 13, 14, 15, 16, 17, 18, 19, 20, 38, 39, 40, 41, 42, 43, 44, 45, 46, 47, 48, 49, 50, 51, 52, 53, 54, 55, 56, 57, 58, 59] (by decide +kernel) (by decide +kernel)
set_option maxRecDepth 20000 in
theorem gX10_pressOver_X1_goTo : GoodIn wsX10_pressOver (wsV RX10 326 RX1 yX1_goTo wsX1_goTo) := goodIn_app (goodIn_of _ (by decide +kernel)) ggX10_pressOver_X1_goTo
set_option maxRecDepth 20000 in
theorem ggX10_pressOver_X10_note : GoodIn wsX10_pressOver wsX10_note := goodIn_r _ [25, 26, 27, 28, 29, 30, 31, 32, 33, 34, 35, 36, 37, 60, 61, 62, 63, 64, 65, 66, 67, 38, 39, 40, 41, 42, 43, 44, 45, 46, 47, 48, 68, 69, 70] (by decide +kernel) (by decide +kernel)
set_option maxRecDepth 20000 in
theorem gX10_pressOver_X10_note : GoodIn wsX10_pressOver (wsV RX10 354 RX10 yX10_note wsX10_note) := goodIn_app (goodIn_of _ (by decide +kernel)) ggX10_pressOver_X10_note
theorem dX10_pressOver_0 : decode cX10_pressOver 0 = .ok (.aload_n 1, 1) := by decide +kernel
theorem dX10_pressOver_1 : decode cX10_pressOver 1 = .ok (.getfield 141, 3) := by decide +kernel
theorem dX10_pressOver_4 : decode cX10_pressOver 4 = .ok (.iconst 5, 1) := by decide +kernel
theorem dX10_pressOver_5 : decode cX10_pressOver 5 = .ok (.if_icmp .eq 5, 3) := by decide +kernel
theorem dX10_pressOver_8 : decode cX10_pressOver 8 = .ok (.iconst (-1), 1) := by decide +kernel
theorem dX10_pressOver_9 : decode cX10_pressOver 9 = .ok (.ireturn, 1) := by decide +kernel
theorem dX10_pressOver_10 : decode cX10_pressOver 10 = .ok (.aload_n 1, 1) := by decide +kernel
theorem dX10_pressOver_11 : decode cX10_pressOver 11 = .ok (.iconst 4, 1) := by decide +kernel
theorem dX10_pressOver_12 : decode cX10_pressOver 12 = .ok (.invokevirtual 326, 3) := by decide +kernel
theorem dX10_pressOver_15 : decode cX10_pressOver 15 = .ok (.aload_n 0, 1) := by decide +kernel
theorem dX10_pressOver_16 : decode cX10_pressOver 16 = .ok (.iconst 2, 1) := by decide +kernel
theorem dX10_pressOver_17 : decode cX10_pressOver 17 = .ok (.aload_n 1, 1) := by decide +kernel
theorem dX10_pressOver_18 : decode cX10_pressOver 18 = .ok (.aload_n 1, 1) := by decide +kernel
theorem dX10_pressOver_19 : decode cX10_pressOver 19 = .ok (.getfield 106, 3) := by decide +kernel
theorem dX10_pressOver_22 : decode cX10_pressOver 22 = .ok (.getfield 358, 3) := by decide +kernel
theorem dX10_pressOver_25 : decode cX10_pressOver 25 = .ok (.invokevirtual 354, 3) := by decide +kernel
theorem dX10_pressOver_28 : decode cX10_pressOver 28 = .ok (.aload_n 1, 1) := by decide +kernel
theorem dX10_pressOver_29 : decode cX10_pressOver 29 = .ok (.getfield 141, 3) := by decide +kernel
theorem dX10_pressOver_32 : decode cX10_pressOver 32 = .ok (.ireturn, 1) := by decide +kernel
set_option maxRecDepth 20000 in
theorem ggX10_pressBolus_X0_mayBegin : GoodIn wsX10_pressBolus wsX0_mayBegin := goodIn_r _ [11, 12, 13, 14, 15, 16, 17, 18, 71, 72, 73, 74, 75, 76, 77, 78, 79, 80, 81, 82, 83, 84, 85, 86, 87, 88, 89, 90] (by decide +kernel) (by decide +kernel)
set_option maxRecDepth 20000 in
theorem gX10_pressBolus_X0_mayBegin : GoodIn wsX10_pressBolus (wsV RX10 383 RX0 yX0_mayBegin wsX0_mayBegin) := goodIn_app (goodIn_of _ (by decide +kernel)) ggX10_pressBolus_X0_mayBegin
set_option maxRecDepth 20000 in
theorem ggX10_pressBolus_X10_note : GoodIn wsX10_pressBolus wsX10_note := goodIn_r _ [23, 24, 5, 25, 26, 27, 28, 29, 30, 31, 32, 33, 34, 63, 64, 65, 66, 67, 68, 69, 70, 47, 48, 49, 50, 51, 52, 53, 54, 55, 56, 57, 91, 92, 93] (by decide +kernel) (by decide +kernel)
set_option maxRecDepth 20000 in
theorem gX10_pressBolus_X10_note : GoodIn wsX10_pressBolus (wsV RX10 354 RX10 yX10_note wsX10_note) := goodIn_app (goodIn_of _ (by decide +kernel)) ggX10_pressBolus_X10_note
set_option maxRecDepth 20000 in
theorem ggX10_pressBolus_X0_begin : GoodIn wsX10_pressBolus wsX0_begin := goodIn_r _ [38, 16, 14, 12, 13, 39, 40, 41, 42, 43, 44, 45, 46, 84, 85, 86, 71, 72, 73, 74, 75, 76, 77, 78, 79, 80, 81, 82, 83, 87, 88, 89, 90] (by decide +kernel) (by decide +kernel)
set_option maxRecDepth 20000 in
theorem gX10_pressBolus_X0_begin : GoodIn wsX10_pressBolus (wsV RX10 387 RX0 yX0_begin wsX0_begin) := goodIn_app (goodIn_of _ (by decide +kernel)) ggX10_pressBolus_X0_begin
theorem dX10_pressBolus_0 : decode cX10_pressBolus 0 = .ok (.aload_n 1, 1) := by decide +kernel
theorem dX10_pressBolus_1 : decode cX10_pressBolus 1 = .ok (.getfield 141, 3) := by decide +kernel
theorem dX10_pressBolus_4 : decode cX10_pressBolus 4 = .ok (.bipush 7, 2) := by decide +kernel
theorem dX10_pressBolus_6 : decode cX10_pressBolus 6 = .ok (.if_icmp .eq 5, 3) := by decide +kernel
theorem dX10_pressBolus_9 : decode cX10_pressBolus 9 = .ok (.iconst (-1), 1) := by decide +kernel
theorem dX10_pressBolus_10 : decode cX10_pressBolus 10 = .ok (.ireturn, 1) := by decide +kernel
theorem dX10_pressBolus_11 : decode cX10_pressBolus 11 = .ok (.aload_n 1, 1) := by decide +kernel
theorem dX10_pressBolus_12 : decode cX10_pressBolus 12 = .ok (.getfield 163, 3) := by decide +kernel
theorem dX10_pressBolus_15 : decode cX10_pressBolus 15 = .ok (.getfield 216, 3) := by decide +kernel
theorem dX10_pressBolus_18 : decode cX10_pressBolus 18 = .ok (.astore_n 2, 1) := by decide +kernel
theorem dX10_pressBolus_19 : decode cX10_pressBolus 19 = .ok (.aload_n 1, 1) := by decide +kernel
theorem dX10_pressBolus_20 : decode cX10_pressBolus 20 = .ok (.getfield 181, 3) := by decide +kernel
theorem dX10_pressBolus_23 : decode cX10_pressBolus 23 = .ok (.aload_n 2, 1) := by decide +kernel
theorem dX10_pressBolus_24 : decode cX10_pressBolus 24 = .ok (.aload_n 0, 1) := by decide +kernel
theorem dX10_pressBolus_25 : decode cX10_pressBolus 25 = .ok (.getfield 148, 3) := by decide +kernel
theorem dX10_pressBolus_28 : decode cX10_pressBolus 28 = .ok (.invokevirtual 383, 3) := by decide +kernel
theorem dX10_pressBolus_31 : decode cX10_pressBolus 31 = .ok (.ifCond .ne 13, 3) := by decide +kernel
theorem dX10_pressBolus_34 : decode cX10_pressBolus 34 = .ok (.aload_n 0, 1) := by decide +kernel
theorem dX10_pressBolus_35 : decode cX10_pressBolus 35 = .ok (.bipush 6, 2) := by decide +kernel
theorem dX10_pressBolus_37 : decode cX10_pressBolus 37 = .ok (.aload_n 1, 1) := by decide +kernel
theorem dX10_pressBolus_38 : decode cX10_pressBolus 38 = .ok (.iconst 0, 1) := by decide +kernel
theorem dX10_pressBolus_39 : decode cX10_pressBolus 39 = .ok (.invokevirtual 354, 3) := by decide +kernel
theorem dX10_pressBolus_42 : decode cX10_pressBolus 42 = .ok (.iconst (-1), 1) := by decide +kernel
theorem dX10_pressBolus_43 : decode cX10_pressBolus 43 = .ok (.ireturn, 1) := by decide +kernel
theorem dX10_pressBolus_44 : decode cX10_pressBolus 44 = .ok (.aload_n 1, 1) := by decide +kernel
theorem dX10_pressBolus_45 : decode cX10_pressBolus 45 = .ok (.getfield 181, 3) := by decide +kernel
theorem dX10_pressBolus_48 : decode cX10_pressBolus 48 = .ok (.aload_n 2, 1) := by decide +kernel
theorem dX10_pressBolus_49 : decode cX10_pressBolus 49 = .ok (.aload_n 0, 1) := by decide +kernel
theorem dX10_pressBolus_50 : decode cX10_pressBolus 50 = .ok (.getfield 148, 3) := by decide +kernel
theorem dX10_pressBolus_53 : decode cX10_pressBolus 53 = .ok (.invokevirtual 387, 3) := by decide +kernel
theorem dX10_pressBolus_56 : decode cX10_pressBolus 56 = .ok (.aload_n 0, 1) := by decide +kernel
theorem dX10_pressBolus_57 : decode cX10_pressBolus 57 = .ok (.iconst 5, 1) := by decide +kernel
theorem dX10_pressBolus_58 : decode cX10_pressBolus 58 = .ok (.aload_n 1, 1) := by decide +kernel
theorem dX10_pressBolus_59 : decode cX10_pressBolus 59 = .ok (.aload_n 2, 1) := by decide +kernel
theorem dX10_pressBolus_60 : decode cX10_pressBolus 60 = .ok (.getfield 391, 3) := by decide +kernel
theorem dX10_pressBolus_63 : decode cX10_pressBolus 63 = .ok (.invokevirtual 354, 3) := by decide +kernel
theorem dX10_pressBolus_66 : decode cX10_pressBolus 66 = .ok (.aload_n 1, 1) := by decide +kernel
theorem dX10_pressBolus_67 : decode cX10_pressBolus 67 = .ok (.getfield 141, 3) := by decide +kernel
theorem dX10_pressBolus_70 : decode cX10_pressBolus 70 = .ok (.ireturn, 1) := by decide +kernel
set_option maxRecDepth 20000 in
theorem ggX10_pressRelay_X1_isAtRest : GoodIn wsX10_pressRelay wsX1_isAtRest := goodIn_r _ [7, 8, 9, 10, 11, 12, 13, 14, 15, 16, 17, 18, 19] (by decide +kernel) (by decide +kernel)
set_option maxRecDepth 20000 in
theorem gX10_pressRelay_X1_isAtRest : GoodIn wsX10_pressRelay (wsV RX10 368 RX1 yX1_isAtRest wsX1_isAtRest) := goodIn_app (goodIn_of _ (by decide +kernel)) ggX10_pressRelay_X1_isAtRest
theorem dX10_pressRelay_0 : decode cX10_pressRelay 0 = .ok (.aload_n 1, 1) := by decide +kernel
theorem dX10_pressRelay_1 : decode cX10_pressRelay 1 = .ok (.invokevirtual 368, 3) := by decide +kernel
theorem dX10_pressRelay_4 : decode cX10_pressRelay 4 = .ok (.ifCond .ne 5, 3) := by decide +kernel
theorem dX10_pressRelay_7 : decode cX10_pressRelay 7 = .ok (.iconst (-1), 1) := by decide +kernel
theorem dX10_pressRelay_8 : decode cX10_pressRelay 8 = .ok (.ireturn, 1) := by decide +kernel
theorem dX10_pressRelay_9 : decode cX10_pressRelay 9 = .ok (.aload_n 1, 1) := by decide +kernel
theorem dX10_pressRelay_10 : decode cX10_pressRelay 10 = .ok (.aload_n 1, 1) := by decide +kernel
theorem dX10_pressRelay_11 : decode cX10_pressRelay 11 = .ok (.getfield 210, 3) := by decide +kernel
theorem dX10_pressRelay_14 : decode cX10_pressRelay 14 = .ok (.ifCond .ne 7, 3) := by decide +kernel
theorem dX10_pressRelay_17 : decode cX10_pressRelay 17 = .ok (.iconst 1, 1) := by decide +kernel
theorem dX10_pressRelay_18 : decode cX10_pressRelay 18 = .ok (.goto 4, 3) := by decide +kernel
theorem dX10_pressRelay_21 : decode cX10_pressRelay 21 = .ok (.iconst 0, 1) := by decide +kernel
theorem dX10_pressRelay_22 : decode cX10_pressRelay 22 = .ok (.putfield 210, 3) := by decide +kernel
theorem dX10_pressRelay_25 : decode cX10_pressRelay 25 = .ok (.aload_n 1, 1) := by decide +kernel
theorem dX10_pressRelay_26 : decode cX10_pressRelay 26 = .ok (.getfield 141, 3) := by decide +kernel
theorem dX10_pressRelay_29 : decode cX10_pressRelay 29 = .ok (.ireturn, 1) := by decide +kernel
set_option maxRecDepth 20000 in
theorem ggX10_dropEntry_X3_forgetDrug : GoodIn wsX10_dropEntry wsX3_forgetDrug := goodIn_r _ [8, 9, 10, 56, 57, 58, 59, 60, 61, 62] (by decide +kernel) (by decide +kernel)
set_option maxRecDepth 20000 in
theorem gX10_dropEntry_X3_forgetDrug : GoodIn wsX10_dropEntry (wsV RX10 365 RX3 yX3_forgetDrug wsX3_forgetDrug) := goodIn_app (goodIn_of _ (by decide +kernel)) ggX10_dropEntry_X3_forgetDrug
set_option maxRecDepth 20000 in
theorem ggX10_dropEntry_X1_goTo : GoodIn wsX10_dropEntry wsX1_goTo := goodIn_r _ [15, 16, 17, 18, 19, 20, 21, 22, 23, 24, 25, 26, 27, 45, 46, 47, 48, 49, 50, 51, 52, 53, 54, 55, 56, 57, 58, 59, 60, 61, 62, 63, 64, 65, 66] (by decide +kernel) (by decide +kernel)
set_option maxRecDepth 20000 in
theorem gX10_dropEntry_X1_goTo : GoodIn wsX10_dropEntry (wsV RX10 326 RX1 yX1_goTo wsX1_goTo) := goodIn_app (goodIn_of _ (by decide +kernel)) ggX10_dropEntry_X1_goTo
set_option maxRecDepth 20000 in
theorem ggX10_dropEntry_X10_note : GoodIn wsX10_dropEntry wsX10_note := goodIn_r _ [32, 33, 34, 35, 36, 37, 38, 39, 40, 41, 42, 43, 44, 67, 68, 69, 70, 71, 72, 73, 74, 45, 46, 47, 48, 49, 50, 51, 52, 53, 54, 55, 75, 76, 77] (by decide +kernel) (by decide +kernel)
set_option maxRecDepth 20000 in
theorem gX10_dropEntry_X10_note : GoodIn wsX10_dropEntry (wsV RX10 354 RX10 yX10_note wsX10_note) := goodIn_app (goodIn_of _ (by decide +kernel)) ggX10_dropEntry_X10_note
theorem dX10_dropEntry_0 : decode cX10_dropEntry 0 = .ok (.aload_n 1, 1) := by decide +kernel
theorem dX10_dropEntry_1 : decode cX10_dropEntry 1 = .ok (.getfield 141, 3) := by decide +kernel
theorem dX10_dropEntry_4 : decode cX10_dropEntry 4 = .ok (.istore_n 2, 1) := by decide +kernel
theorem dX10_dropEntry_5 : decode cX10_dropEntry 5 = .ok (.aload_n 1, 1) := by decide +kernel
theorem dX10_dropEntry_6 : decode cX10_dropEntry 6 = .ok (.getfield 106, 3) := by decide +kernel
theorem dX10_dropEntry_9 : decode cX10_dropEntry 9 = .ok (.invokevirtual 365, 3) := by decide +kernel
theorem dX10_dropEntry_12 : decode cX10_dropEntry 12 = .ok (.aload_n 1, 1) := by decide +kernel
theorem dX10_dropEntry_13 : decode cX10_dropEntry 13 = .ok (.aload_n 1, 1) := by decide +kernel
theorem dX10_dropEntry_14 : decode cX10_dropEntry 14 = .ok (.getfield 106, 3) := by decide +kernel
theorem dX10_dropEntry_17 : decode cX10_dropEntry 17 = .ok (.getfield 371, 3) := by decide +kernel
theorem dX10_dropEntry_20 : decode cX10_dropEntry 20 = .ok (.invokevirtual 326, 3) := by decide +kernel
theorem dX10_dropEntry_23 : decode cX10_dropEntry 23 = .ok (.aload_n 0, 1) := by decide +kernel
theorem dX10_dropEntry_24 : decode cX10_dropEntry 24 = .ok (.bipush 9, 2) := by decide +kernel
theorem dX10_dropEntry_26 : decode cX10_dropEntry 26 = .ok (.aload_n 1, 1) := by decide +kernel
theorem dX10_dropEntry_27 : decode cX10_dropEntry 27 = .ok (.iload_n 2, 1) := by decide +kernel
theorem dX10_dropEntry_28 : decode cX10_dropEntry 28 = .ok (.invokevirtual 354, 3) := by decide +kernel
theorem dX10_dropEntry_31 : decode cX10_dropEntry 31 = .ok (.return_, 1) := by decide +kernel
set_option maxRecDepth 20000 in
theorem ggX10_latch_X1_hasAlarm : GoodIn wsX10_latch wsX1_hasAlarm := goodIn_r _ [11, 12, 29, 30, 31, 32, 33, 34, 35, 36, 37, 38, 39] (by decide +kernel) (by decide +kernel)
set_option maxRecDepth 20000 in
theorem gX10_latch_X1_hasAlarm : GoodIn wsX10_latch (wsV RX10 394 RX1 yX1_hasAlarm wsX1_hasAlarm) := goodIn_app (goodIn_of _ (by decide +kernel)) ggX10_latch_X1_hasAlarm
set_option maxRecDepth 20000 in
theorem ggX10_latch_X5_write : GoodIn wsX10_latch wsX5_write := goodIn_r _ [17, 18, 19, 20, 21, 48, 49, 50] (by decide +kernel) (by decide +kernel)
set_option maxRecDepth 20000 in
theorem gX10_latch_X5_write : GoodIn wsX10_latch (wsV RX10 275 RX5 yX5_write wsX5_write) := goodIn_app (goodIn_of _ (by decide +kernel)) ggX10_latch_X5_write
set_option maxRecDepth 20000 in
theorem ggX10_latch_X1_hold : GoodIn wsX10_latch wsX1_hold := goodIn_r _ [25, 26, 27, 28, 29, 30, 31, 32, 33, 34, 35, 36, 37, 38, 39, 51, 52, 53] (by decide +kernel) (by decide +kernel)
set_option maxRecDepth 20000 in
theorem gX10_latch_X1_hold : GoodIn wsX10_latch (wsV RX10 380 RX1 yX1_hold wsX1_hold) := goodIn_app (goodIn_of _ (by decide +kernel)) ggX10_latch_X1_hold
theorem dX10_latch_0 : decode cX10_latch 0 = .ok (.aload_n 1, 1) := by decide +kernel
theorem dX10_latch_1 : decode cX10_latch 1 = .ok (.iload_n 2, 1) := by decide +kernel
theorem dX10_latch_2 : decode cX10_latch 2 = .ok (.invokevirtual 394, 3) := by decide +kernel
theorem dX10_latch_5 : decode cX10_latch 5 = .ok (.ifCond .ne 41, 3) := by decide +kernel
theorem dX10_latch_8 : decode cX10_latch 8 = .ok (.aload_n 1, 1) := by decide +kernel
theorem dX10_latch_9 : decode cX10_latch 9 = .ok (.dup, 1) := by decide +kernel
theorem dX10_latch_10 : decode cX10_latch 10 = .ok (.getfield 160, 3) := by decide +kernel
theorem dX10_latch_13 : decode cX10_latch 13 = .ok (.iconst 1, 1) := by decide +kernel
theorem dX10_latch_14 : decode cX10_latch 14 = .ok (.iload_n 2, 1) := by decide +kernel
theorem dX10_latch_15 : decode cX10_latch 15 = .ok (.ishl, 1) := by decide +kernel
theorem dX10_latch_16 : decode cX10_latch 16 = .ok (.ior, 1) := by decide +kernel
theorem dX10_latch_17 : decode cX10_latch 17 = .ok (.putfield 160, 3) := by decide +kernel
theorem dX10_latch_20 : decode cX10_latch 20 = .ok (.aload_n 0, 1) := by decide +kernel
theorem dX10_latch_21 : decode cX10_latch 21 = .ok (.aload_n 0, 1) := by decide +kernel
theorem dX10_latch_22 : decode cX10_latch 22 = .ok (.getfield 148, 3) := by decide +kernel
theorem dX10_latch_25 : decode cX10_latch 25 = .ok (.putfield 307, 3) := by decide +kernel
theorem dX10_latch_28 : decode cX10_latch 28 = .ok (.aload_n 0, 1) := by decide +kernel
theorem dX10_latch_29 : decode cX10_latch 29 = .ok (.getfield 24, 3) := by decide +kernel
theorem dX10_latch_32 : decode cX10_latch 32 = .ok (.aload_n 0, 1) := by decide +kernel
theorem dX10_latch_33 : decode cX10_latch 33 = .ok (.getfield 148, 3) := by decide +kernel
theorem dX10_latch_36 : decode cX10_latch 36 = .ok (.bipush 7, 2) := by decide +kernel
theorem dX10_latch_38 : decode cX10_latch 38 = .ok (.aload_n 1, 1) := by decide +kernel
theorem dX10_latch_39 : decode cX10_latch 39 = .ok (.getfield 274, 3) := by decide +kernel
theorem dX10_latch_42 : decode cX10_latch 42 = .ok (.iload_n 2, 1) := by decide +kernel
theorem dX10_latch_43 : decode cX10_latch 43 = .ok (.invokevirtual 275, 3) := by decide +kernel
theorem dX10_latch_46 : decode cX10_latch 46 = .ok (.iload_n 2, 1) := by decide +kernel
theorem dX10_latch_47 : decode cX10_latch 47 = .ok (.iconst 4, 1) := by decide +kernel
theorem dX10_latch_48 : decode cX10_latch 48 = .ok (.if_icmp .gt 16, 3) := by decide +kernel
theorem dX10_latch_51 : decode cX10_latch 51 = .ok (.aload_n 1, 1) := by decide +kernel
theorem dX10_latch_52 : decode cX10_latch 52 = .ok (.getfield 141, 3) := by decide +kernel
theorem dX10_latch_55 : decode cX10_latch 55 = .ok (.bipush 7, 2) := by decide +kernel
theorem dX10_latch_57 : decode cX10_latch 57 = .ok (.if_icmp .ne 7, 3) := by decide +kernel
theorem dX10_latch_60 : decode cX10_latch 60 = .ok (.aload_n 1, 1) := by decide +kernel
theorem dX10_latch_61 : decode cX10_latch 61 = .ok (.invokevirtual 380, 3) := by decide +kernel
theorem dX10_latch_64 : decode cX10_latch 64 = .ok (.return_, 1) := by decide +kernel
set_option maxRecDepth 20000 in
theorem ggX10_pressAck_X1_hasAlarm : GoodIn wsX10_pressAck wsX1_hasAlarm := goodIn_r _ [6, 7, 57, 58, 59, 60, 61, 62, 63, 64, 65, 66, 67] (by decide +kernel) (by decide +kernel)
set_option maxRecDepth 20000 in
theorem gX10_pressAck_X1_hasAlarm : GoodIn wsX10_pressAck (wsV RX10 394 RX1 yX1_hasAlarm wsX1_hasAlarm) := goodIn_app (goodIn_of _ (by decide +kernel)) ggX10_pressAck_X1_hasAlarm
set_option maxRecDepth 20000 in
theorem ggX10_pressAck_X10_canBeTaken : GoodIn wsX10_pressAck wsX10_canBeTaken := goodIn_r _ [12, 13, 14, 15, 16, 17, 18, 19, 20, 21, 22, 57, 58, 59, 60, 61, 62, 63, 64, 65, 66, 67, 68, 69, 70, 71, 72, 73, 74, 75, 76, 77, 78, 79, 80, 81, 82, 83, 84, 85, 86, 87, 88, 89, 90, 91, 92, 93, 94, 95, 96, 97, 98, 99, 100, 101, 102, 103] (by decide +kernel) (by decide +kernel)
set_option maxRecDepth 20000 in
theorem gX10_pressAck_X10_canBeTaken : GoodIn wsX10_pressAck (wsV RX10 397 RX10 yX10_canBeTaken wsX10_canBeTaken) := goodIn_app (goodIn_of _ (by decide +kernel)) ggX10_pressAck_X10_canBeTaken
set_option maxRecDepth 20000 in
theorem ggX10_pressAck_X10_takeAlarm : GoodIn wsX10_pressAck wsX10_takeAlarm := goodIn_r _ [26, 27, 13, 28, 29, 30, 31, 32, 33, 34, 35, 36, 37, 38, 39, 40, 41, 42, 43, 11, 44, 45, 46, 47, 48, 49, 50, 51, 52, 53, 54, 55, 56, 57, 58, 59, 60, 61, 62, 63, 64, 65, 66, 67, 68, 69, 70, 71, 72, 73, 74, 104, 105, 106, 107, 75, 76, 77, 78, 79, 80, 81, 82, 108, 109, 110] (by decide +kernel) (by decide +kernel)
set_option maxRecDepth 20000 in
theorem gX10_pressAck_X10_takeAlarm : GoodIn wsX10_pressAck (wsV RX10 401 RX10 yX10_takeAlarm wsX10_takeAlarm) := goodIn_app (goodIn_of _ (by decide +kernel)) ggX10_pressAck_X10_takeAlarm
theorem dX10_pressAck_0 : decode cX10_pressAck 0 = .ok (.iconst 0, 1) := by decide +kernel
theorem dX10_pressAck_1 : decode cX10_pressAck 1 = .ok (.istore_n 2, 1) := by decide +kernel
theorem dX10_pressAck_2 : decode cX10_pressAck 2 = .ok (.iconst 0, 1) := by decide +kernel
theorem dX10_pressAck_3 : decode cX10_pressAck 3 = .ok (.istore_n 3, 1) := by decide +kernel
theorem dX10_pressAck_4 : decode cX10_pressAck 4 = .ok (.iload_n 3, 1) := by decide +kernel
theorem dX10_pressAck_5 : decode cX10_pressAck 5 = .ok (.bipush 6, 2) := by decide +kernel
theorem dX10_pressAck_7 : decode cX10_pressAck 7 = .ok (.if_icmp .gt 34, 3) := by decide +kernel
theorem dX10_pressAck_10 : decode cX10_pressAck 10 = .ok (.aload_n 1, 1) := by decide +kernel
theorem dX10_pressAck_11 : decode cX10_pressAck 11 = .ok (.iload_n 3, 1) := by decide +kernel
theorem dX10_pressAck_12 : decode cX10_pressAck 12 = .ok (.invokevirtual 394, 3) := by decide +kernel
theorem dX10_pressAck_15 : decode cX10_pressAck 15 = .ok (.ifCond .eq 20, 3) := by decide +kernel
theorem dX10_pressAck_18 : decode cX10_pressAck 18 = .ok (.aload_n 0, 1) := by decide +kernel
theorem dX10_pressAck_19 : decode cX10_pressAck 19 = .ok (.aload_n 1, 1) := by decide +kernel
theorem dX10_pressAck_20 : decode cX10_pressAck 20 = .ok (.iload_n 3, 1) := by decide +kernel
theorem dX10_pressAck_21 : decode cX10_pressAck 21 = .ok (.invokevirtual 397, 3) := by decide +kernel
theorem dX10_pressAck_24 : decode cX10_pressAck 24 = .ok (.ifCond .eq 11, 3) := by decide +kernel
theorem dX10_pressAck_27 : decode cX10_pressAck 27 = .ok (.aload_n 0, 1) := by decide +kernel
theorem dX10_pressAck_28 : decode cX10_pressAck 28 = .ok (.aload_n 1, 1) := by decide +kernel
theorem dX10_pressAck_29 : decode cX10_pressAck 29 = .ok (.iload_n 3, 1) := by decide +kernel
theorem dX10_pressAck_30 : decode cX10_pressAck 30 = .ok (.invokevirtual 401, 3) := by decide +kernel
theorem dX10_pressAck_33 : decode cX10_pressAck 33 = .ok (.iconst 1, 1) := by decide +kernel
theorem dX10_pressAck_34 : decode cX10_pressAck 34 = .ok (.istore_n 2, 1) := by decide +kernel
theorem dX10_pressAck_35 : decode cX10_pressAck 35 = .ok (.iinc 3 1, 3) := by decide +kernel
theorem dX10_pressAck_38 : decode cX10_pressAck 38 = .ok (.goto (-34), 3) := by decide +kernel
theorem dX10_pressAck_41 : decode cX10_pressAck 41 = .ok (.iload_n 2, 1) := by decide +kernel
theorem dX10_pressAck_42 : decode cX10_pressAck 42 = .ok (.ifCond .eq 10, 3) := by decide +kernel
theorem dX10_pressAck_45 : decode cX10_pressAck 45 = .ok (.aload_n 1, 1) := by decide +kernel
theorem dX10_pressAck_46 : decode cX10_pressAck 46 = .ok (.getfield 141, 3) := by decide +kernel
theorem dX10_pressAck_49 : decode cX10_pressAck 49 = .ok (.goto 4, 3) := by decide +kernel
theorem dX10_pressAck_52 : decode cX10_pressAck 52 = .ok (.iconst (-1), 1) := by decide +kernel
theorem dX10_pressAck_53 : decode cX10_pressAck 53 = .ok (.ireturn, 1) := by decide +kernel
theorem dX10_canBeTaken_0 : decode cX10_canBeTaken 0 = .ok (.iload_n 2, 1) := by decide +kernel
theorem dX10_canBeTaken_1 : decode cX10_canBeTaken 1 = .ok (.tableswitch 140 0 6 #[43, 140, 59, 75, 91, 140, 117], 43) := by decide +kernel
theorem dX10_canBeTaken_44 : decode cX10_canBeTaken 44 = .ok (.aload_n 1, 1) := by decide +kernel
theorem dX10_canBeTaken_45 : decode cX10_canBeTaken 45 = .ok (.getfield 125, 3) := by decide +kernel
theorem dX10_canBeTaken_48 : decode cX10_canBeTaken 48 = .ok (.getfield 135, 3) := by decide +kernel
theorem dX10_canBeTaken_51 : decode cX10_canBeTaken 51 = .ok (.ifCond .ne 7, 3) := by decide +kernel
theorem dX10_canBeTaken_54 : decode cX10_canBeTaken 54 = .ok (.iconst 1, 1) := by decide +kernel
theorem dX10_canBeTaken_55 : decode cX10_canBeTaken 55 = .ok (.goto 4, 3) := by decide +kernel
theorem dX10_canBeTaken_58 : decode cX10_canBeTaken 58 = .ok (.iconst 0, 1) := by decide +kernel
theorem dX10_canBeTaken_59 : decode cX10_canBeTaken 59 = .ok (.ireturn, 1) := by decide +kernel
theorem dX10_canBeTaken_60 : decode cX10_canBeTaken 60 = .ok (.aload_n 1, 1) := by decide +kernel
theorem dX10_canBeTaken_61 : decode cX10_canBeTaken 61 = .ok (.getfield 125, 3) := by decide +kernel
theorem dX10_canBeTaken_64 : decode cX10_canBeTaken 64 = .ok (.getfield 138, 3) := by decide +kernel
theorem dX10_canBeTaken_67 : decode cX10_canBeTaken 67 = .ok (.ifCond .ne 7, 3) := by decide +kernel
theorem dX10_canBeTaken_70 : decode cX10_canBeTaken 70 = .ok (.iconst 1, 1) := by decide +kernel
theorem dX10_canBeTaken_71 : decode cX10_canBeTaken 71 = .ok (.goto 4, 3) := by decide +kernel
theorem dX10_canBeTaken_74 : decode cX10_canBeTaken 74 = .ok (.iconst 0, 1) := by decide +kernel
theorem dX10_canBeTaken_75 : decode cX10_canBeTaken 75 = .ok (.ireturn, 1) := by decide +kernel
theorem dX10_canBeTaken_76 : decode cX10_canBeTaken 76 = .ok (.aload_n 0, 1) := by decide +kernel
theorem dX10_canBeTaken_77 : decode cX10_canBeTaken 77 = .ok (.getfield 29, 3) := by decide +kernel
theorem dX10_canBeTaken_80 : decode cX10_canBeTaken 80 = .ok (.sipush 200, 3) := by decide +kernel
theorem dX10_canBeTaken_83 : decode cX10_canBeTaken 83 = .ok (.if_icmp .lt 7, 3) := by decide +kernel
theorem dX10_canBeTaken_86 : decode cX10_canBeTaken 86 = .ok (.iconst 1, 1) := by decide +kernel
theorem dX10_canBeTaken_87 : decode cX10_canBeTaken 87 = .ok (.goto 4, 3) := by decide +kernel
theorem dX10_canBeTaken_90 : decode cX10_canBeTaken 90 = .ok (.iconst 0, 1) := by decide +kernel
theorem dX10_canBeTaken_91 : decode cX10_canBeTaken 91 = .ok (.ireturn, 1) := by decide +kernel
theorem dX10_canBeTaken_92 : decode cX10_canBeTaken 92 = .ok (.aload_n 1, 1) := by decide +kernel
theorem dX10_canBeTaken_93 : decode cX10_canBeTaken 93 = .ok (.getfield 188, 3) := by decide +kernel
theorem dX10_canBeTaken_96 : decode cX10_canBeTaken 96 = .ok (.getfield 192, 3) := by decide +kernel
theorem dX10_canBeTaken_99 : decode cX10_canBeTaken 99 = .ok (.aload_n 1, 1) := by decide +kernel
theorem dX10_canBeTaken_100 : decode cX10_canBeTaken 100 = .ok (.getfield 163, 3) := by decide +kernel
theorem dX10_canBeTaken_103 : decode cX10_canBeTaken 103 = .ok (.getfield 216, 3) := by decide +kernel
theorem dX10_canBeTaken_106 : decode cX10_canBeTaken 106 = .ok (.getfield 404, 3) := by decide +kernel
theorem dX10_canBeTaken_109 : decode cX10_canBeTaken 109 = .ok (.if_icmp .ge 7, 3) := by decide +kernel
theorem dX10_canBeTaken_112 : decode cX10_canBeTaken 112 = .ok (.iconst 1, 1) := by decide +kernel
theorem dX10_canBeTaken_113 : decode cX10_canBeTaken 113 = .ok (.goto 4, 3) := by decide +kernel
theorem dX10_canBeTaken_116 : decode cX10_canBeTaken 116 = .ok (.iconst 0, 1) := by decide +kernel
theorem dX10_canBeTaken_117 : decode cX10_canBeTaken 117 = .ok (.ireturn, 1) := by decide +kernel
theorem dX10_canBeTaken_118 : decode cX10_canBeTaken 118 = .ok (.aload_n 0, 1) := by decide +kernel
theorem dX10_canBeTaken_119 : decode cX10_canBeTaken 119 = .ok (.getfield 33, 3) := by decide +kernel
theorem dX10_canBeTaken_122 : decode cX10_canBeTaken 122 = .ok (.ifCond .ne 13, 3) := by decide +kernel
theorem dX10_canBeTaken_125 : decode cX10_canBeTaken 125 = .ok (.aload_n 0, 1) := by decide +kernel
theorem dX10_canBeTaken_126 : decode cX10_canBeTaken 126 = .ok (.getfield 29, 3) := by decide +kernel
theorem dX10_canBeTaken_129 : decode cX10_canBeTaken 129 = .ok (.sipush 3600, 3) := by decide +kernel
theorem dX10_canBeTaken_132 : decode cX10_canBeTaken 132 = .ok (.if_icmp .lt 7, 3) := by decide +kernel
theorem dX10_canBeTaken_135 : decode cX10_canBeTaken 135 = .ok (.iconst 1, 1) := by decide +kernel
theorem dX10_canBeTaken_136 : decode cX10_canBeTaken 136 = .ok (.goto 4, 3) := by decide +kernel
theorem dX10_canBeTaken_139 : decode cX10_canBeTaken 139 = .ok (.iconst 0, 1) := by decide +kernel
theorem dX10_canBeTaken_140 : decode cX10_canBeTaken 140 = .ok (.ireturn, 1) := by decide +kernel
theorem dX10_canBeTaken_141 : decode cX10_canBeTaken 141 = .ok (.iconst 1, 1) := by decide +kernel
theorem dX10_canBeTaken_142 : decode cX10_canBeTaken 142 = .ok (.ireturn, 1) := by decide +kernel
set_option maxRecDepth 20000 in
theorem ggX10_takeAlarm_X6_forgetAir : GoodIn wsX10_takeAlarm wsX6_forgetAir := goodIn_r _ [7, 8, 9, 10, 11, 12, 13, 14, 15, 44, 45, 46, 47, 48, 49, 50, 51, 52, 53, 54] (by decide +kernel) (by decide +kernel)
set_option maxRecDepth 20000 in
theorem gX10_takeAlarm_X6_forgetAir : GoodIn wsX10_takeAlarm (wsV RX10 407 RX6 yX6_forgetAir wsX6_forgetAir) := goodIn_app (goodIn_of _ (by decide +kernel)) ggX10_takeAlarm_X6_forgetAir
set_option maxRecDepth 20000 in
theorem ggX10_takeAlarm_X10_note : GoodIn wsX10_takeAlarm wsX10_note := goodIn_r _ [20, 21, 22, 23, 24, 25, 26, 27, 28, 29, 30, 31, 32, 55, 56, 57, 58, 59, 60, 61, 62, 33, 34, 35, 36, 37, 38, 39, 40, 41, 42, 43, 63, 64, 65] (by decide +kernel) (by decide +kernel)
set_option maxRecDepth 20000 in
theorem gX10_takeAlarm_X10_note : GoodIn wsX10_takeAlarm (wsV RX10 354 RX10 yX10_note wsX10_note) := goodIn_app (goodIn_of _ (by decide +kernel)) ggX10_takeAlarm_X10_note
theorem dX10_takeAlarm_0 : decode cX10_takeAlarm 0 = .ok (.aload_n 1, 1) := by decide +kernel
theorem dX10_takeAlarm_1 : decode cX10_takeAlarm 1 = .ok (.dup, 1) := by decide +kernel
theorem dX10_takeAlarm_2 : decode cX10_takeAlarm 2 = .ok (.getfield 160, 3) := by decide +kernel
theorem dX10_takeAlarm_5 : decode cX10_takeAlarm 5 = .ok (.iconst 1, 1) := by decide +kernel
theorem dX10_takeAlarm_6 : decode cX10_takeAlarm 6 = .ok (.iload_n 2, 1) := by decide +kernel
theorem dX10_takeAlarm_7 : decode cX10_takeAlarm 7 = .ok (.ishl, 1) := by decide +kernel
theorem dX10_takeAlarm_8 : decode cX10_takeAlarm 8 = .ok (.iconst (-1), 1) := by decide +kernel
theorem dX10_takeAlarm_9 : decode cX10_takeAlarm 9 = .ok (.ixor, 1) := by decide +kernel
theorem dX10_takeAlarm_10 : decode cX10_takeAlarm 10 = .ok (.iand, 1) := by decide +kernel
theorem dX10_takeAlarm_11 : decode cX10_takeAlarm 11 = .ok (.putfield 160, 3) := by decide +kernel
theorem dX10_takeAlarm_14 : decode cX10_takeAlarm 14 = .ok (.iload_n 2, 1) := by decide +kernel
theorem dX10_takeAlarm_15 : decode cX10_takeAlarm 15 = .ok (.ifCond .ne 10, 3) := by decide +kernel
theorem dX10_takeAlarm_18 : decode cX10_takeAlarm 18 = .ok (.aload_n 1, 1) := by decide +kernel
theorem dX10_takeAlarm_19 : decode cX10_takeAlarm 19 = .ok (.getfield 125, 3) := by decide +kernel
theorem dX10_takeAlarm_22 : decode cX10_takeAlarm 22 = .ok (.invokevirtual 407, 3) := by decide +kernel
theorem dX10_takeAlarm_25 : decode cX10_takeAlarm 25 = .ok (.aload_n 0, 1) := by decide +kernel
theorem dX10_takeAlarm_26 : decode cX10_takeAlarm 26 = .ok (.bipush 8, 2) := by decide +kernel
theorem dX10_takeAlarm_28 : decode cX10_takeAlarm 28 = .ok (.aload_n 1, 1) := by decide +kernel
theorem dX10_takeAlarm_29 : decode cX10_takeAlarm 29 = .ok (.iload_n 2, 1) := by decide +kernel
theorem dX10_takeAlarm_30 : decode cX10_takeAlarm 30 = .ok (.invokevirtual 354, 3) := by decide +kernel
theorem dX10_takeAlarm_33 : decode cX10_takeAlarm 33 = .ok (.return_, 1) := by decide +kernel
theorem dX10_isSounding_0 : decode cX10_isSounding 0 = .ok (.iconst 0, 1) := by decide +kernel
theorem dX10_isSounding_1 : decode cX10_isSounding 1 = .ok (.istore_n 1, 1) := by decide +kernel
theorem dX10_isSounding_2 : decode cX10_isSounding 2 = .ok (.iconst 0, 1) := by decide +kernel
theorem dX10_isSounding_3 : decode cX10_isSounding 3 = .ok (.istore_n 2, 1) := by decide +kernel
theorem dX10_isSounding_4 : decode cX10_isSounding 4 = .ok (.iload_n 2, 1) := by decide +kernel
theorem dX10_isSounding_5 : decode cX10_isSounding 5 = .ok (.iconst 3, 1) := by decide +kernel
theorem dX10_isSounding_6 : decode cX10_isSounding 6 = .ok (.if_icmp .ge 21, 3) := by decide +kernel
theorem dX10_isSounding_9 : decode cX10_isSounding 9 = .ok (.iload_n 1, 1) := by decide +kernel
theorem dX10_isSounding_10 : decode cX10_isSounding 10 = .ok (.aload_n 0, 1) := by decide +kernel
theorem dX10_isSounding_11 : decode cX10_isSounding 11 = .ok (.getfield 17, 3) := by decide +kernel
theorem dX10_isSounding_14 : decode cX10_isSounding 14 = .ok (.iload_n 2, 1) := by decide +kernel
theorem dX10_isSounding_15 : decode cX10_isSounding 15 = .ok (.aaload, 1) := by decide +kernel
theorem dX10_isSounding_16 : decode cX10_isSounding 16 = .ok (.getfield 160, 3) := by decide +kernel
theorem dX10_isSounding_19 : decode cX10_isSounding 19 = .ok (.ior, 1) := by decide +kernel
theorem dX10_isSounding_20 : decode cX10_isSounding 20 = .ok (.istore_n 1, 1) := by decide +kernel
theorem dX10_isSounding_21 : decode cX10_isSounding 21 = .ok (.iinc 2 1, 3) := by decide +kernel
theorem dX10_isSounding_24 : decode cX10_isSounding 24 = .ok (.goto (-20), 3) := by decide +kernel
theorem dX10_isSounding_27 : decode cX10_isSounding 27 = .ok (.iload_n 1, 1) := by decide +kernel
theorem dX10_isSounding_28 : decode cX10_isSounding 28 = .ok (.ifCond .eq 18, 3) := by decide +kernel
theorem dX10_isSounding_31 : decode cX10_isSounding 31 = .ok (.aload_n 0, 1) := by decide +kernel
theorem dX10_isSounding_32 : decode cX10_isSounding 32 = .ok (.getfield 148, 3) := by decide +kernel
theorem dX10_isSounding_35 : decode cX10_isSounding 35 = .ok (.aload_n 0, 1) := by decide +kernel
theorem dX10_isSounding_36 : decode cX10_isSounding 36 = .ok (.getfield 307, 3) := by decide +kernel
theorem dX10_isSounding_39 : decode cX10_isSounding 39 = .ok (.if_icmp .lt 7, 3) := by decide +kernel
theorem dX10_isSounding_42 : decode cX10_isSounding 42 = .ok (.iconst 1, 1) := by decide +kernel
theorem dX10_isSounding_43 : decode cX10_isSounding 43 = .ok (.goto 4, 3) := by decide +kernel
theorem dX10_isSounding_46 : decode cX10_isSounding 46 = .ok (.iconst 0, 1) := by decide +kernel
theorem dX10_isSounding_47 : decode cX10_isSounding 47 = .ok (.ireturn, 1) := by decide +kernel
set_option maxRecDepth 20000 in
theorem ggX10_passTick_X10_passChannel : GoodIn wsX10_passTick wsX10_passChannel := goodIn_r _ [7, 1, 8, 9, 10, 11, 12, 13, 14, 15, 16, 17, 18, 19, 20, 21, 22, 23, 24, 25, 26, 27, 28, 29, 30, 31, 32, 33, 34, 35, 36, 37, 38, 39, 40, 6, 41, 42, 43, 44, 45, 46, 47, 48, 49, 50, 51, 52, 53, 54, 55, 56, 57, 58, 59, 60, 61, 62, 63, 64, 65, 66, 67, 68, 69, 70, 71, 72, 73, 74, 75, 76, 77, 78, 79, 80, 81, 82, 83, 84, 85, 86, 87, 88, 89, 90, 91, 92, 93, 94, 95, 96, 97, 98, 99, 100, 101, 102, 103, 104, 105, 106, 107, 108, 109, 110, 111, 112, 113, 114, 115, 116, 117, 118, 119, 120, 121, 122, 123, 124, 125, 126, 127, 128, 129, 130, 131, 132, 133, 134, 135, 136, 137, 138, 139, 140, 141, 142, 143, 144, 145, 146, 147, 148, 149, 150, 151, 152, 153, 154, 155, 156, 157, 158, 159, 160, 161, 162, 163, 164, 165, 166, 167, 168, 169, 170, 171, 172, 173, 174, 175, 176, 177, 205, 206, 207, 208, 209, 210, 211, 212, 213, 214, 215, 216, 217, 218, 219, 220, 221, 222, 223, 224, 225, 226, 227, 228, 229, 230, 231, 232, 233, 234, 235, 236, 237, 238, 239, 240, 241, 242, 243, 244, 245, 246, 247, 248, 249, 250, 251, 252, 253, 254, 255, 256, 257, 258, 259, 260, 261, 262, 263, 264, 265, 266, 267, 268, 269, 270, 271, 272] (by decide +kernel) (by decide +kernel)
set_option maxRecDepth 20000 in
theorem gX10_passTick_X10_passChannel : GoodIn wsX10_passTick (wsV RX10 410 RX10 yX10_passChannel wsX10_passChannel) := goodIn_app (goodIn_of _ (by decide +kernel)) ggX10_passTick_X10_passChannel
set_option maxRecDepth 20000 in
theorem ggX10_passTick_X10_passBattery : GoodIn wsX10_passTick wsX10_passBattery := goodIn_r _ [181, 182, 183, 184, 47, 48, 49, 50, 185, 134, 135, 2, 8, 62, 63, 64, 6, 65, 66, 1, 67, 68, 69, 70, 71, 72, 13, 73, 74, 75, 76, 77, 78, 79, 80, 81, 82, 83, 84, 85, 86, 87, 88, 18, 89, 205, 206, 207, 208, 209, 210, 211, 212, 213, 214, 215, 216, 217, 218, 219, 220, 221, 222, 223, 259, 260, 261, 231, 232, 233] (by decide +kernel) (by decide +kernel)
set_option maxRecDepth 20000 in
theorem gX10_passTick_X10_passBattery : GoodIn wsX10_passTick (wsV RX10 413 RX10 yX10_passBattery wsX10_passBattery) := goodIn_app (goodIn_of _ (by decide +kernel)) ggX10_passTick_X10_passBattery
set_option maxRecDepth 20000 in
theorem ggX10_passTick_X10_passRelay : GoodIn wsX10_passTick wsX10_passRelay := goodIn_r _ [189, 190, 51, 191, 192, 193, 13, 194, 74, 16, 195, 196, 197, 198, 199, 88, 200, 201, 202, 6, 203, 8, 42, 204, 174, 175, 176, 177, 68, 1, 69, 75, 76, 77, 78, 79, 80, 81, 82, 83, 213, 214, 215, 216, 217, 218, 219, 220, 221, 222, 223, 224, 225, 226, 227, 228, 229, 230, 241, 242, 243, 244, 245, 205, 206, 207, 208, 209, 210, 211, 212, 259, 260, 261] (by decide +kernel) (by decide +kernel)
set_option maxRecDepth 20000 in
theorem gX10_passTick_X10_passRelay : GoodIn wsX10_passTick (wsV RX10 416 RX10 yX10_passRelay wsX10_passRelay) := goodIn_app (goodIn_of _ (by decide +kernel)) ggX10_passTick_X10_passRelay
theorem dX10_passTick_0 : decode cX10_passTick 0 = .ok (.aload_n 0, 1) := by decide +kernel
theorem dX10_passTick_1 : decode cX10_passTick 1 = .ok (.dup, 1) := by decide +kernel
theorem dX10_passTick_2 : decode cX10_passTick 2 = .ok (.getfield 148, 3) := by decide +kernel
theorem dX10_passTick_5 : decode cX10_passTick 5 = .ok (.iconst 1, 1) := by decide +kernel
theorem dX10_passTick_6 : decode cX10_passTick 6 = .ok (.iadd, 1) := by decide +kernel
theorem dX10_passTick_7 : decode cX10_passTick 7 = .ok (.putfield 148, 3) := by decide +kernel
theorem dX10_passTick_10 : decode cX10_passTick 10 = .ok (.iconst 0, 1) := by decide +kernel
theorem dX10_passTick_11 : decode cX10_passTick 11 = .ok (.istore_n 1, 1) := by decide +kernel
theorem dX10_passTick_12 : decode cX10_passTick 12 = .ok (.iconst 0, 1) := by decide +kernel
theorem dX10_passTick_13 : decode cX10_passTick 13 = .ok (.istore_n 2, 1) := by decide +kernel
theorem dX10_passTick_14 : decode cX10_passTick 14 = .ok (.iload_n 2, 1) := by decide +kernel
theorem dX10_passTick_15 : decode cX10_passTick 15 = .ok (.iconst 3, 1) := by decide +kernel
theorem dX10_passTick_16 : decode cX10_passTick 16 = .ok (.if_icmp .ge 22, 3) := by decide +kernel
theorem dX10_passTick_19 : decode cX10_passTick 19 = .ok (.iload_n 1, 1) := by decide +kernel
theorem dX10_passTick_20 : decode cX10_passTick 20 = .ok (.aload_n 0, 1) := by decide +kernel
theorem dX10_passTick_21 : decode cX10_passTick 21 = .ok (.aload_n 0, 1) := by decide +kernel
theorem dX10_passTick_22 : decode cX10_passTick 22 = .ok (.getfield 17, 3) := by decide +kernel
theorem dX10_passTick_25 : decode cX10_passTick 25 = .ok (.iload_n 2, 1) := by decide +kernel
theorem dX10_passTick_26 : decode cX10_passTick 26 = .ok (.aaload, 1) := by decide +kernel
theorem dX10_passTick_27 : decode cX10_passTick 27 = .ok (.invokevirtual 410, 3) := by decide +kernel
theorem dX10_passTick_30 : decode cX10_passTick 30 = .ok (.iadd, 1) := by decide +kernel
theorem dX10_passTick_31 : decode cX10_passTick 31 = .ok (.istore_n 1, 1) := by decide +kernel
theorem dX10_passTick_32 : decode cX10_passTick 32 = .ok (.iinc 2 1, 3) := by decide +kernel
theorem dX10_passTick_35 : decode cX10_passTick 35 = .ok (.goto (-21), 3) := by decide +kernel
theorem dX10_passTick_38 : decode cX10_passTick 38 = .ok (.aload_n 0, 1) := by decide +kernel
theorem dX10_passTick_39 : decode cX10_passTick 39 = .ok (.iload_n 1, 1) := by decide +kernel
theorem dX10_passTick_40 : decode cX10_passTick 40 = .ok (.invokevirtual 413, 3) := by decide +kernel
theorem dX10_passTick_43 : decode cX10_passTick 43 = .ok (.iconst 0, 1) := by decide +kernel
theorem dX10_passTick_44 : decode cX10_passTick 44 = .ok (.istore_n 2, 1) := by decide +kernel
theorem dX10_passTick_45 : decode cX10_passTick 45 = .ok (.iload_n 2, 1) := by decide +kernel
theorem dX10_passTick_46 : decode cX10_passTick 46 = .ok (.iconst 3, 1) := by decide +kernel
theorem dX10_passTick_47 : decode cX10_passTick 47 = .ok (.if_icmp .ge 35, 3) := by decide +kernel
theorem dX10_passTick_50 : decode cX10_passTick 50 = .ok (.aload_n 0, 1) := by decide +kernel
theorem dX10_passTick_51 : decode cX10_passTick 51 = .ok (.aload_n 0, 1) := by decide +kernel
theorem dX10_passTick_52 : decode cX10_passTick 52 = .ok (.getfield 17, 3) := by decide +kernel
theorem dX10_passTick_55 : decode cX10_passTick 55 = .ok (.iload_n 2, 1) := by decide +kernel
theorem dX10_passTick_56 : decode cX10_passTick 56 = .ok (.aaload, 1) := by decide +kernel
theorem dX10_passTick_57 : decode cX10_passTick 57 = .ok (.aload_n 0, 1) := by decide +kernel
theorem dX10_passTick_58 : decode cX10_passTick 58 = .ok (.getfield 17, 3) := by decide +kernel
theorem dX10_passTick_61 : decode cX10_passTick 61 = .ok (.iload_n 2, 1) := by decide +kernel
theorem dX10_passTick_62 : decode cX10_passTick 62 = .ok (.ifCond .le 9, 3) := by decide +kernel
theorem dX10_passTick_65 : decode cX10_passTick 65 = .ok (.iload_n 2, 1) := by decide +kernel
theorem dX10_passTick_66 : decode cX10_passTick 66 = .ok (.iconst 1, 1) := by decide +kernel
theorem dX10_passTick_67 : decode cX10_passTick 67 = .ok (.isub, 1) := by decide +kernel
theorem dX10_passTick_68 : decode cX10_passTick 68 = .ok (.goto 4, 3) := by decide +kernel
theorem dX10_passTick_71 : decode cX10_passTick 71 = .ok (.iconst 2, 1) := by decide +kernel
theorem dX10_passTick_72 : decode cX10_passTick 72 = .ok (.aaload, 1) := by decide +kernel
theorem dX10_passTick_73 : decode cX10_passTick 73 = .ok (.invokevirtual 416, 3) := by decide +kernel
theorem dX10_passTick_76 : decode cX10_passTick 76 = .ok (.iinc 2 1, 3) := by decide +kernel
theorem dX10_passTick_79 : decode cX10_passTick 79 = .ok (.goto (-34), 3) := by decide +kernel
theorem dX10_passTick_82 : decode cX10_passTick 82 = .ok (.iload_n 1, 1) := by decide +kernel
theorem dX10_passTick_83 : decode cX10_passTick 83 = .ok (.ireturn, 1) := by decide +kernel
set_option maxRecDepth 20000 in
theorem ggX10_passChannel_X1_beginTick : GoodIn wsX10_passChannel wsX1_beginTick := goodIn_r _ [8, 9, 10, 11, 12, 13, 14, 15, 16, 17, 18, 19, 20, 21, 22, 23, 24, 25, 26, 27, 28, 29, 30, 31, 181, 182, 183, 184, 185, 186, 187, 188, 189, 190, 191, 192, 193, 194, 195, 196, 197, 198, 199, 200, 201, 202, 203, 204, 205, 206, 207, 208] (by decide +kernel) (by decide +kernel)
set_option maxRecDepth 20000 in
theorem gX10_passChannel_X1_beginTick : GoodIn wsX10_passChannel (wsV RX10 420 RX1 yX1_beginTick wsX1_beginTick) := goodIn_app (goodIn_of _ (by decide +kernel)) ggX10_passChannel_X1_beginTick
set_option maxRecDepth 20000 in
theorem ggX10_passChannel_X10_deliver : GoodIn wsX10_passChannel wsX10_deliver := goodIn_r _ [36, 37, 38, 39, 40, 41, 42, 43, 44, 45, 2, 46, 47, 48, 49, 50, 51, 52, 53, 54, 55, 56, 57, 58, 59, 35, 60, 61, 1, 62, 63, 64, 65, 66, 67, 7, 68, 69, 70, 71, 72, 73, 74, 75, 76, 77, 78, 79, 80, 81, 82, 83, 12, 84, 85, 86, 87, 88, 89, 3, 90, 91, 92, 18, 93, 22, 20, 21, 94, 95, 96, 97, 98, 99, 100, 101, 102, 103, 104, 105, 26, 106, 29, 28, 30, 107, 108, 109, 110, 111, 112, 113, 114, 115, 116, 117, 118, 119, 120, 121, 122, 181, 182, 183, 184, 185, 186, 187, 188, 189, 190, 191, 209, 210, 211, 212, 213, 214, 215, 216, 217, 218, 219, 220, 221, 222, 223, 224, 225, 226, 199, 200, 201, 202, 203, 204, 173, 174, 175, 176, 177, 178, 179, 180, 227, 228, 229, 192, 193, 194, 195, 196, 197, 198, 205, 206, 207, 208] (by decide +kernel) (by decide +kernel)
set_option maxRecDepth 20000 in
theorem gX10_passChannel_X10_deliver : GoodIn wsX10_passChannel (wsV RX10 423 RX10 yX10_deliver wsX10_deliver) := goodIn_app (goodIn_of _ (by decide +kernel)) ggX10_passChannel_X10_deliver
set_option maxRecDepth 20000 in
theorem ggX10_passChannel_X6_drainAndTestBlocked : GoodIn wsX10_passChannel wsX6_drainAndTestBlocked := goodIn_r _ [126, 99, 127, 128, 129, 44, 130, 131, 192, 193, 194, 195, 196, 197, 198] (by decide +kernel) (by decide +kernel)
set_option maxRecDepth 20000 in
theorem gX10_passChannel_X6_drainAndTestBlocked : GoodIn wsX10_passChannel (wsV RX10 426 RX6 yX6_drainAndTestBlocked wsX6_drainAndTestBlocked) := goodIn_app (goodIn_of _ (by decide +kernel)) ggX10_passChannel_X6_drainAndTestBlocked
set_option maxRecDepth 20000 in
theorem ggX10_passChannel_X10_latch : GoodIn wsX10_passChannel wsX10_latch := goodIn_r _ [60, 61, 1, 62, 63, 64, 2, 65, 66, 67, 7, 68, 69, 70, 71, 72, 73, 74, 75, 76, 77, 78, 79, 80, 81, 82, 83, 12, 84, 181, 182, 183, 184, 185, 186, 187, 188, 189, 190, 191, 173, 174, 175, 176, 177, 178, 179, 180, 227, 228, 229, 199, 200, 201] (by decide +kernel) (by decide +kernel)
set_option maxRecDepth 20000 in
theorem gX10_passChannel_X10_latch : GoodIn wsX10_passChannel (wsV RX10 144 RX10 yX10_latch wsX10_latch) := goodIn_app (goodIn_of _ (by decide +kernel)) ggX10_passChannel_X10_latch
set_option maxRecDepth 20000 in
theorem ggX10_passChannel_X1_hasEntry : GoodIn wsX10_passChannel wsX1_hasEntry := goodIn_r _ [135, 83, 181, 182, 183, 184, 185, 186, 187, 188, 189, 190, 191] (by decide +kernel) (by decide +kernel)
set_option maxRecDepth 20000 in
theorem gX10_passChannel_X1_hasEntry : GoodIn wsX10_passChannel (wsV RX10 242 RX1 yX1_hasEntry wsX1_hasEntry) := goodIn_app (goodIn_of _ (by decide +kernel)) ggX10_passChannel_X1_hasEntry
set_option maxRecDepth 20000 in
theorem ggX10_passChannel_X10_passEntry : GoodIn wsX10_passChannel wsX10_passEntry := goodIn_r _ [139, 140, 141, 142, 143, 144, 35, 145, 2, 146, 147, 148, 149, 150, 151, 152, 153, 154, 155, 156, 7, 157, 83, 158, 159, 160, 161, 162, 163, 164, 165, 166, 167, 168, 169, 170, 171, 172, 63, 1, 64, 70, 71, 72, 73, 74, 75, 76, 77, 78, 181, 182, 183, 184, 185, 186, 187, 188, 189, 190, 191, 230, 231, 232, 233, 234, 235, 236, 237, 238, 239, 240, 173, 174, 175, 176, 177, 178, 179, 180, 227, 228, 229] (by decide +kernel) (by decide +kernel)
set_option maxRecDepth 20000 in
theorem gX10_passChannel_X10_passEntry : GoodIn wsX10_passChannel (wsV RX10 429 RX10 yX10_passEntry wsX10_passEntry) := goodIn_app (goodIn_of _ (by decide +kernel)) ggX10_passChannel_X10_passEntry
theorem dX10_passChannel_0 : decode cX10_passChannel 0 = .ok (.aload_n 1, 1) := by decide +kernel
theorem dX10_passChannel_1 : decode cX10_passChannel 1 = .ok (.aload_n 0, 1) := by decide +kernel
theorem dX10_passChannel_2 : decode cX10_passChannel 2 = .ok (.getfield 148, 3) := by decide +kernel
theorem dX10_passChannel_5 : decode cX10_passChannel 5 = .ok (.invokevirtual 420, 3) := by decide +kernel
theorem dX10_passChannel_8 : decode cX10_passChannel 8 = .ok (.aload_n 1, 1) := by decide +kernel
theorem dX10_passChannel_9 : decode cX10_passChannel 9 = .ok (.getfield 141, 3) := by decide +kernel
theorem dX10_passChannel_12 : decode cX10_passChannel 12 = .ok (.bipush 7, 2) := by decide +kernel
theorem dX10_passChannel_14 : decode cX10_passChannel 14 = .ok (.if_icmp .ne 11, 3) := by decide +kernel
theorem dX10_passChannel_17 : decode cX10_passChannel 17 = .ok (.aload_n 0, 1) := by decide +kernel
theorem dX10_passChannel_18 : decode cX10_passChannel 18 = .ok (.aload_n 1, 1) := by decide +kernel
theorem dX10_passChannel_19 : decode cX10_passChannel 19 = .ok (.invokevirtual 423, 3) := by decide +kernel
theorem dX10_passChannel_22 : decode cX10_passChannel 22 = .ok (.goto 4, 3) := by decide +kernel
theorem dX10_passChannel_25 : decode cX10_passChannel 25 = .ok (.iconst 0, 1) := by decide +kernel
theorem dX10_passChannel_26 : decode cX10_passChannel 26 = .ok (.istore_n 2, 1) := by decide +kernel
theorem dX10_passChannel_27 : decode cX10_passChannel 27 = .ok (.aload_n 1, 1) := by decide +kernel
theorem dX10_passChannel_28 : decode cX10_passChannel 28 = .ok (.getfield 125, 3) := by decide +kernel
theorem dX10_passChannel_31 : decode cX10_passChannel 31 = .ok (.invokevirtual 426, 3) := by decide +kernel
theorem dX10_passChannel_34 : decode cX10_passChannel 34 = .ok (.ifCond .eq 9, 3) := by decide +kernel
theorem dX10_passChannel_37 : decode cX10_passChannel 37 = .ok (.aload_n 0, 1) := by decide +kernel
theorem dX10_passChannel_38 : decode cX10_passChannel 38 = .ok (.aload_n 1, 1) := by decide +kernel
theorem dX10_passChannel_39 : decode cX10_passChannel 39 = .ok (.iconst 1, 1) := by decide +kernel
theorem dX10_passChannel_40 : decode cX10_passChannel 40 = .ok (.invokevirtual 144, 3) := by decide +kernel
theorem dX10_passChannel_43 : decode cX10_passChannel 43 = .ok (.aload_n 1, 1) := by decide +kernel
theorem dX10_passChannel_44 : decode cX10_passChannel 44 = .ok (.invokevirtual 242, 3) := by decide +kernel
theorem dX10_passChannel_47 : decode cX10_passChannel 47 = .ok (.ifCond .eq 8, 3) := by decide +kernel
theorem dX10_passChannel_50 : decode cX10_passChannel 50 = .ok (.aload_n 0, 1) := by decide +kernel
theorem dX10_passChannel_51 : decode cX10_passChannel 51 = .ok (.aload_n 1, 1) := by decide +kernel
theorem dX10_passChannel_52 : decode cX10_passChannel 52 = .ok (.invokevirtual 429, 3) := by decide +kernel
theorem dX10_passChannel_55 : decode cX10_passChannel 55 = .ok (.iload_n 2, 1) := by decide +kernel
theorem dX10_passChannel_56 : decode cX10_passChannel 56 = .ok (.ireturn, 1) := by decide +kernel
set_option maxRecDepth 20000 in
theorem ggX10_deliver_X7_strokesDue : GoodIn wsX10_deliver wsX7_strokesDue := goodIn_r _ [19, 20, 21, 112, 113, 114, 115, 116] (by decide +kernel) (by decide +kernel)
set_option maxRecDepth 20000 in
theorem gX10_deliver_X7_strokesDue : GoodIn wsX10_deliver (wsV RX10 440 RX7 yX7_strokesDue wsX7_strokesDue) := goodIn_app (goodIn_of _ (by decide +kernel)) ggX10_deliver_X7_strokesDue
set_option maxRecDepth 20000 in
theorem ggX10_deliver_X10_latch : GoodIn wsX10_deliver wsX10_latch := goodIn_r _ [26, 27, 28, 29, 30, 31, 10, 32, 33, 34, 35, 36, 37, 38, 39, 40, 41, 42, 43, 44, 45, 46, 47, 48, 49, 50, 51, 52, 53, 101, 102, 103, 104, 105, 106, 107, 108, 109, 110, 111, 136, 137, 138, 139, 140, 141, 142, 143, 144, 145, 146, 130, 131, 132] (by decide +kernel) (by decide +kernel)
set_option maxRecDepth 20000 in
theorem gX10_deliver_X10_latch : GoodIn wsX10_deliver (wsV RX10 144 RX10 yX10_latch wsX10_latch) := goodIn_app (goodIn_of _ (by decide +kernel)) ggX10_deliver_X10_latch
set_option maxRecDepth 20000 in
theorem ggX10_deliver_X10_makeStroke : GoodIn wsX10_deliver wsX10_makeStroke := goodIn_r _ [57, 12, 58, 59, 28, 1, 11, 4, 5, 60, 61, 62, 63, 64, 65, 66, 67, 68, 69, 70, 71, 72, 73, 74, 75, 76, 77, 78, 79, 80, 81, 82, 83, 84, 85, 86, 87, 18, 88, 89, 90, 91, 92, 93, 94, 95, 22, 23, 24, 25, 26, 27, 29, 30, 31, 10, 32, 33, 34, 35, 36, 37, 38, 39, 40, 41, 42, 43, 44, 45, 46, 47, 48, 49, 50, 51, 52, 53, 96, 97, 98, 99, 21, 100, 7, 8, 9, 101, 102, 103, 104, 105, 106, 107, 108, 109, 110, 111, 136, 137, 138, 139, 140, 141, 142, 143, 130, 131, 132, 133, 134, 135, 147, 148, 149, 150, 151, 152, 153, 154, 155, 156, 157, 112, 113, 114, 115, 116, 144, 145, 146] (by decide +kernel) (by decide +kernel)
set_option maxRecDepth 20000 in
theorem gX10_deliver_X10_makeStroke : GoodIn wsX10_deliver (wsV RX10 446 RX10 yX10_makeStroke wsX10_makeStroke) := goodIn_app (goodIn_of _ (by decide +kernel)) ggX10_deliver_X10_makeStroke
theorem dX10_deliver_0 : decode cX10_deliver 0 = .ok (.aload_n 1, 1) := by decide +kernel
theorem dX10_deliver_1 : decode cX10_deliver 1 = .ok (.getfield 163, 3) := by decide +kernel
theorem dX10_deliver_4 : decode cX10_deliver 4 = .ok (.getfield 216, 3) := by decide +kernel
theorem dX10_deliver_7 : decode cX10_deliver 7 = .ok (.getfield 432, 3) := by decide +kernel
theorem dX10_deliver_10 : decode cX10_deliver 10 = .ok (.aload_n 1, 1) := by decide +kernel
theorem dX10_deliver_11 : decode cX10_deliver 11 = .ok (.getfield 181, 3) := by decide +kernel
theorem dX10_deliver_14 : decode cX10_deliver 14 = .ok (.getfield 185, 3) := by decide +kernel
theorem dX10_deliver_17 : decode cX10_deliver 17 = .ok (.invokestatic 435, 3) := by decide +kernel
theorem dX10_deliver_20 : decode cX10_deliver 20 = .ok (.istore_n 2, 1) := by decide +kernel
theorem dX10_deliver_21 : decode cX10_deliver 21 = .ok (.aload_n 1, 1) := by decide +kernel
theorem dX10_deliver_22 : decode cX10_deliver 22 = .ok (.getfield 163, 3) := by decide +kernel
theorem dX10_deliver_25 : decode cX10_deliver 25 = .ok (.invokevirtual 440, 3) := by decide +kernel
theorem dX10_deliver_28 : decode cX10_deliver 28 = .ok (.iload_n 2, 1) := by decide +kernel
theorem dX10_deliver_29 : decode cX10_deliver 29 = .ok (.iadd, 1) := by decide +kernel
theorem dX10_deliver_30 : decode cX10_deliver 30 = .ok (.istore_n 3, 1) := by decide +kernel
theorem dX10_deliver_31 : decode cX10_deliver 31 = .ok (.aload_n 1, 1) := by decide +kernel
theorem dX10_deliver_32 : decode cX10_deliver 32 = .ok (.getfield 181, 3) := by decide +kernel
theorem dX10_deliver_35 : decode cX10_deliver 35 = .ok (.dup, 1) := by decide +kernel
theorem dX10_deliver_36 : decode cX10_deliver 36 = .ok (.getfield 185, 3) := by decide +kernel
theorem dX10_deliver_39 : decode cX10_deliver 39 = .ok (.iload_n 2, 1) := by decide +kernel
theorem dX10_deliver_40 : decode cX10_deliver 40 = .ok (.isub, 1) := by decide +kernel
theorem dX10_deliver_41 : decode cX10_deliver 41 = .ok (.putfield 185, 3) := by decide +kernel
theorem dX10_deliver_44 : decode cX10_deliver 44 = .ok (.iconst 0, 1) := by decide +kernel
theorem dX10_deliver_45 : decode cX10_deliver 45 = .ok (.istore 4, 2) := by decide +kernel
theorem dX10_deliver_47 : decode cX10_deliver 47 = .ok (.iconst 0, 1) := by decide +kernel
theorem dX10_deliver_48 : decode cX10_deliver 48 = .ok (.istore 5, 2) := by decide +kernel
theorem dX10_deliver_50 : decode cX10_deliver 50 = .ok (.iload 5, 2) := by decide +kernel
theorem dX10_deliver_52 : decode cX10_deliver 52 = .ok (.iload_n 3, 1) := by decide +kernel
theorem dX10_deliver_53 : decode cX10_deliver 53 = .ok (.if_icmp .ge 62, 3) := by decide +kernel
theorem dX10_deliver_56 : decode cX10_deliver 56 = .ok (.aload_n 1, 1) := by decide +kernel
theorem dX10_deliver_57 : decode cX10_deliver 57 = .ok (.getfield 141, 3) := by decide +kernel
theorem dX10_deliver_60 : decode cX10_deliver 60 = .ok (.bipush 7, 2) := by decide +kernel
theorem dX10_deliver_62 : decode cX10_deliver 62 = .ok (.if_icmp .ne 53, 3) := by decide +kernel
theorem dX10_deliver_65 : decode cX10_deliver 65 = .ok (.aload_n 1, 1) := by decide +kernel
theorem dX10_deliver_66 : decode cX10_deliver 66 = .ok (.getfield 443, 3) := by decide +kernel
theorem dX10_deliver_69 : decode cX10_deliver 69 = .ok (.ifCond .ne 46, 3) := by decide +kernel
theorem dX10_deliver_72 : decode cX10_deliver 72 = .ok (.aload_n 1, 1) := by decide +kernel
theorem dX10_deliver_73 : decode cX10_deliver 73 = .ok (.getfield 188, 3) := by decide +kernel
theorem dX10_deliver_76 : decode cX10_deliver 76 = .ok (.getfield 192, 3) := by decide +kernel
theorem dX10_deliver_79 : decode cX10_deliver 79 = .ok (.aload_n 1, 1) := by decide +kernel
theorem dX10_deliver_80 : decode cX10_deliver 80 = .ok (.getfield 163, 3) := by decide +kernel
theorem dX10_deliver_83 : decode cX10_deliver 83 = .ok (.getfield 216, 3) := by decide +kernel
theorem dX10_deliver_86 : decode cX10_deliver 86 = .ok (.getfield 404, 3) := by decide +kernel
theorem dX10_deliver_89 : decode cX10_deliver 89 = .ok (.if_icmp .lt 12, 3) := by decide +kernel
theorem dX10_deliver_92 : decode cX10_deliver 92 = .ok (.aload_n 0, 1) := by decide +kernel
theorem dX10_deliver_93 : decode cX10_deliver 93 = .ok (.aload_n 1, 1) := by decide +kernel
theorem dX10_deliver_94 : decode cX10_deliver 94 = .ok (.iconst 4, 1) := by decide +kernel
theorem dX10_deliver_95 : decode cX10_deliver 95 = .ok (.invokevirtual 144, 3) := by decide +kernel
theorem dX10_deliver_98 : decode cX10_deliver 98 = .ok (.goto 11, 3) := by decide +kernel
theorem dX10_deliver_101 : decode cX10_deliver 101 = .ok (.aload_n 0, 1) := by decide +kernel
theorem dX10_deliver_102 : decode cX10_deliver 102 = .ok (.aload_n 1, 1) := by decide +kernel
theorem dX10_deliver_103 : decode cX10_deliver 103 = .ok (.invokevirtual 446, 3) := by decide +kernel
theorem dX10_deliver_106 : decode cX10_deliver 106 = .ok (.iinc 4 1, 3) := by decide +kernel
theorem dX10_deliver_109 : decode cX10_deliver 109 = .ok (.iinc 5 1, 3) := by decide +kernel
theorem dX10_deliver_112 : decode cX10_deliver 112 = .ok (.goto (-62), 3) := by decide +kernel
theorem dX10_deliver_115 : decode cX10_deliver 115 = .ok (.iload 4, 2) := by decide +kernel
theorem dX10_deliver_117 : decode cX10_deliver 117 = .ok (.ireturn, 1) := by decide +kernel
set_option maxRecDepth 20000 in
theorem ggX10_makeStroke_X4_add : GoodIn wsX10_makeStroke wsX4_add := goodIn_r _ [13, 14, 15, 16, 109, 110, 111] (by decide +kernel) (by decide +kernel)
set_option maxRecDepth 20000 in
theorem gX10_makeStroke_X4_add : GoodIn wsX10_makeStroke (wsV RX10 449 RX4 yX4_add wsX4_add) := goodIn_app (goodIn_of _ (by decide +kernel)) ggX10_makeStroke_X4_add
set_option maxRecDepth 20000 in
theorem ggX10_makeStroke_X6_carryStroke : GoodIn wsX10_makeStroke wsX6_carryStroke := goodIn_r _ [21, 22, 23, 24, 25, 26, 27, 28, 29, 30, 31, 32, 33, 112, 113, 114, 115, 116, 117, 118, 119, 120, 121, 122] (by decide +kernel) (by decide +kernel)
set_option maxRecDepth 20000 in
theorem gX10_makeStroke_X6_carryStroke : GoodIn wsX10_makeStroke (wsV RX10 452 RX6 yX6_carryStroke wsX6_carryStroke) := goodIn_app (goodIn_of _ (by decide +kernel)) ggX10_makeStroke_X6_carryStroke
set_option maxRecDepth 20000 in
theorem ggX10_makeStroke_X7_countStroke : GoodIn wsX10_makeStroke wsX7_countStroke := goodIn_r _ [38, 39, 40, 123, 124, 125, 126, 127] (by decide +kernel) (by decide +kernel)
set_option maxRecDepth 20000 in
theorem gX10_makeStroke_X7_countStroke : GoodIn wsX10_makeStroke (wsV RX10 455 RX7 yX7_countStroke wsX7_countStroke) := goodIn_app (goodIn_of _ (by decide +kernel)) ggX10_makeStroke_X7_countStroke
set_option maxRecDepth 20000 in
theorem ggX10_makeStroke_X6_hasTooMuchAir : GoodIn wsX10_makeStroke wsX6_hasTooMuchAir := goodIn_r _ [44, 24, 25, 45, 112, 113, 114, 115, 116, 117, 118, 119, 120, 121, 122] (by decide +kernel) (by decide +kernel)
set_option maxRecDepth 20000 in
theorem gX10_makeStroke_X6_hasTooMuchAir : GoodIn wsX10_makeStroke (wsV RX10 458 RX6 yX6_hasTooMuchAir wsX6_hasTooMuchAir) := goodIn_app (goodIn_of _ (by decide +kernel)) ggX10_makeStroke_X6_hasTooMuchAir
set_option maxRecDepth 20000 in
theorem ggX10_makeStroke_X10_latch : GoodIn wsX10_makeStroke wsX10_latch := goodIn_r _ [50, 51, 4, 52, 53, 54, 55, 56, 57, 58, 59, 60, 61, 62, 63, 64, 65, 66, 67, 68, 69, 70, 71, 72, 73, 74, 75, 76, 77, 87, 88, 89, 90, 91, 92, 93, 94, 95, 96, 97, 98, 99, 100, 101, 102, 103, 104, 105, 128, 129, 130, 106, 107, 108] (by decide +kernel) (by decide +kernel)
set_option maxRecDepth 20000 in
theorem gX10_makeStroke_X10_latch : GoodIn wsX10_makeStroke (wsV RX10 144 RX10 yX10_latch wsX10_latch) := goodIn_app (goodIn_of _ (by decide +kernel)) ggX10_makeStroke_X10_latch
set_option maxRecDepth 20000 in
theorem ggX10_makeStroke_X7_keepOpen : GoodIn wsX10_makeStroke wsX7_keepOpen := goodIn_r _ [81, 82, 83, 84, 85, 86, 40, 123, 124, 125, 126, 127] (by decide +kernel) (by decide +kernel)
set_option maxRecDepth 20000 in
theorem gX10_makeStroke_X7_keepOpen : GoodIn wsX10_makeStroke (wsV RX10 461 RX7 yX7_keepOpen wsX7_keepOpen) := goodIn_app (goodIn_of _ (by decide +kernel)) ggX10_makeStroke_X7_keepOpen
theorem dX10_makeStroke_0 : decode cX10_makeStroke 0 = .ok (.aload_n 1, 1) := by decide +kernel
theorem dX10_makeStroke_1 : decode cX10_makeStroke 1 = .ok (.getfield 188, 3) := by decide +kernel
theorem dX10_makeStroke_4 : decode cX10_makeStroke 4 = .ok (.invokevirtual 449, 3) := by decide +kernel
theorem dX10_makeStroke_7 : decode cX10_makeStroke 7 = .ok (.aload_n 1, 1) := by decide +kernel
theorem dX10_makeStroke_8 : decode cX10_makeStroke 8 = .ok (.dup, 1) := by decide +kernel
theorem dX10_makeStroke_9 : decode cX10_makeStroke 9 = .ok (.getfield 223, 3) := by decide +kernel
theorem dX10_makeStroke_12 : decode cX10_makeStroke 12 = .ok (.iconst 1, 1) := by decide +kernel
theorem dX10_makeStroke_13 : decode cX10_makeStroke 13 = .ok (.iadd, 1) := by decide +kernel
theorem dX10_makeStroke_14 : decode cX10_makeStroke 14 = .ok (.putfield 223, 3) := by decide +kernel
theorem dX10_makeStroke_17 : decode cX10_makeStroke 17 = .ok (.aload_n 1, 1) := by decide +kernel
theorem dX10_makeStroke_18 : decode cX10_makeStroke 18 = .ok (.getfield 125, 3) := by decide +kernel
theorem dX10_makeStroke_21 : decode cX10_makeStroke 21 = .ok (.aload_n 0, 1) := by decide +kernel
theorem dX10_makeStroke_22 : decode cX10_makeStroke 22 = .ok (.getfield 148, 3) := by decide +kernel
theorem dX10_makeStroke_25 : decode cX10_makeStroke 25 = .ok (.invokevirtual 452, 3) := by decide +kernel
theorem dX10_makeStroke_28 : decode cX10_makeStroke 28 = .ok (.aload_n 1, 1) := by decide +kernel
theorem dX10_makeStroke_29 : decode cX10_makeStroke 29 = .ok (.getfield 163, 3) := by decide +kernel
theorem dX10_makeStroke_32 : decode cX10_makeStroke 32 = .ok (.invokevirtual 455, 3) := by decide +kernel
theorem dX10_makeStroke_35 : decode cX10_makeStroke 35 = .ok (.istore_n 2, 1) := by decide +kernel
theorem dX10_makeStroke_36 : decode cX10_makeStroke 36 = .ok (.aload_n 1, 1) := by decide +kernel
theorem dX10_makeStroke_37 : decode cX10_makeStroke 37 = .ok (.getfield 125, 3) := by decide +kernel
theorem dX10_makeStroke_40 : decode cX10_makeStroke 40 = .ok (.invokevirtual 458, 3) := by decide +kernel
theorem dX10_makeStroke_43 : decode cX10_makeStroke 43 = .ok (.ifCond .eq 9, 3) := by decide +kernel
theorem dX10_makeStroke_46 : decode cX10_makeStroke 46 = .ok (.aload_n 0, 1) := by decide +kernel
theorem dX10_makeStroke_47 : decode cX10_makeStroke 47 = .ok (.aload_n 1, 1) := by decide +kernel
theorem dX10_makeStroke_48 : decode cX10_makeStroke 48 = .ok (.iconst 0, 1) := by decide +kernel
theorem dX10_makeStroke_49 : decode cX10_makeStroke 49 = .ok (.invokevirtual 144, 3) := by decide +kernel
theorem dX10_makeStroke_52 : decode cX10_makeStroke 52 = .ok (.iload_n 2, 1) := by decide +kernel
theorem dX10_makeStroke_53 : decode cX10_makeStroke 53 = .ok (.ifCond .eq 29, 3) := by decide +kernel
theorem dX10_makeStroke_56 : decode cX10_makeStroke 56 = .ok (.aload_n 1, 1) := by decide +kernel
theorem dX10_makeStroke_57 : decode cX10_makeStroke 57 = .ok (.iconst 1, 1) := by decide +kernel
theorem dX10_makeStroke_58 : decode cX10_makeStroke 58 = .ok (.putfield 443, 3) := by decide +kernel
theorem dX10_makeStroke_61 : decode cX10_makeStroke 61 = .ok (.aload_n 1, 1) := by decide +kernel
theorem dX10_makeStroke_62 : decode cX10_makeStroke 62 = .ok (.getfield 181, 3) := by decide +kernel
theorem dX10_makeStroke_65 : decode cX10_makeStroke 65 = .ok (.iconst 0, 1) := by decide +kernel
theorem dX10_makeStroke_66 : decode cX10_makeStroke 66 = .ok (.putfield 185, 3) := by decide +kernel
theorem dX10_makeStroke_69 : decode cX10_makeStroke 69 = .ok (.aload_n 1, 1) := by decide +kernel
theorem dX10_makeStroke_70 : decode cX10_makeStroke 70 = .ok (.getfield 163, 3) := by decide +kernel
theorem dX10_makeStroke_73 : decode cX10_makeStroke 73 = .ok (.invokevirtual 461, 3) := by decide +kernel
theorem dX10_makeStroke_76 : decode cX10_makeStroke 76 = .ok (.aload_n 0, 1) := by decide +kernel
theorem dX10_makeStroke_77 : decode cX10_makeStroke 77 = .ok (.aload_n 1, 1) := by decide +kernel
theorem dX10_makeStroke_78 : decode cX10_makeStroke 78 = .ok (.iconst 5, 1) := by decide +kernel
theorem dX10_makeStroke_79 : decode cX10_makeStroke 79 = .ok (.invokevirtual 144, 3) := by decide +kernel
theorem dX10_makeStroke_82 : decode cX10_makeStroke 82 = .ok (.return_, 1) := by decide +kernel
set_option maxRecDepth 20000 in
theorem ggX10_passEntry_X10_dropEntry : GoodIn wsX10_passEntry wsX10_dropEntry := goodIn_r _ [7, 8, 1, 9, 10, 11, 12, 13, 14, 15, 16, 17, 18, 19, 20, 21, 22, 23, 24, 25, 26, 27, 28, 29, 30, 31, 32, 33, 34, 35, 36, 6, 37, 38, 39, 40, 41, 42, 43, 44, 45, 46, 47, 48, 49, 50, 51, 52, 53, 54, 55, 56, 57, 58, 59, 60, 61, 62, 63, 64, 65, 66, 67, 68, 69, 70, 71, 72, 73, 74, 75, 76, 77, 78, 79, 80, 81, 82] (by decide +kernel) (by decide +kernel)
set_option maxRecDepth 20000 in
theorem gX10_passEntry_X10_dropEntry : GoodIn wsX10_passEntry (wsV RX10 332 RX10 yX10_dropEntry wsX10_dropEntry) := goodIn_app (goodIn_of _ (by decide +kernel)) ggX10_passEntry_X10_dropEntry
theorem dX10_passEntry_0 : decode cX10_passEntry 0 = .ok (.aload_n 1, 1) := by decide +kernel
theorem dX10_passEntry_1 : decode cX10_passEntry 1 = .ok (.getfield 106, 3) := by decide +kernel
theorem dX10_passEntry_4 : decode cX10_passEntry 4 = .ok (.dup, 1) := by decide +kernel
theorem dX10_passEntry_5 : decode cX10_passEntry 5 = .ok (.getfield 110, 3) := by decide +kernel
theorem dX10_passEntry_8 : decode cX10_passEntry 8 = .ok (.iconst 1, 1) := by decide +kernel
theorem dX10_passEntry_9 : decode cX10_passEntry 9 = .ok (.iadd, 1) := by decide +kernel
theorem dX10_passEntry_10 : decode cX10_passEntry 10 = .ok (.putfield 110, 3) := by decide +kernel
theorem dX10_passEntry_13 : decode cX10_passEntry 13 = .ok (.aload_n 1, 1) := by decide +kernel
theorem dX10_passEntry_14 : decode cX10_passEntry 14 = .ok (.getfield 106, 3) := by decide +kernel
theorem dX10_passEntry_17 : decode cX10_passEntry 17 = .ok (.getfield 110, 3) := by decide +kernel
theorem dX10_passEntry_20 : decode cX10_passEntry 20 = .ok (.bipush 60, 2) := by decide +kernel
theorem dX10_passEntry_22 : decode cX10_passEntry 22 = .ok (.if_icmp .lt 8, 3) := by decide +kernel
theorem dX10_passEntry_25 : decode cX10_passEntry 25 = .ok (.aload_n 0, 1) := by decide +kernel
theorem dX10_passEntry_26 : decode cX10_passEntry 26 = .ok (.aload_n 1, 1) := by decide +kernel
theorem dX10_passEntry_27 : decode cX10_passEntry 27 = .ok (.invokevirtual 332, 3) := by decide +kernel
theorem dX10_passEntry_30 : decode cX10_passEntry 30 = .ok (.return_, 1) := by decide +kernel
set_option maxRecDepth 20000 in
theorem ggX10_passBattery_X10_latch : GoodIn wsX10_passBattery wsX10_latch := goodIn_r _ [17, 18, 19, 20, 21, 22, 12, 23, 24, 25, 26, 27, 28, 29, 30, 31, 32, 33, 34, 35, 36, 37, 38, 39, 40, 41, 42, 43, 44, 53, 54, 55, 56, 57, 58, 59, 60, 61, 62, 63, 45, 46, 47, 48, 49, 50, 51, 52, 64, 65, 66, 67, 68, 69] (by decide +kernel) (by decide +kernel)
set_option maxRecDepth 20000 in
theorem gX10_passBattery_X10_latch : GoodIn wsX10_passBattery (wsV RX10 144 RX10 yX10_latch wsX10_latch) := goodIn_app (goodIn_of _ (by decide +kernel)) ggX10_passBattery_X10_latch
theorem dX10_passBattery_0 : decode cX10_passBattery 0 = .ok (.aload_n 0, 1) := by decide +kernel
theorem dX10_passBattery_1 : decode cX10_passBattery 1 = .ok (.aload_n 0, 1) := by decide +kernel
theorem dX10_passBattery_2 : decode cX10_passBattery 2 = .ok (.getfield 33, 3) := by decide +kernel
theorem dX10_passBattery_5 : decode cX10_passBattery 5 = .ok (.ifCond .eq 17, 3) := by decide +kernel
theorem dX10_passBattery_8 : decode cX10_passBattery 8 = .ok (.ldc 28, 2) := by decide +kernel
theorem dX10_passBattery_10 : decode cX10_passBattery 10 = .ok (.aload_n 0, 1) := by decide +kernel
theorem dX10_passBattery_11 : decode cX10_passBattery 11 = .ok (.getfield 29, 3) := by decide +kernel
theorem dX10_passBattery_14 : decode cX10_passBattery 14 = .ok (.iconst 4, 1) := by decide +kernel
theorem dX10_passBattery_15 : decode cX10_passBattery 15 = .ok (.iadd, 1) := by decide +kernel
theorem dX10_passBattery_16 : decode cX10_passBattery 16 = .ok (.invokestatic 435, 3) := by decide +kernel
theorem dX10_passBattery_19 : decode cX10_passBattery 19 = .ok (.goto 15, 3) := by decide +kernel
theorem dX10_passBattery_22 : decode cX10_passBattery 22 = .ok (.iconst 0, 1) := by decide +kernel
theorem dX10_passBattery_23 : decode cX10_passBattery 23 = .ok (.aload_n 0, 1) := by decide +kernel
theorem dX10_passBattery_24 : decode cX10_passBattery 24 = .ok (.getfield 29, 3) := by decide +kernel
theorem dX10_passBattery_27 : decode cX10_passBattery 27 = .ok (.iconst 1, 1) := by decide +kernel
theorem dX10_passBattery_28 : decode cX10_passBattery 28 = .ok (.isub, 1) := by decide +kernel
theorem dX10_passBattery_29 : decode cX10_passBattery 29 = .ok (.iload_n 1, 1) := by decide +kernel
theorem dX10_passBattery_30 : decode cX10_passBattery 30 = .ok (.isub, 1) := by decide +kernel
theorem dX10_passBattery_31 : decode cX10_passBattery 31 = .ok (.invokestatic 464, 3) := by decide +kernel
theorem dX10_passBattery_34 : decode cX10_passBattery 34 = .ok (.putfield 29, 3) := by decide +kernel
theorem dX10_passBattery_37 : decode cX10_passBattery 37 = .ok (.aload_n 0, 1) := by decide +kernel
theorem dX10_passBattery_38 : decode cX10_passBattery 38 = .ok (.getfield 33, 3) := by decide +kernel
theorem dX10_passBattery_41 : decode cX10_passBattery 41 = .ok (.ifCond .ne 25, 3) := by decide +kernel
theorem dX10_passBattery_44 : decode cX10_passBattery 44 = .ok (.aload_n 0, 1) := by decide +kernel
theorem dX10_passBattery_45 : decode cX10_passBattery 45 = .ok (.getfield 29, 3) := by decide +kernel
theorem dX10_passBattery_48 : decode cX10_passBattery 48 = .ok (.sipush 3600, 3) := by decide +kernel
theorem dX10_passBattery_51 : decode cX10_passBattery 51 = .ok (.if_icmp .ge 15, 3) := by decide +kernel
theorem dX10_passBattery_54 : decode cX10_passBattery 54 = .ok (.aload_n 0, 1) := by decide +kernel
theorem dX10_passBattery_55 : decode cX10_passBattery 55 = .ok (.aload_n 0, 1) := by decide +kernel
theorem dX10_passBattery_56 : decode cX10_passBattery 56 = .ok (.getfield 17, 3) := by decide +kernel
theorem dX10_passBattery_59 : decode cX10_passBattery 59 = .ok (.iconst 0, 1) := by decide +kernel
theorem dX10_passBattery_60 : decode cX10_passBattery 60 = .ok (.aaload, 1) := by decide +kernel
theorem dX10_passBattery_61 : decode cX10_passBattery 61 = .ok (.bipush 6, 2) := by decide +kernel
theorem dX10_passBattery_63 : decode cX10_passBattery 63 = .ok (.invokevirtual 144, 3) := by decide +kernel
theorem dX10_passBattery_66 : decode cX10_passBattery 66 = .ok (.iconst 0, 1) := by decide +kernel
theorem dX10_passBattery_67 : decode cX10_passBattery 67 = .ok (.istore_n 2, 1) := by decide +kernel
theorem dX10_passBattery_68 : decode cX10_passBattery 68 = .ok (.iload_n 2, 1) := by decide +kernel
theorem dX10_passBattery_69 : decode cX10_passBattery 69 = .ok (.iconst 3, 1) := by decide +kernel
theorem dX10_passBattery_70 : decode cX10_passBattery 70 = .ok (.if_icmp .ge 41, 3) := by decide +kernel
theorem dX10_passBattery_73 : decode cX10_passBattery 73 = .ok (.aload_n 0, 1) := by decide +kernel
theorem dX10_passBattery_74 : decode cX10_passBattery 74 = .ok (.getfield 29, 3) := by decide +kernel
theorem dX10_passBattery_77 : decode cX10_passBattery 77 = .ok (.ifCond .ne 28, 3) := by decide +kernel
theorem dX10_passBattery_80 : decode cX10_passBattery 80 = .ok (.aload_n 0, 1) := by decide +kernel
theorem dX10_passBattery_81 : decode cX10_passBattery 81 = .ok (.getfield 17, 3) := by decide +kernel
theorem dX10_passBattery_84 : decode cX10_passBattery 84 = .ok (.iload_n 2, 1) := by decide +kernel
theorem dX10_passBattery_85 : decode cX10_passBattery 85 = .ok (.aaload, 1) := by decide +kernel
theorem dX10_passBattery_86 : decode cX10_passBattery 86 = .ok (.getfield 141, 3) := by decide +kernel
theorem dX10_passBattery_89 : decode cX10_passBattery 89 = .ok (.bipush 7, 2) := by decide +kernel
theorem dX10_passBattery_91 : decode cX10_passBattery 91 = .ok (.if_icmp .ne 14, 3) := by decide +kernel
theorem dX10_passBattery_94 : decode cX10_passBattery 94 = .ok (.aload_n 0, 1) := by decide +kernel
theorem dX10_passBattery_95 : decode cX10_passBattery 95 = .ok (.aload_n 0, 1) := by decide +kernel
theorem dX10_passBattery_96 : decode cX10_passBattery 96 = .ok (.getfield 17, 3) := by decide +kernel
theorem dX10_passBattery_99 : decode cX10_passBattery 99 = .ok (.iload_n 2, 1) := by decide +kernel
theorem dX10_passBattery_100 : decode cX10_passBattery 100 = .ok (.aaload, 1) := by decide +kernel
theorem dX10_passBattery_101 : decode cX10_passBattery 101 = .ok (.iconst 3, 1) := by decide +kernel
theorem dX10_passBattery_102 : decode cX10_passBattery 102 = .ok (.invokevirtual 144, 3) := by decide +kernel
theorem dX10_passBattery_105 : decode cX10_passBattery 105 = .ok (.iinc 2 1, 3) := by decide +kernel
theorem dX10_passBattery_108 : decode cX10_passBattery 108 = .ok (.goto (-40), 3) := by decide +kernel
theorem dX10_passBattery_111 : decode cX10_passBattery 111 = .ok (.return_, 1) := by decide +kernel
set_option maxRecDepth 20000 in
theorem ggX10_passRelay_X1_canRun : GoodIn wsX10_passRelay wsX1_canRun := goodIn_r _ [7, 8, 9, 10, 11, 12, 13, 6, 14, 15, 40, 41, 42, 43, 44, 45, 46, 47, 48, 49, 50, 51, 52, 53, 54, 55, 56, 57] (by decide +kernel) (by decide +kernel)
set_option maxRecDepth 20000 in
theorem gX10_passRelay_X1_canRun : GoodIn wsX10_passRelay (wsV RX10 374 RX1 yX1_canRun wsX1_canRun) := goodIn_app (goodIn_of _ (by decide +kernel)) ggX10_passRelay_X1_canRun
set_option maxRecDepth 20000 in
theorem ggX10_passRelay_X10_startRunning : GoodIn wsX10_passRelay wsX10_startRunning := goodIn_r _ [20, 21, 1, 22, 23, 24, 25, 26, 19, 27, 28, 29, 30, 31, 32, 33, 34, 35, 36, 37, 38, 39, 40, 41, 42, 43, 44, 45, 46, 47, 48, 49, 50, 58, 59, 60, 61, 62, 63, 64, 65, 66, 67, 68, 69, 70, 71, 72, 73] (by decide +kernel) (by decide +kernel)
set_option maxRecDepth 20000 in
theorem gX10_passRelay_X10_startRunning : GoodIn wsX10_passRelay (wsV RX10 377 RX10 yX10_startRunning wsX10_startRunning) := goodIn_app (goodIn_of _ (by decide +kernel)) ggX10_passRelay_X10_startRunning
theorem dX10_passRelay_0 : decode cX10_passRelay 0 = .ok (.aload_n 1, 1) := by decide +kernel
theorem dX10_passRelay_1 : decode cX10_passRelay 1 = .ok (.getfield 210, 3) := by decide +kernel
theorem dX10_passRelay_4 : decode cX10_passRelay 4 = .ok (.ifCond .eq 10, 3) := by decide +kernel
theorem dX10_passRelay_7 : decode cX10_passRelay 7 = .ok (.aload_n 2, 1) := by decide +kernel
theorem dX10_passRelay_8 : decode cX10_passRelay 8 = .ok (.getfield 443, 3) := by decide +kernel
theorem dX10_passRelay_11 : decode cX10_passRelay 11 = .ok (.ifCond .ne 4, 3) := by decide +kernel
theorem dX10_passRelay_14 : decode cX10_passRelay 14 = .ok (.return_, 1) := by decide +kernel
theorem dX10_passRelay_15 : decode cX10_passRelay 15 = .ok (.aload_n 1, 1) := by decide +kernel
theorem dX10_passRelay_16 : decode cX10_passRelay 16 = .ok (.iconst 0, 1) := by decide +kernel
theorem dX10_passRelay_17 : decode cX10_passRelay 17 = .ok (.putfield 210, 3) := by decide +kernel
theorem dX10_passRelay_20 : decode cX10_passRelay 20 = .ok (.aload_n 1, 1) := by decide +kernel
theorem dX10_passRelay_21 : decode cX10_passRelay 21 = .ok (.invokevirtual 374, 3) := by decide +kernel
theorem dX10_passRelay_24 : decode cX10_passRelay 24 = .ok (.ifCond .eq 8, 3) := by decide +kernel
theorem dX10_passRelay_27 : decode cX10_passRelay 27 = .ok (.aload_n 0, 1) := by decide +kernel
theorem dX10_passRelay_28 : decode cX10_passRelay 28 = .ok (.aload_n 1, 1) := by decide +kernel
theorem dX10_passRelay_29 : decode cX10_passRelay 29 = .ok (.invokevirtual 377, 3) := by decide +kernel
theorem dX10_passRelay_32 : decode cX10_passRelay 32 = .ok (.return_, 1) := by decide +kernel
theorem dX11_init_0 : decode cX11_init 0 = .ok (.aload_n 0, 1) := by decide +kernel
theorem dX11_init_1 : decode cX11_init 1 = .ok (.invokespecial 1, 3) := by decide +kernel
theorem dX11_init_4 : decode cX11_init 4 = .ok (.aload_n 0, 1) := by decide +kernel
theorem dX11_init_5 : decode cX11_init 5 = .ok (.bipush 16, 2) := by decide +kernel
theorem dX11_init_7 : decode cX11_init 7 = .ok (.newarray .boolean, 2) := by decide +kernel
theorem dX11_init_9 : decode cX11_init 9 = .ok (.putfield 7, 3) := by decide +kernel
theorem dX11_init_12 : decode cX11_init 12 = .ok (.aload_n 0, 1) := by decide +kernel
theorem dX11_init_13 : decode cX11_init 13 = .ok (.bipush 16, 2) := by decide +kernel
theorem dX11_init_15 : decode cX11_init 15 = .ok (.newarray .int, 2) := by decide +kernel
theorem dX11_init_17 : decode cX11_init 17 = .ok (.putfield 13, 3) := by decide +kernel
theorem dX11_init_20 : decode cX11_init 20 = .ok (.aload_n 0, 1) := by decide +kernel
theorem dX11_init_21 : decode cX11_init 21 = .ok (.bipush 16, 2) := by decide +kernel
theorem dX11_init_23 : decode cX11_init 23 = .ok (.newarray .int, 2) := by decide +kernel
theorem dX11_init_25 : decode cX11_init 25 = .ok (.putfield 17, 3) := by decide +kernel
theorem dX11_init_28 : decode cX11_init 28 = .ok (.aload_n 0, 1) := by decide +kernel
theorem dX11_init_29 : decode cX11_init 29 = .ok (.bipush 16, 2) := by decide +kernel
theorem dX11_init_31 : decode cX11_init 31 = .ok (.newarray .int, 2) := by decide +kernel
theorem dX11_init_33 : decode cX11_init 33 = .ok (.putfield 20, 3) := by decide +kernel
theorem dX11_init_36 : decode cX11_init 36 = .ok (.aload_n 0, 1) := by decide +kernel
theorem dX11_init_37 : decode cX11_init 37 = .ok (.bipush 16, 2) := by decide +kernel
theorem dX11_init_39 : decode cX11_init 39 = .ok (.newarray .int, 2) := by decide +kernel
theorem dX11_init_41 : decode cX11_init 41 = .ok (.putfield 23, 3) := by decide +kernel
theorem dX11_init_44 : decode cX11_init 44 = .ok (.aload_n 0, 1) := by decide +kernel
theorem dX11_init_45 : decode cX11_init 45 = .ok (.bipush 16, 2) := by decide +kernel
theorem dX11_init_47 : decode cX11_init 47 = .ok (.newarray .int, 2) := by decide +kernel
theorem dX11_init_49 : decode cX11_init 49 = .ok (.putfield 26, 3) := by decide +kernel
theorem dX11_init_52 : decode cX11_init 52 = .ok (.aload_n 0, 1) := by decide +kernel
theorem dX11_init_53 : decode cX11_init 53 = .ok (.bipush 16, 2) := by decide +kernel
theorem dX11_init_55 : decode cX11_init 55 = .ok (.newarray .int, 2) := by decide +kernel
theorem dX11_init_57 : decode cX11_init 57 = .ok (.putfield 29, 3) := by decide +kernel
theorem dX11_init_60 : decode cX11_init 60 = .ok (.aload_n 0, 1) := by decide +kernel
theorem dX11_init_61 : decode cX11_init 61 = .ok (.bipush 16, 2) := by decide +kernel
theorem dX11_init_63 : decode cX11_init 63 = .ok (.newarray .int, 2) := by decide +kernel
theorem dX11_init_65 : decode cX11_init 65 = .ok (.putfield 32, 3) := by decide +kernel
theorem dX11_init_68 : decode cX11_init 68 = .ok (.aload_n 0, 1) := by decide +kernel
theorem dX11_init_69 : decode cX11_init 69 = .ok (.bipush 16, 2) := by decide +kernel
theorem dX11_init_71 : decode cX11_init 71 = .ok (.newarray .int, 2) := by decide +kernel
theorem dX11_init_73 : decode cX11_init 73 = .ok (.putfield 35, 3) := by decide +kernel
theorem dX11_init_76 : decode cX11_init 76 = .ok (.aload_n 0, 1) := by decide +kernel
theorem dX11_init_77 : decode cX11_init 77 = .ok (.bipush 16, 2) := by decide +kernel
theorem dX11_init_79 : decode cX11_init 79 = .ok (.newarray .int, 2) := by decide +kernel
theorem dX11_init_81 : decode cX11_init 81 = .ok (.putfield 38, 3) := by decide +kernel
theorem dX11_init_84 : decode cX11_init 84 = .ok (.aload_n 0, 1) := by decide +kernel
theorem dX11_init_85 : decode cX11_init 85 = .ok (.bipush 16, 2) := by decide +kernel
theorem dX11_init_87 : decode cX11_init 87 = .ok (.newarray .int, 2) := by decide +kernel
theorem dX11_init_89 : decode cX11_init 89 = .ok (.putfield 41, 3) := by decide +kernel
theorem dX11_init_92 : decode cX11_init 92 = .ok (.aload_n 0, 1) := by decide +kernel
theorem dX11_init_93 : decode cX11_init 93 = .ok (.bipush 16, 2) := by decide +kernel
theorem dX11_init_95 : decode cX11_init 95 = .ok (.newarray .int, 2) := by decide +kernel
theorem dX11_init_97 : decode cX11_init 97 = .ok (.putfield 44, 3) := by decide +kernel
theorem dX11_init_100 : decode cX11_init 100 = .ok (.aload_n 0, 1) := by decide +kernel
theorem dX11_init_101 : decode cX11_init 101 = .ok (.iconst 3, 1) := by decide +kernel
theorem dX11_init_102 : decode cX11_init 102 = .ok (.newarray .int, 2) := by decide +kernel
theorem dX11_init_104 : decode cX11_init 104 = .ok (.putfield 47, 3) := by decide +kernel
theorem dX11_init_107 : decode cX11_init 107 = .ok (.aload_n 0, 1) := by decide +kernel
theorem dX11_init_108 : decode cX11_init 108 = .ok (.iconst 3, 1) := by decide +kernel
theorem dX11_init_109 : decode cX11_init 109 = .ok (.newarray .int, 2) := by decide +kernel
theorem dX11_init_111 : decode cX11_init 111 = .ok (.putfield 50, 3) := by decide +kernel
theorem dX11_init_114 : decode cX11_init 114 = .ok (.aload_n 0, 1) := by decide +kernel
theorem dX11_init_115 : decode cX11_init 115 = .ok (.iconst 3, 1) := by decide +kernel
theorem dX11_init_116 : decode cX11_init 116 = .ok (.newarray .int, 2) := by decide +kernel
theorem dX11_init_118 : decode cX11_init 118 = .ok (.dup, 1) := by decide +kernel
theorem dX11_init_119 : decode cX11_init 119 = .ok (.iconst 0, 1) := by decide +kernel
theorem dX11_init_120 : decode cX11_init 120 = .ok (.iconst (-1), 1) := by decide +kernel
theorem dX11_init_121 : decode cX11_init 121 = .ok (.iastore, 1) := by decide +kernel
theorem dX11_init_122 : decode cX11_init 122 = .ok (.dup, 1) := by decide +kernel
theorem dX11_init_123 : decode cX11_init 123 = .ok (.iconst 1, 1) := by decide +kernel
theorem dX11_init_124 : decode cX11_init 124 = .ok (.iconst (-1), 1) := by decide +kernel
theorem dX11_init_125 : decode cX11_init 125 = .ok (.iastore, 1) := by decide +kernel
theorem dX11_init_126 : decode cX11_init 126 = .ok (.dup, 1) := by decide +kernel
theorem dX11_init_127 : decode cX11_init 127 = .ok (.iconst 2, 1) := by decide +kernel
theorem dX11_init_128 : decode cX11_init 128 = .ok (.iconst (-1), 1) := by decide +kernel
theorem dX11_init_129 : decode cX11_init 129 = .ok (.iastore, 1) := by decide +kernel
theorem dX11_init_130 : decode cX11_init 130 = .ok (.putfield 53, 3) := by decide +kernel
theorem dX11_init_133 : decode cX11_init 133 = .ok (.aload_n 0, 1) := by decide +kernel
theorem dX11_init_134 : decode cX11_init 134 = .ok (.iconst 3, 1) := by decide +kernel
theorem dX11_init_135 : decode cX11_init 135 = .ok (.newarray .int, 2) := by decide +kernel
theorem dX11_init_137 : decode cX11_init 137 = .ok (.putfield 56, 3) := by decide +kernel
theorem dX11_init_140 : decode cX11_init 140 = .ok (.aload_n 0, 1) := by decide +kernel
theorem dX11_init_141 : decode cX11_init 141 = .ok (.iconst 3, 1) := by decide +kernel
theorem dX11_init_142 : decode cX11_init 142 = .ok (.newarray .int, 2) := by decide +kernel
theorem dX11_init_144 : decode cX11_init 144 = .ok (.dup, 1) := by decide +kernel
theorem dX11_init_145 : decode cX11_init 145 = .ok (.iconst 0, 1) := by decide +kernel
theorem dX11_init_146 : decode cX11_init 146 = .ok (.iconst (-1), 1) := by decide +kernel
theorem dX11_init_147 : decode cX11_init 147 = .ok (.iastore, 1) := by decide +kernel
theorem dX11_init_148 : decode cX11_init 148 = .ok (.dup, 1) := by decide +kernel
theorem dX11_init_149 : decode cX11_init 149 = .ok (.iconst 1, 1) := by decide +kernel
theorem dX11_init_150 : decode cX11_init 150 = .ok (.iconst (-1), 1) := by decide +kernel
theorem dX11_init_151 : decode cX11_init 151 = .ok (.iastore, 1) := by decide +kernel
theorem dX11_init_152 : decode cX11_init 152 = .ok (.dup, 1) := by decide +kernel
theorem dX11_init_153 : decode cX11_init 153 = .ok (.iconst 2, 1) := by decide +kernel
theorem dX11_init_154 : decode cX11_init 154 = .ok (.iconst (-1), 1) := by decide +kernel
theorem dX11_init_155 : decode cX11_init 155 = .ok (.iastore, 1) := by decide +kernel
theorem dX11_init_156 : decode cX11_init 156 = .ok (.putfield 59, 3) := by decide +kernel
theorem dX11_init_159 : decode cX11_init 159 = .ok (.aload_n 0, 1) := by decide +kernel
theorem dX11_init_160 : decode cX11_init 160 = .ok (.iconst 3, 1) := by decide +kernel
theorem dX11_init_161 : decode cX11_init 161 = .ok (.newarray .int, 2) := by decide +kernel
theorem dX11_init_163 : decode cX11_init 163 = .ok (.putfield 62, 3) := by decide +kernel
theorem dX11_init_166 : decode cX11_init 166 = .ok (.aload_n 0, 1) := by decide +kernel
theorem dX11_init_167 : decode cX11_init 167 = .ok (.iconst 3, 1) := by decide +kernel
theorem dX11_init_168 : decode cX11_init 168 = .ok (.newarray .int, 2) := by decide +kernel
theorem dX11_init_170 : decode cX11_init 170 = .ok (.putfield 65, 3) := by decide +kernel
theorem dX11_init_173 : decode cX11_init 173 = .ok (.aload_n 0, 1) := by decide +kernel
theorem dX11_init_174 : decode cX11_init 174 = .ok (.iconst 3, 1) := by decide +kernel
theorem dX11_init_175 : decode cX11_init 175 = .ok (.newarray .int, 2) := by decide +kernel
theorem dX11_init_177 : decode cX11_init 177 = .ok (.putfield 68, 3) := by decide +kernel
theorem dX11_init_180 : decode cX11_init 180 = .ok (.aload_n 0, 1) := by decide +kernel
theorem dX11_init_181 : decode cX11_init 181 = .ok (.iconst 3, 1) := by decide +kernel
theorem dX11_init_182 : decode cX11_init 182 = .ok (.newarray .int, 2) := by decide +kernel
theorem dX11_init_184 : decode cX11_init 184 = .ok (.dup, 1) := by decide +kernel
theorem dX11_init_185 : decode cX11_init 185 = .ok (.iconst 0, 1) := by decide +kernel
theorem dX11_init_186 : decode cX11_init 186 = .ok (.iconst (-1), 1) := by decide +kernel
theorem dX11_init_187 : decode cX11_init 187 = .ok (.iastore, 1) := by decide +kernel
theorem dX11_init_188 : decode cX11_init 188 = .ok (.dup, 1) := by decide +kernel
theorem dX11_init_189 : decode cX11_init 189 = .ok (.iconst 1, 1) := by decide +kernel
theorem dX11_init_190 : decode cX11_init 190 = .ok (.iconst (-1), 1) := by decide +kernel
theorem dX11_init_191 : decode cX11_init 191 = .ok (.iastore, 1) := by decide +kernel
theorem dX11_init_192 : decode cX11_init 192 = .ok (.dup, 1) := by decide +kernel
theorem dX11_init_193 : decode cX11_init 193 = .ok (.iconst 2, 1) := by decide +kernel
theorem dX11_init_194 : decode cX11_init 194 = .ok (.iconst (-1), 1) := by decide +kernel
theorem dX11_init_195 : decode cX11_init 195 = .ok (.iastore, 1) := by decide +kernel
theorem dX11_init_196 : decode cX11_init 196 = .ok (.putfield 71, 3) := by decide +kernel
theorem dX11_init_199 : decode cX11_init 199 = .ok (.aload_n 0, 1) := by decide +kernel
theorem dX11_init_200 : decode cX11_init 200 = .ok (.iconst 3, 1) := by decide +kernel
theorem dX11_init_201 : decode cX11_init 201 = .ok (.newarray .int, 2) := by decide +kernel
theorem dX11_init_203 : decode cX11_init 203 = .ok (.dup, 1) := by decide +kernel
theorem dX11_init_204 : decode cX11_init 204 = .ok (.iconst 0, 1) := by decide +kernel
theorem dX11_init_205 : decode cX11_init 205 = .ok (.sipush 200, 3) := by decide +kernel
theorem dX11_init_208 : decode cX11_init 208 = .ok (.iastore, 1) := by decide +kernel
theorem dX11_init_209 : decode cX11_init 209 = .ok (.dup, 1) := by decide +kernel
theorem dX11_init_210 : decode cX11_init 210 = .ok (.iconst 1, 1) := by decide +kernel
theorem dX11_init_211 : decode cX11_init 211 = .ok (.sipush 200, 3) := by decide +kernel
theorem dX11_init_214 : decode cX11_init 214 = .ok (.iastore, 1) := by decide +kernel
theorem dX11_init_215 : decode cX11_init 215 = .ok (.dup, 1) := by decide +kernel
theorem dX11_init_216 : decode cX11_init 216 = .ok (.iconst 2, 1) := by decide +kernel
theorem dX11_init_217 : decode cX11_init 217 = .ok (.sipush 200, 3) := by decide +kernel
theorem dX11_init_220 : decode cX11_init 220 = .ok (.iastore, 1) := by decide +kernel
theorem dX11_init_221 : decode cX11_init 221 = .ok (.putfield 74, 3) := by decide +kernel
theorem dX11_init_224 : decode cX11_init 224 = .ok (.aload_n 0, 1) := by decide +kernel
theorem dX11_init_225 : decode cX11_init 225 = .ok (.iconst 3, 1) := by decide +kernel
theorem dX11_init_226 : decode cX11_init 226 = .ok (.newarray .boolean, 2) := by decide +kernel
theorem dX11_init_228 : decode cX11_init 228 = .ok (.putfield 77, 3) := by decide +kernel
theorem dX11_init_231 : decode cX11_init 231 = .ok (.aload_n 0, 1) := by decide +kernel
theorem dX11_init_232 : decode cX11_init 232 = .ok (.iconst 3, 1) := by decide +kernel
theorem dX11_init_233 : decode cX11_init 233 = .ok (.newarray .boolean, 2) := by decide +kernel
theorem dX11_init_235 : decode cX11_init 235 = .ok (.putfield 80, 3) := by decide +kernel
theorem dX11_init_238 : decode cX11_init 238 = .ok (.aload_n 0, 1) := by decide +kernel
theorem dX11_init_239 : decode cX11_init 239 = .ok (.iconst 3, 1) := by decide +kernel
theorem dX11_init_240 : decode cX11_init 240 = .ok (.newarray .int, 2) := by decide +kernel
theorem dX11_init_242 : decode cX11_init 242 = .ok (.putfield 83, 3) := by decide +kernel
theorem dX11_init_245 : decode cX11_init 245 = .ok (.aload_n 0, 1) := by decide +kernel
theorem dX11_init_246 : decode cX11_init 246 = .ok (.iconst 3, 1) := by decide +kernel
theorem dX11_init_247 : decode cX11_init 247 = .ok (.newarray .int, 2) := by decide +kernel
theorem dX11_init_249 : decode cX11_init 249 = .ok (.putfield 86, 3) := by decide +kernel
theorem dX11_init_252 : decode cX11_init 252 = .ok (.aload_n 0, 1) := by decide +kernel
theorem dX11_init_253 : decode cX11_init 253 = .ok (.iconst 3, 1) := by decide +kernel
theorem dX11_init_254 : decode cX11_init 254 = .ok (.newarray .int, 2) := by decide +kernel
theorem dX11_init_256 : decode cX11_init 256 = .ok (.putfield 89, 3) := by decide +kernel
theorem dX11_init_259 : decode cX11_init 259 = .ok (.aload_n 0, 1) := by decide +kernel
theorem dX11_init_260 : decode cX11_init 260 = .ok (.iconst 3, 1) := by decide +kernel
theorem dX11_init_261 : decode cX11_init 261 = .ok (.newarray .int, 2) := by decide +kernel
theorem dX11_init_263 : decode cX11_init 263 = .ok (.putfield 92, 3) := by decide +kernel
theorem dX11_init_266 : decode cX11_init 266 = .ok (.aload_n 0, 1) := by decide +kernel
theorem dX11_init_267 : decode cX11_init 267 = .ok (.iconst 3, 1) := by decide +kernel
theorem dX11_init_268 : decode cX11_init 268 = .ok (.newarray .boolean, 2) := by decide +kernel
theorem dX11_init_270 : decode cX11_init 270 = .ok (.putfield 95, 3) := by decide +kernel
theorem dX11_init_273 : decode cX11_init 273 = .ok (.aload_n 0, 1) := by decide +kernel
theorem dX11_init_274 : decode cX11_init 274 = .ok (.iconst 3, 1) := by decide +kernel
theorem dX11_init_275 : decode cX11_init 275 = .ok (.newarray .boolean, 2) := by decide +kernel
theorem dX11_init_277 : decode cX11_init 277 = .ok (.putfield 98, 3) := by decide +kernel
theorem dX11_init_280 : decode cX11_init 280 = .ok (.aload_n 0, 1) := by decide +kernel
theorem dX11_init_281 : decode cX11_init 281 = .ok (.iconst 3, 1) := by decide +kernel
theorem dX11_init_282 : decode cX11_init 282 = .ok (.newarray .int, 2) := by decide +kernel
theorem dX11_init_284 : decode cX11_init 284 = .ok (.putfield 101, 3) := by decide +kernel
theorem dX11_init_287 : decode cX11_init 287 = .ok (.aload_n 0, 1) := by decide +kernel
theorem dX11_init_288 : decode cX11_init 288 = .ok (.sipush 10800, 3) := by decide +kernel
theorem dX11_init_291 : decode cX11_init 291 = .ok (.newarray .int, 2) := by decide +kernel
theorem dX11_init_293 : decode cX11_init 293 = .ok (.putfield 104, 3) := by decide +kernel
theorem dX11_init_296 : decode cX11_init 296 = .ok (.aload_n 0, 1) := by decide +kernel
theorem dX11_init_297 : decode cX11_init 297 = .ok (.sipush 10800, 3) := by decide +kernel
theorem dX11_init_300 : decode cX11_init 300 = .ok (.newarray .int, 2) := by decide +kernel
theorem dX11_init_302 : decode cX11_init 302 = .ok (.putfield 107, 3) := by decide +kernel
theorem dX11_init_305 : decode cX11_init 305 = .ok (.aload_n 0, 1) := by decide +kernel
theorem dX11_init_306 : decode cX11_init 306 = .ok (.sipush 2700, 3) := by decide +kernel
theorem dX11_init_309 : decode cX11_init 309 = .ok (.newarray .int, 2) := by decide +kernel
theorem dX11_init_311 : decode cX11_init 311 = .ok (.putfield 110, 3) := by decide +kernel
theorem dX11_init_314 : decode cX11_init 314 = .ok (.aload_n 0, 1) := by decide +kernel
theorem dX11_init_315 : decode cX11_init 315 = .ok (.iconst 3, 1) := by decide +kernel
theorem dX11_init_316 : decode cX11_init 316 = .ok (.newarray .int, 2) := by decide +kernel
theorem dX11_init_318 : decode cX11_init 318 = .ok (.putfield 113, 3) := by decide +kernel
theorem dX11_init_321 : decode cX11_init 321 = .ok (.aload_n 0, 1) := by decide +kernel
theorem dX11_init_322 : decode cX11_init 322 = .ok (.iconst 3, 1) := by decide +kernel
theorem dX11_init_323 : decode cX11_init 323 = .ok (.newarray .int, 2) := by decide +kernel
theorem dX11_init_325 : decode cX11_init 325 = .ok (.putfield 116, 3) := by decide +kernel
theorem dX11_init_328 : decode cX11_init 328 = .ok (.aload_n 0, 1) := by decide +kernel
theorem dX11_init_329 : decode cX11_init 329 = .ok (.iconst 3, 1) := by decide +kernel
theorem dX11_init_330 : decode cX11_init 330 = .ok (.newarray .int, 2) := by decide +kernel
theorem dX11_init_332 : decode cX11_init 332 = .ok (.putfield 119, 3) := by decide +kernel
theorem dX11_init_335 : decode cX11_init 335 = .ok (.aload_n 0, 1) := by decide +kernel
theorem dX11_init_336 : decode cX11_init 336 = .ok (.iconst 3, 1) := by decide +kernel
theorem dX11_init_337 : decode cX11_init 337 = .ok (.newarray .int, 2) := by decide +kernel
theorem dX11_init_339 : decode cX11_init 339 = .ok (.putfield 122, 3) := by decide +kernel
theorem dX11_init_342 : decode cX11_init 342 = .ok (.aload_n 0, 1) := by decide +kernel
theorem dX11_init_343 : decode cX11_init 343 = .ok (.iconst 3, 1) := by decide +kernel
theorem dX11_init_344 : decode cX11_init 344 = .ok (.newarray .int, 2) := by decide +kernel
theorem dX11_init_346 : decode cX11_init 346 = .ok (.putfield 125, 3) := by decide +kernel
theorem dX11_init_349 : decode cX11_init 349 = .ok (.aload_n 0, 1) := by decide +kernel
theorem dX11_init_350 : decode cX11_init 350 = .ok (.iconst 3, 1) := by decide +kernel
theorem dX11_init_351 : decode cX11_init 351 = .ok (.newarray .int, 2) := by decide +kernel
theorem dX11_init_353 : decode cX11_init 353 = .ok (.putfield 128, 3) := by decide +kernel
theorem dX11_init_356 : decode cX11_init 356 = .ok (.aload_n 0, 1) := by decide +kernel
theorem dX11_init_357 : decode cX11_init 357 = .ok (.iconst 3, 1) := by decide +kernel
theorem dX11_init_358 : decode cX11_init 358 = .ok (.newarray .int, 2) := by decide +kernel
theorem dX11_init_360 : decode cX11_init 360 = .ok (.putfield 131, 3) := by decide +kernel
theorem dX11_init_363 : decode cX11_init 363 = .ok (.aload_n 0, 1) := by decide +kernel
theorem dX11_init_364 : decode cX11_init 364 = .ok (.iconst 3, 1) := by decide +kernel
theorem dX11_init_365 : decode cX11_init 365 = .ok (.newarray .int, 2) := by decide +kernel
theorem dX11_init_367 : decode cX11_init 367 = .ok (.putfield 134, 3) := by decide +kernel
theorem dX11_init_370 : decode cX11_init 370 = .ok (.aload_n 0, 1) := by decide +kernel
theorem dX11_init_371 : decode cX11_init 371 = .ok (.iconst 3, 1) := by decide +kernel
theorem dX11_init_372 : decode cX11_init 372 = .ok (.newarray .int, 2) := by decide +kernel
theorem dX11_init_374 : decode cX11_init 374 = .ok (.dup, 1) := by decide +kernel
theorem dX11_init_375 : decode cX11_init 375 = .ok (.iconst 0, 1) := by decide +kernel
theorem dX11_init_376 : decode cX11_init 376 = .ok (.iconst (-1), 1) := by decide +kernel
theorem dX11_init_377 : decode cX11_init 377 = .ok (.iastore, 1) := by decide +kernel
theorem dX11_init_378 : decode cX11_init 378 = .ok (.dup, 1) := by decide +kernel
theorem dX11_init_379 : decode cX11_init 379 = .ok (.iconst 1, 1) := by decide +kernel
theorem dX11_init_380 : decode cX11_init 380 = .ok (.iconst (-1), 1) := by decide +kernel
theorem dX11_init_381 : decode cX11_init 381 = .ok (.iastore, 1) := by decide +kernel
theorem dX11_init_382 : decode cX11_init 382 = .ok (.dup, 1) := by decide +kernel
theorem dX11_init_383 : decode cX11_init 383 = .ok (.iconst 2, 1) := by decide +kernel
theorem dX11_init_384 : decode cX11_init 384 = .ok (.iconst (-1), 1) := by decide +kernel
theorem dX11_init_385 : decode cX11_init 385 = .ok (.iastore, 1) := by decide +kernel
theorem dX11_init_386 : decode cX11_init 386 = .ok (.putfield 137, 3) := by decide +kernel
theorem dX11_init_389 : decode cX11_init 389 = .ok (.aload_n 0, 1) := by decide +kernel
theorem dX11_init_390 : decode cX11_init 390 = .ok (.iconst 3, 1) := by decide +kernel
theorem dX11_init_391 : decode cX11_init 391 = .ok (.newarray .int, 2) := by decide +kernel
theorem dX11_init_393 : decode cX11_init 393 = .ok (.putfield 140, 3) := by decide +kernel
theorem dX11_init_396 : decode cX11_init 396 = .ok (.aload_n 0, 1) := by decide +kernel
theorem dX11_init_397 : decode cX11_init 397 = .ok (.ldc 143, 2) := by decide +kernel
theorem dX11_init_399 : decode cX11_init 399 = .ok (.putfield 144, 3) := by decide +kernel
