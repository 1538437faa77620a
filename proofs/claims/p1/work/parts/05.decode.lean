set_option maxRecDepth 20000 in
theorem gX11_quarter_X11_needPerson : GoodIn wsX11_quarter (wsV RX11 212 RX11 yX11_needPerson wsX11_needPerson) := goodIn_app (goodIn_of _ (by decide +kernel)) ggX11_quarter_X11_needPerson
set_option maxRecDepth 20000 in
theorem ggX11_quarter_X11_needQuarter : GoodIn wsX11_quarter wsX11_needQuarter := goodIn_ca (goodIn_ca (goodIn_r _ [14, 15, 16, 1, 17, 18, 19, 20, 21, 22, 23, 24, 25, 26, 27, 28, 29, 35, 36, 37, 38, 39, 40, 41, 42, 43, 44, 45, 46, 47, 48, 58, 59, 60, 61, 62, 63, 64, 65, 66, 67, 49, 50, 51, 52, 53, 54, 55, 56, 57] (by decide +kernel) (by decide +kernel)) (goodIn_sub (fun _ h => List.mem_cons_of_mem _ (List.mem_append_left _ (List.mem_append_right _ h))) (by decide +kernel))) (goodIn_sub (fun _ h => List.mem_cons_of_mem _ (List.mem_append_right _ h)) (by decide +kernel))
set_option maxRecDepth 20000 in
theorem gX11_quarter_X11_needQuarter : GoodIn wsX11_quarter (wsV RX11 339 RX11 yX11_needQuarter wsX11_needQuarter) := goodIn_app (goodIn_of _ (by decide +kernel)) ggX11_quarter_X11_needQuarter
set_option maxRecDepth 20000 in
theorem ggX11_quarter_X6_armsAt : GoodIn wsX11_quarter wsX6_armsAt := goodIn_ca (goodIn_r _ [33, 22, 34, 24, 25, 26, 27, 28, 29, 58, 59, 60, 61, 62, 63, 64, 65, 66, 67, 49, 50, 51, 52, 53, 54, 55, 56, 57] (by decide +kernel) (by decide +kernel)) (goodIn_sub (fun _ h => List.mem_cons_of_mem _ (List.mem_append_right _ h)) (by decide +kernel))
set_option maxRecDepth 20000 in
theorem gX11_quarter_X6_armsAt : GoodIn wsX11_quarter (wsV RX11 342 RX6 yX6_armsAt wsX6_armsAt) := goodIn_app (goodIn_of _ (by decide +kernel)) ggX11_quarter_X6_armsAt
theorem dX11_quarter_0 : decode cX11_quarter 0 = .ok (.aload_n 0, 1) := by decide +kernel
theorem dX11_quarter_1 : decode cX11_quarter 1 = .ok (.iload_n 1, 1) := by decide +kernel
theorem dX11_quarter_2 : decode cX11_quarter 2 = .ok (.invokevirtual 212, 3) := by decide +kernel
theorem dX11_quarter_5 : decode cX11_quarter 5 = .ok (.aload_n 0, 1) := by decide +kernel
theorem dX11_quarter_6 : decode cX11_quarter 6 = .ok (.iload_n 1, 1) := by decide +kernel
theorem dX11_quarter_7 : decode cX11_quarter 7 = .ok (.iload_n 2, 1) := by decide +kernel
theorem dX11_quarter_8 : decode cX11_quarter 8 = .ok (.invokevirtual 339, 3) := by decide +kernel
theorem dX11_quarter_11 : decode cX11_quarter 11 = .ok (.aload_n 0, 1) := by decide +kernel
theorem dX11_quarter_12 : decode cX11_quarter 12 = .ok (.getfield 79, 3) := by decide +kernel
theorem dX11_quarter_15 : decode cX11_quarter 15 = .ok (.iload_n 1, 1) := by decide +kernel
theorem dX11_quarter_16 : decode cX11_quarter 16 = .ok (.iload_n 2, 1) := by decide +kernel
theorem dX11_quarter_17 : decode cX11_quarter 17 = .ok (.invokevirtual 342, 3) := by decide +kernel
theorem dX11_quarter_20 : decode cX11_quarter 20 = .ok (.ireturn, 1) := by decide +kernel
set_option maxRecDepth 20000 in
theorem ggX11_quarterBy_X11_needPerson : GoodIn wsX11_quarterBy wsX11_needPerson := goodIn_ca (goodIn_r _ [6, 7, 8, 9, 10, 35, 36, 37, 38, 39, 40, 41, 42, 43, 44, 45, 46, 47, 48, 49, 50, 51, 52, 53, 54, 55, 56, 57] (by decide +kernel) (by decide +kernel)) (goodIn_sub (fun _ h => List.mem_cons_of_mem _ (List.mem_append_left _ (List.mem_append_left _ (List.mem_append_right _ h)))) (by decide +kernel))
set_option maxRecDepth 20000 in
theorem gX11_quarterBy_X11_needPerson : GoodIn wsX11_quarterBy (wsV RX11 212 RX11 yX11_needPerson wsX11_needPerson) := goodIn_app (goodIn_of _ (by decide +kernel)) ggX11_quarterBy_X11_needPerson
set_option maxRecDepth 20000 in
theorem ggX11_quarterBy_X11_needQuarter : GoodIn wsX11_quarterBy wsX11_needQuarter := goodIn_ca (goodIn_ca (goodIn_r _ [14, 15, 16, 1, 17, 18, 19, 20, 21, 22, 23, 24, 25, 26, 27, 28, 29, 35, 36, 37, 38, 39, 40, 41, 42, 43, 44, 45, 46, 47, 48, 58, 59, 60, 61, 62, 63, 64, 65, 66, 67, 49, 50, 51, 52, 53, 54, 55, 56, 57] (by decide +kernel) (by decide +kernel)) (goodIn_sub (fun _ h => List.mem_cons_of_mem _ (List.mem_append_left _ (List.mem_append_right _ h))) (by decide +kernel))) (goodIn_sub (fun _ h => List.mem_cons_of_mem _ (List.mem_append_right _ h)) (by decide +kernel))
set_option maxRecDepth 20000 in
theorem gX11_quarterBy_X11_needQuarter : GoodIn wsX11_quarterBy (wsV RX11 339 RX11 yX11_needQuarter wsX11_needQuarter) := goodIn_app (goodIn_of _ (by decide +kernel)) ggX11_quarterBy_X11_needQuarter
set_option maxRecDepth 20000 in
theorem ggX11_quarterBy_X6_bearerAt : GoodIn wsX11_quarterBy wsX6_bearerAt := goodIn_ca (goodIn_r _ [33, 22, 34, 24, 25, 26, 27, 28, 29, 58, 59, 60, 61, 62, 63, 64, 65, 66, 67, 49, 50, 51, 52, 53, 54, 55, 56, 57] (by decide +kernel) (by decide +kernel)) (goodIn_sub (fun _ h => List.mem_cons_of_mem _ (List.mem_append_right _ h)) (by decide +kernel))
set_option maxRecDepth 20000 in
theorem gX11_quarterBy_X6_bearerAt : GoodIn wsX11_quarterBy (wsV RX11 345 RX6 yX6_bearerAt wsX6_bearerAt) := goodIn_app (goodIn_of _ (by decide +kernel)) ggX11_quarterBy_X6_bearerAt
theorem dX11_quarterBy_0 : decode cX11_quarterBy 0 = .ok (.aload_n 0, 1) := by decide +kernel
theorem dX11_quarterBy_1 : decode cX11_quarterBy 1 = .ok (.iload_n 1, 1) := by decide +kernel
theorem dX11_quarterBy_2 : decode cX11_quarterBy 2 = .ok (.invokevirtual 212, 3) := by decide +kernel
theorem dX11_quarterBy_5 : decode cX11_quarterBy 5 = .ok (.aload_n 0, 1) := by decide +kernel
theorem dX11_quarterBy_6 : decode cX11_quarterBy 6 = .ok (.iload_n 1, 1) := by decide +kernel
theorem dX11_quarterBy_7 : decode cX11_quarterBy 7 = .ok (.iload_n 2, 1) := by decide +kernel
theorem dX11_quarterBy_8 : decode cX11_quarterBy 8 = .ok (.invokevirtual 339, 3) := by decide +kernel
theorem dX11_quarterBy_11 : decode cX11_quarterBy 11 = .ok (.aload_n 0, 1) := by decide +kernel
theorem dX11_quarterBy_12 : decode cX11_quarterBy 12 = .ok (.getfield 79, 3) := by decide +kernel
theorem dX11_quarterBy_15 : decode cX11_quarterBy 15 = .ok (.iload_n 1, 1) := by decide +kernel
theorem dX11_quarterBy_16 : decode cX11_quarterBy 16 = .ok (.iload_n 2, 1) := by decide +kernel
theorem dX11_quarterBy_17 : decode cX11_quarterBy 17 = .ok (.invokevirtual 345, 3) := by decide +kernel
theorem dX11_quarterBy_20 : decode cX11_quarterBy 20 = .ok (.ireturn, 1) := by decide +kernel
set_option maxRecDepth 20000 in
theorem ggX11_distance_X11_needArms : GoodIn wsX11_distance wsX11_needArms := goodIn_ca (goodIn_r _ [6, 7, 8, 1, 9, 40, 41, 42, 43, 44, 45, 46, 47, 48, 49, 50, 51, 52, 53, 54, 55, 56, 57, 58, 59, 60, 61, 62, 63, 64, 65] (by decide +kernel) (by decide +kernel)) (goodIn_sub (fun _ h => List.mem_cons_of_mem _ (List.mem_append_left _ (List.mem_append_right _ h))) (by decide +kernel))
set_option maxRecDepth 20000 in
theorem gX11_distance_X11_needArms : GoodIn wsX11_distance (wsV RX11 290 RX11 yX11_needArms wsX11_needArms) := goodIn_app (goodIn_of _ (by decide +kernel)) ggX11_distance_X11_needArms
set_option maxRecDepth 20000 in
theorem ggX11_distance_X9_unlikePoints : GoodIn wsX11_distance wsX9_unlikePoints := goodIn_ca (goodIn_r _ [14, 15, 16, 17, 18, 13, 19, 20, 21, 22, 23, 24, 25, 26, 27, 28, 29, 30, 31, 32, 33, 34, 35, 36, 37, 38, 39, 54, 55, 56, 57, 58, 59, 60, 61, 62, 63, 64, 65] (by decide +kernel) (by decide +kernel)) (goodIn_sub (fun _ h => List.mem_cons_of_mem _ (List.mem_append_right _ h)) (by decide +kernel))
set_option maxRecDepth 20000 in
theorem gX11_distance_X9_unlikePoints : GoodIn wsX11_distance (wsV RX11 348 RX9 yX9_unlikePoints wsX9_unlikePoints) := goodIn_app (goodIn_of _ (by decide +kernel)) ggX11_distance_X9_unlikePoints
theorem dX11_distance_0 : decode cX11_distance 0 = .ok (.aload_n 0, 1) := by decide +kernel
theorem dX11_distance_1 : decode cX11_distance 1 = .ok (.iload_n 1, 1) := by decide +kernel
theorem dX11_distance_2 : decode cX11_distance 2 = .ok (.invokevirtual 290, 3) := by decide +kernel
theorem dX11_distance_5 : decode cX11_distance 5 = .ok (.aload_n 0, 1) := by decide +kernel
theorem dX11_distance_6 : decode cX11_distance 6 = .ok (.iload_n 2, 1) := by decide +kernel
theorem dX11_distance_7 : decode cX11_distance 7 = .ok (.invokevirtual 290, 3) := by decide +kernel
theorem dX11_distance_10 : decode cX11_distance 10 = .ok (.aload_n 0, 1) := by decide +kernel
theorem dX11_distance_11 : decode cX11_distance 11 = .ok (.getfield 52, 3) := by decide +kernel
theorem dX11_distance_14 : decode cX11_distance 14 = .ok (.iload_n 1, 1) := by decide +kernel
theorem dX11_distance_15 : decode cX11_distance 15 = .ok (.iload_n 2, 1) := by decide +kernel
theorem dX11_distance_16 : decode cX11_distance 16 = .ok (.invokevirtual 348, 3) := by decide +kernel
theorem dX11_distance_19 : decode cX11_distance 19 = .ok (.ireturn, 1) := by decide +kernel
set_option maxRecDepth 20000 in
theorem ggX11_nearest_X11_needBlazon : GoodIn wsX11_nearest wsX11_needBlazon := goodIn_ca (goodIn_r _ [9, 10, 11, 12, 13, 163, 164, 165, 166, 167, 168, 169, 170, 171, 172, 173, 174, 175, 176, 177, 178, 179, 180, 181, 182, 183, 184, 185, 186, 187, 188] (by decide +kernel) (by decide +kernel)) (goodIn_sub (fun _ h => List.mem_cons_of_mem _ (List.mem_append_left _ (List.mem_append_right _ h))) (by decide +kernel))
set_option maxRecDepth 20000 in
theorem gX11_nearest_X11_needBlazon : GoodIn wsX11_nearest (wsV RX11 128 RX11 yX11_needBlazon wsX11_needBlazon) := goodIn_app (goodIn_of _ (by decide +kernel)) ggX11_nearest_X11_needBlazon
set_option maxRecDepth 20000 in
theorem ggX11_nearest_X11_drawRow : GoodIn wsX11_nearest wsX11_drawRow := goodIn_ca (goodIn_r _ [17, 18, 19, 4, 12, 20, 21, 22, 23, 24, 25, 26, 27, 28, 29, 30, 31, 32, 33, 34, 35, 36, 37, 38, 39, 40, 41, 42, 43, 44, 45, 46, 47, 48, 49, 50, 51, 52, 53, 54, 55, 56, 57, 58, 59, 60, 61, 62, 63, 64, 65, 66, 67, 68, 69, 70, 71, 72, 73, 74, 75, 76, 77, 78, 79, 80, 81, 82, 83, 84, 85, 86, 87, 88, 89, 90, 91, 92, 93, 94, 95, 96, 97, 98, 99, 100, 101, 102, 103, 104, 105, 106, 107, 108, 109, 110, 111, 112, 113, 114, 115, 116, 117, 118, 119, 120, 121, 122, 123, 124, 125, 126, 127, 128, 129, 130, 131, 132, 133, 134, 135, 136, 137, 138, 139, 140, 163, 164, 165, 166, 167, 168, 169, 170, 171, 172, 173, 174, 175, 176, 177, 178, 179, 180, 181, 182, 183, 184, 185, 186, 187, 188, 189, 190, 191, 192, 193, 194, 195, 196, 197, 198, 199, 200, 201, 202, 203, 204, 205, 206, 207, 208, 209, 210, 211, 212, 213, 214, 215, 216, 217, 218, 219] (by decide +kernel) (by decide +kernel)) (goodIn_sub (fun _ h => List.mem_cons_of_mem _ (List.mem_append_right _ h)) (by decide +kernel))
set_option maxRecDepth 20000 in
theorem gX11_nearest_X11_drawRow : GoodIn wsX11_nearest (wsV RX11 131 RX11 yX11_drawRow wsX11_drawRow) := goodIn_app (goodIn_of _ (by decide +kernel)) ggX11_nearest_X11_drawRow
set_option maxRecDepth 20000 in
theorem ggX11_nearest_X9_nearestTo : GoodIn wsX11_nearest wsX9_nearestTo := goodIn_ca (goodIn_r _ [145, 146, 147, 148, 149, 150, 151, 46, 152, 153, 154, 155, 53, 156, 157, 158, 159, 160, 161, 162, 220, 221, 222, 223, 224, 225, 226, 227, 228, 229, 230, 231, 202, 203, 204, 205, 206] (by decide +kernel) (by decide +kernel)) (goodIn_sub (fun _ h => List.mem_cons_of_mem _ (List.mem_append_right _ h)) (by decide +kernel))
set_option maxRecDepth 20000 in
theorem gX11_nearest_X9_nearestTo : GoodIn wsX11_nearest (wsV RX11 351 RX9 yX9_nearestTo wsX9_nearestTo) := goodIn_app (goodIn_of _ (by decide +kernel)) ggX11_nearest_X9_nearestTo
theorem dX11_nearest_0 : decode cX11_nearest 0 = .ok (.aload_n 0, 1) := by decide +kernel
theorem dX11_nearest_1 : decode cX11_nearest 1 = .ok (.invokevirtual 128, 3) := by decide +kernel
theorem dX11_nearest_4 : decode cX11_nearest 4 = .ok (.aload_n 0, 1) := by decide +kernel
theorem dX11_nearest_5 : decode cX11_nearest 5 = .ok (.invokevirtual 131, 3) := by decide +kernel
theorem dX11_nearest_8 : decode cX11_nearest 8 = .ok (.aload_n 0, 1) := by decide +kernel
theorem dX11_nearest_9 : decode cX11_nearest 9 = .ok (.getfield 52, 3) := by decide +kernel
theorem dX11_nearest_12 : decode cX11_nearest 12 = .ok (.aload_n 0, 1) := by decide +kernel
theorem dX11_nearest_13 : decode cX11_nearest 13 = .ok (.getfield 26, 3) := by decide +kernel
theorem dX11_nearest_16 : decode cX11_nearest 16 = .ok (.invokevirtual 351, 3) := by decide +kernel
theorem dX11_nearest_19 : decode cX11_nearest 19 = .ok (.istore_n 1, 1) := by decide +kernel
theorem dX11_nearest_20 : decode cX11_nearest 20 = .ok (.iload_n 1, 1) := by decide +kernel
theorem dX11_nearest_21 : decode cX11_nearest 21 = .ok (.ifCond .ge 14, 3) := by decide +kernel
theorem dX11_nearest_24 : decode cX11_nearest 24 = .ok (.new 156, 3) := by decide +kernel
theorem dX11_nearest_27 : decode cX11_nearest 27 = .ok (.dup, 1) := by decide +kernel
theorem dX11_nearest_28 : decode cX11_nearest 28 = .ok (.ldc_w 355, 3) := by decide +kernel
theorem dX11_nearest_31 : decode cX11_nearest 31 = .ok (.invokespecial 160, 3) := by decide +kernel
theorem dX11_nearest_34 : decode cX11_nearest 34 = .ok (.athrow, 1) := by decide +kernel
theorem dX11_nearest_35 : decode cX11_nearest 35 = .ok (.iload_n 1, 1) := by decide +kernel
theorem dX11_nearest_36 : decode cX11_nearest 36 = .ok (.ireturn, 1) := by decide +kernel
set_option maxRecDepth 20000 in
theorem ggX11_withWord_X9_countWithWord : GoodIn wsX11_withWord wsX9_countWithWord := goodIn_ca (goodIn_r _ [6, 7, 8, 9, 10, 11, 12, 13, 14, 15, 30, 31, 32, 33, 34, 35, 36, 37, 38, 39, 40, 41, 42, 43, 44, 45, 46, 47, 48, 49, 50, 51, 52, 53] (by decide +kernel) (by decide +kernel)) (goodIn_sub (fun _ h => List.mem_cons_of_mem _ (List.mem_append_right _ h)) (by decide +kernel))
set_option maxRecDepth 20000 in
theorem gX11_withWord_X9_countWithWord : GoodIn wsX11_withWord (wsV RX11 357 RX9 yX9_countWithWord wsX9_countWithWord) := goodIn_app (goodIn_of _ (by decide +kernel)) ggX11_withWord_X9_countWithWord
theorem dX11_withWord_0 : decode cX11_withWord 0 = .ok (.aload_n 0, 1) := by decide +kernel
theorem dX11_withWord_1 : decode cX11_withWord 1 = .ok (.getfield 52, 3) := by decide +kernel
theorem dX11_withWord_4 : decode cX11_withWord 4 = .ok (.iload_n 1, 1) := by decide +kernel
theorem dX11_withWord_5 : decode cX11_withWord 5 = .ok (.invokevirtual 357, 3) := by decide +kernel
theorem dX11_withWord_8 : decode cX11_withWord 8 = .ok (.ireturn, 1) := by decide +kernel
set_option maxRecDepth 20000 in
theorem ggX11_conflicts_X11_needPerson : GoodIn wsX11_conflicts wsX11_needPerson := goodIn_ca (goodIn_r _ [7, 8, 9, 10, 11, 214, 215, 216, 217, 218, 219, 220, 221, 222, 223, 224, 225, 226, 227, 228, 229, 230, 231, 232, 233, 234, 235, 236] (by decide +kernel) (by decide +kernel)) (goodIn_sub (fun _ h => List.mem_cons_of_mem _ (List.mem_append_left _ (List.mem_append_left _ (List.mem_append_left _ (List.mem_append_right _ h))))) (by decide +kernel))
set_option maxRecDepth 20000 in
theorem gX11_conflicts_X11_needPerson : GoodIn wsX11_conflicts (wsV RX11 212 RX11 yX11_needPerson wsX11_needPerson) := goodIn_app (goodIn_of _ (by decide +kernel)) ggX11_conflicts_X11_needPerson
set_option maxRecDepth 20000 in
theorem ggX11_conflicts_X11_needLand : GoodIn wsX11_conflicts wsX11_needLand := goodIn_ca (goodIn_r _ [15, 16, 17] (by decide +kernel) (by decide +kernel)) (goodIn_sub (fun _ h => List.mem_cons_of_mem _ (List.mem_append_left _ (List.mem_append_left _ (List.mem_append_right _ h)))) (by decide +kernel))
set_option maxRecDepth 20000 in
theorem gX11_conflicts_X11_needLand : GoodIn wsX11_conflicts (wsV RX11 266 RX11 yX11_needLand wsX11_needLand) := goodIn_app (goodIn_of _ (by decide +kernel)) ggX11_conflicts_X11_needLand
set_option maxRecDepth 20000 in
theorem ggX11_conflicts_X11_needBlazon : GoodIn wsX11_conflicts wsX11_needBlazon := goodIn_ca (goodIn_r _ [21, 22, 23, 24, 25, 214, 215, 216, 217, 218, 219, 220, 221, 222, 223, 224, 225, 226, 227, 237, 238, 239, 240, 241, 242, 243, 244, 245, 246, 247, 248] (by decide +kernel) (by decide +kernel)) (goodIn_sub (fun _ h => List.mem_cons_of_mem _ (List.mem_append_left _ (List.mem_append_right _ h))) (by decide +kernel))
set_option maxRecDepth 20000 in
theorem gX11_conflicts_X11_needBlazon : GoodIn wsX11_conflicts (wsV RX11 128 RX11 yX11_needBlazon wsX11_needBlazon) := goodIn_app (goodIn_of _ (by decide +kernel)) ggX11_conflicts_X11_needBlazon
set_option maxRecDepth 20000 in
theorem ggX11_conflicts_X11_drawRow : GoodIn wsX11_conflicts wsX11_drawRow := goodIn_ca (goodIn_r _ [29, 30, 31, 2, 24, 32, 33, 34, 35, 36, 37, 38, 39, 40, 41, 42, 43, 44, 45, 46, 47, 48, 49, 50, 51, 52, 53, 54, 55, 56, 57, 58, 59, 60, 61, 62, 63, 64, 65, 66, 67, 68, 69, 70, 71, 72, 73, 74, 75, 76, 77, 78, 79, 80, 81, 82, 83, 84, 85, 86, 87, 88, 89, 90, 91, 92, 93, 94, 95, 96, 97, 98, 99, 100, 101, 102, 103, 104, 105, 106, 107, 108, 109, 110, 111, 112, 113, 114, 115, 116, 117, 118, 119, 120, 121, 122, 123, 124, 125, 126, 127, 128, 129, 130, 131, 132, 133, 134, 135, 136, 137, 138, 139, 140, 141, 142, 143, 144, 145, 146, 147, 148, 149, 150, 151, 152, 214, 215, 216, 217, 218, 219, 220, 221, 222, 223, 224, 225, 226, 227, 237, 238, 239, 240, 241, 242, 243, 244, 245, 246, 247, 248, 249, 250, 251, 252, 253, 254, 255, 256, 257, 258, 259, 260, 261, 262, 263, 264, 265, 266, 267, 268, 269, 270, 271, 272, 273, 274, 275, 276, 277, 278, 279] (by decide +kernel) (by decide +kernel)) (goodIn_sub (fun _ h => List.mem_cons_of_mem _ (List.mem_append_right _ h)) (by decide +kernel))
set_option maxRecDepth 20000 in
theorem gX11_conflicts_X11_drawRow : GoodIn wsX11_conflicts (wsV RX11 131 RX11 yX11_drawRow wsX11_drawRow) := goodIn_app (goodIn_of _ (by decide +kernel)) ggX11_conflicts_X11_drawRow
set_option maxRecDepth 20000 in
theorem ggX11_conflicts_X2_conflictsWith : GoodIn wsX11_conflicts wsX2_conflictsWith := goodIn_ca (goodIn_r _ [157, 158, 159, 160, 161, 162, 163, 164, 165, 166, 167, 168, 169, 170, 171, 172, 173, 174, 175, 176, 177, 178, 179, 180, 181, 182, 183, 58, 184, 185, 186, 187, 65, 188, 189, 190, 191, 192, 193, 194, 195, 196, 197, 198, 199, 200, 201, 202, 203, 204, 205, 206, 207, 208, 209, 210, 211, 212, 213, 280, 281, 282, 283, 284, 285, 286, 287, 288, 289, 290, 291, 292, 293, 294, 295, 296, 297, 298, 299, 300, 301, 302, 303, 304, 262, 263, 264, 265, 266, 305, 306, 307, 308, 309, 310, 311, 312, 313, 314, 315, 228, 229, 230, 231, 232, 233, 234, 235, 236] (by decide +kernel) (by decide +kernel)) (goodIn_sub (fun _ h => List.mem_cons_of_mem _ (List.mem_append_right _ h)) (by decide +kernel))
set_option maxRecDepth 20000 in
theorem gX11_conflicts_X2_conflictsWith : GoodIn wsX11_conflicts (wsV RX11 269 RX2 yX2_conflictsWith wsX2_conflictsWith) := goodIn_app (goodIn_of _ (by decide +kernel)) ggX11_conflicts_X2_conflictsWith
theorem dX11_conflicts_0 : decode cX11_conflicts 0 = .ok (.aload_n 0, 1) := by decide +kernel
theorem dX11_conflicts_1 : decode cX11_conflicts 1 = .ok (.iload_n 1, 1) := by decide +kernel
theorem dX11_conflicts_2 : decode cX11_conflicts 2 = .ok (.invokevirtual 212, 3) := by decide +kernel
theorem dX11_conflicts_5 : decode cX11_conflicts 5 = .ok (.aload_n 0, 1) := by decide +kernel
theorem dX11_conflicts_6 : decode cX11_conflicts 6 = .ok (.iload_n 2, 1) := by decide +kernel
theorem dX11_conflicts_7 : decode cX11_conflicts 7 = .ok (.invokevirtual 266, 3) := by decide +kernel
theorem dX11_conflicts_10 : decode cX11_conflicts 10 = .ok (.aload_n 0, 1) := by decide +kernel
theorem dX11_conflicts_11 : decode cX11_conflicts 11 = .ok (.invokevirtual 128, 3) := by decide +kernel
theorem dX11_conflicts_14 : decode cX11_conflicts 14 = .ok (.aload_n 0, 1) := by decide +kernel
theorem dX11_conflicts_15 : decode cX11_conflicts 15 = .ok (.invokevirtual 131, 3) := by decide +kernel
theorem dX11_conflicts_18 : decode cX11_conflicts 18 = .ok (.aload_n 0, 1) := by decide +kernel
theorem dX11_conflicts_19 : decode cX11_conflicts 19 = .ok (.getfield 88, 3) := by decide +kernel
theorem dX11_conflicts_22 : decode cX11_conflicts 22 = .ok (.aload_n 0, 1) := by decide +kernel
theorem dX11_conflicts_23 : decode cX11_conflicts 23 = .ok (.getfield 26, 3) := by decide +kernel
theorem dX11_conflicts_26 : decode cX11_conflicts 26 = .ok (.iload_n 1, 1) := by decide +kernel
theorem dX11_conflicts_27 : decode cX11_conflicts 27 = .ok (.iload_n 2, 1) := by decide +kernel
theorem dX11_conflicts_28 : decode cX11_conflicts 28 = .ok (.invokevirtual 269, 3) := by decide +kernel
theorem dX11_conflicts_31 : decode cX11_conflicts 31 = .ok (.ireturn, 1) := by decide +kernel
set_option maxRecDepth 20000 in
theorem ggX11_visit_X11_needLand : GoodIn wsX11_visit wsX11_needLand := goodIn_ca (goodIn_r _ [7, 8, 9] (by decide +kernel) (by decide +kernel)) (goodIn_sub (fun _ h => List.mem_cons_of_mem _ (List.mem_append_left _ (List.mem_append_right _ h))) (by decide +kernel))
set_option maxRecDepth 20000 in
theorem gX11_visit_X11_needLand : GoodIn wsX11_visit (wsV RX11 266 RX11 yX11_needLand wsX11_needLand) := goodIn_app (goodIn_of _ (by decide +kernel)) ggX11_visit_X11_needLand
set_option maxRecDepth 20000 in
theorem ggX11_visit_X2_inspect : GoodIn wsX11_visit wsX2_inspect := goodIn_ca (goodIn_r _ [14, 15, 16, 17, 18, 19, 20, 21, 22, 23, 24, 25, 26, 27, 28, 29, 30, 31, 32, 33, 34, 35, 36, 37, 38, 39, 40, 41, 42, 43, 44, 45, 46, 47, 48, 49, 50, 51, 52, 53, 54, 55, 56, 57, 58, 59, 60, 61, 62, 63, 64, 65, 66, 67, 68, 69, 70, 71, 72, 73, 74, 75, 76, 77, 13, 78, 79, 80, 81, 82, 83, 84, 85, 86, 87, 88, 89, 90, 91, 92, 93, 94, 95, 96, 97, 98, 99, 100, 101, 102, 103, 104, 105, 106, 107, 108, 109, 110, 111, 112, 113, 114, 115, 116, 117, 118, 119, 120, 121, 122, 123, 124, 125, 126, 127, 128, 129, 130, 131, 132, 133, 134, 135, 136, 137, 138, 139, 140, 141, 142, 143, 144, 145, 146, 147, 148, 149, 150, 151, 152, 153, 154, 155, 156, 157, 158, 159, 160, 161, 162, 163, 164, 165, 166, 167, 168, 169, 170, 171, 172, 173, 174, 175, 176, 177, 178, 179, 180, 181, 182, 183, 184, 185, 186, 187, 188, 189, 190, 191, 192, 193, 194, 195, 252, 253, 254, 255, 256, 257, 258, 259, 260, 261, 262, 263, 264, 265, 266, 267, 268, 269, 270, 271, 272, 273, 274, 275, 276, 277, 278, 279, 280, 281, 282, 283, 284, 285, 286, 287, 288, 289, 290, 291, 292, 293, 294, 295, 296] (by decide +kernel) (by decide +kernel)) (goodIn_sub (fun _ h => List.mem_cons_of_mem _ (List.mem_append_right _ h)) (by decide +kernel))
set_option maxRecDepth 20000 in
theorem gX11_visit_X2_inspect : GoodIn wsX11_visit (wsV RX11 360 RX2 yX2_inspect wsX2_inspect) := goodIn_app (goodIn_of _ (by decide +kernel)) ggX11_visit_X2_inspect
set_option maxRecDepth 20000 in
theorem ggX11_visit_X11_settle : GoodIn wsX11_visit wsX11_settle := goodIn_ca (goodIn_r _ [199, 200, 201, 202, 108, 109, 43, 110, 45, 111, 46, 48, 47, 112, 113, 114, 115, 116, 117, 118, 119, 120, 121, 122, 123, 49, 50, 51, 22, 52, 53, 25, 26, 27, 28, 29, 124, 125, 126, 127, 34, 66, 67, 68, 57, 69, 70, 65, 55, 56, 58, 59, 128, 129, 130, 131, 132, 133, 134, 135, 136, 137, 138, 139, 140, 141, 64, 142, 143, 144, 145, 146, 54, 147, 148, 149, 150, 151, 152, 153, 154, 155, 156, 157, 158, 159, 160, 161, 162, 163, 164, 165, 166, 167, 168, 169, 170, 171, 172, 173, 174, 175, 176, 177, 178, 179, 180, 181, 182, 183, 184, 185, 60, 61, 62, 63, 186, 187, 188, 189, 190, 72, 73, 74, 191, 192, 193, 194, 195, 203, 204, 205, 206, 207, 208, 209, 210, 211, 212, 213, 214, 215, 216, 217, 218, 219, 220, 221, 222, 223, 224, 225, 226, 227, 228, 229, 230, 231, 232, 233, 234, 235, 236, 237, 238, 239, 240, 241, 242, 243, 244, 245, 246, 247, 248, 249, 250, 251, 277, 278, 279, 280, 281, 282, 283, 284, 285, 286, 287, 265, 266, 267, 268, 269, 270, 271, 272, 273, 274, 275, 276, 288, 289, 290, 291, 292, 293, 294, 295, 296, 297, 298, 299, 300, 301, 302, 303, 304, 305, 306] (by decide +kernel) (by decide +kernel)) (goodIn_sub (fun _ h => List.mem_cons_of_mem _ (List.mem_append_right _ h)) (by decide +kernel))
set_option maxRecDepth 20000 in
theorem gX11_visit_X11_settle : GoodIn wsX11_visit (wsV RX11 230 RX11 yX11_settle wsX11_settle) := goodIn_app (goodIn_of _ (by decide +kernel)) ggX11_visit_X11_settle
theorem dX11_visit_0 : decode cX11_visit 0 = .ok (.aload_n 0, 1) := by decide +kernel
theorem dX11_visit_1 : decode cX11_visit 1 = .ok (.iload_n 1, 1) := by decide +kernel
theorem dX11_visit_2 : decode cX11_visit 2 = .ok (.invokevirtual 266, 3) := by decide +kernel
theorem dX11_visit_5 : decode cX11_visit 5 = .ok (.aload_n 0, 1) := by decide +kernel
theorem dX11_visit_6 : decode cX11_visit 6 = .ok (.getfield 88, 3) := by decide +kernel
theorem dX11_visit_9 : decode cX11_visit 9 = .ok (.iload_n 1, 1) := by decide +kernel
theorem dX11_visit_10 : decode cX11_visit 10 = .ok (.aload_n 0, 1) := by decide +kernel
theorem dX11_visit_11 : decode cX11_visit 11 = .ok (.getfield 207, 3) := by decide +kernel
theorem dX11_visit_14 : decode cX11_visit 14 = .ok (.invokevirtual 360, 3) := by decide +kernel
theorem dX11_visit_17 : decode cX11_visit 17 = .ok (.istore_n 2, 1) := by decide +kernel
theorem dX11_visit_18 : decode cX11_visit 18 = .ok (.aload_n 0, 1) := by decide +kernel
theorem dX11_visit_19 : decode cX11_visit 19 = .ok (.invokevirtual 230, 3) := by decide +kernel
theorem dX11_visit_22 : decode cX11_visit 22 = .ok (.iload_n 2, 1) := by decide +kernel
theorem dX11_visit_23 : decode cX11_visit 23 = .ok (.ireturn, 1) := by decide +kernel
theorem dX11_disclaimed_0 : decode cX11_disclaimed 0 = .ok (.aload_n 0, 1) := by decide +kernel
theorem dX11_disclaimed_1 : decode cX11_disclaimed 1 = .ok (.getfield 88, 3) := by decide +kernel
theorem dX11_disclaimed_4 : decode cX11_disclaimed 4 = .ok (.getfield 363, 3) := by decide +kernel
theorem dX11_disclaimed_7 : decode cX11_disclaimed 7 = .ok (.ireturn, 1) := by decide +kernel
set_option maxRecDepth 20000 in
theorem ggX11_sue_X11_needPerson : GoodIn wsX11_sue wsX11_needPerson := goodIn_ca (goodIn_r _ [11, 12, 13, 3, 14, 268, 269, 270, 271, 272, 273, 274, 275, 276, 277, 278, 279, 280, 281, 282, 283, 284, 285, 286, 287, 288, 289, 290] (by decide +kernel) (by decide +kernel)) (goodIn_sub (fun _ h => List.mem_cons_of_mem _ (List.mem_append_left _ (List.mem_append_left _ (List.mem_append_right _ h)))) (by decide +kernel))
set_option maxRecDepth 20000 in
theorem gX11_sue_X11_needPerson : GoodIn wsX11_sue (wsV RX11 212 RX11 yX11_needPerson wsX11_needPerson) := goodIn_app (goodIn_of _ (by decide +kernel)) ggX11_sue_X11_needPerson
set_option maxRecDepth 20000 in
theorem ggX11_sue_X5_isAlive : GoodIn wsX11_sue wsX5_isAlive := goodIn_ca (goodIn_r _ [19, 20, 21, 22, 23, 18, 24, 25, 282, 283, 284, 285, 286, 287, 288, 289, 290] (by decide +kernel) (by decide +kernel)) (goodIn_sub (fun _ h => List.mem_cons_of_mem _ (List.mem_append_left _ (List.mem_append_right _ h))) (by decide +kernel))
set_option maxRecDepth 20000 in
theorem gX11_sue_X5_isAlive : GoodIn wsX11_sue (wsV RX11 258 RX5 yX5_isAlive wsX5_isAlive) := goodIn_app (goodIn_of _ (by decide +kernel)) ggX11_sue_X5_isAlive
set_option maxRecDepth 20000 in
theorem ggX11_sue_X0_armsOf : GoodIn wsX11_sue wsX0_armsOf := goodIn_ca (goodIn_r _ [30, 31, 32, 33, 22, 23, 18, 24, 25, 291, 292, 293, 294, 295, 296, 297, 298, 299, 300, 301, 282, 283, 284, 285, 286, 287, 288, 289, 290] (by decide +kernel) (by decide +kernel)) (goodIn_sub (fun _ h => List.mem_cons_of_mem _ (List.mem_append_left _ (List.mem_append_right _ h))) (by decide +kernel))
set_option maxRecDepth 20000 in
theorem gX11_sue_X0_armsOf : GoodIn wsX11_sue (wsV RX11 282 RX0 yX0_armsOf wsX0_armsOf) := goodIn_app (goodIn_of _ (by decide +kernel)) ggX11_sue_X0_armsOf
set_option maxRecDepth 20000 in
theorem ggX11_sue_X2_isSuable : GoodIn wsX11_sue wsX2_isSuable := goodIn_ca (goodIn_r _ [38, 39, 40, 41, 42, 43, 44, 45, 46, 47, 48, 49, 50, 51, 52, 53, 54, 55, 56, 57, 58, 59, 60, 61, 62, 63, 64, 65, 66, 67, 68, 69, 70, 71, 72, 73, 74, 302, 303, 304, 305, 306, 307, 308, 309, 310, 311, 312, 313, 314, 315, 316, 317, 318, 319, 320, 321, 322, 323, 324, 325, 326] (by decide +kernel) (by decide +kernel)) (goodIn_sub (fun _ h => List.mem_cons_of_mem _ (List.mem_append_left _ (List.mem_append_right _ h))) (by decide +kernel))
set_option maxRecDepth 20000 in
theorem gX11_sue_X2_isSuable : GoodIn wsX11_sue (wsV RX11 366 RX2 yX2_isSuable wsX2_isSuable) := goodIn_app (goodIn_of _ (by decide +kernel)) ggX11_sue_X2_isSuable
set_option maxRecDepth 20000 in
theorem ggX11_sue_X11_needDocket : GoodIn wsX11_sue wsX11_needDocket := goodIn_ca (goodIn_r _ [78, 79, 80, 4, 81, 268, 269, 270, 271, 272, 273, 274, 275, 276, 277, 278, 279, 280, 281, 302, 303, 304, 305, 306, 307, 308, 309, 310, 311, 312, 313, 314] (by decide +kernel) (by decide +kernel)) (goodIn_sub (fun _ h => List.mem_cons_of_mem _ (List.mem_append_right _ h)) (by decide +kernel))
set_option maxRecDepth 20000 in
theorem gX11_sue_X11_needDocket : GoodIn wsX11_sue (wsV RX11 371 RX11 yX11_needDocket wsX11_needDocket) := goodIn_app (goodIn_of _ (by decide +kernel)) ggX11_sue_X11_needDocket
set_option maxRecDepth 20000 in
theorem ggX11_sue_X2_judge : GoodIn wsX11_sue wsX2_judge := goodIn_ca (goodIn_r _ [85, 39, 86, 87, 88, 43, 89, 90, 46, 47, 48, 49, 50, 51, 52, 53, 54, 55, 56, 57, 58, 59, 60, 61, 62, 63, 64, 65, 66, 67, 68, 69, 70, 71, 72, 73, 74, 40, 41, 42, 44, 45, 91, 92, 93, 37, 94, 95, 96, 97, 98, 99, 100, 101, 102, 103, 104, 105, 106, 107, 108, 109, 110, 111, 112, 113, 114, 115, 116, 117, 118, 119, 120, 121, 122, 123, 124, 125, 126, 127, 128, 302, 303, 304, 305, 306, 307, 308, 309, 310, 311, 312, 313, 314, 315, 316, 317, 318, 319, 320, 321, 322, 323, 324, 325, 326] (by decide +kernel) (by decide +kernel)) (goodIn_sub (fun _ h => List.mem_cons_of_mem _ (List.mem_append_left _ (List.mem_append_right _ h))) (by decide +kernel))
set_option maxRecDepth 20000 in
theorem gX11_sue_X2_judge : GoodIn wsX11_sue (wsV RX11 374 RX2 yX2_judge wsX2_judge) := goodIn_app (goodIn_of _ (by decide +kernel)) ggX11_sue_X2_judge
set_option maxRecDepth 20000 in
theorem ggX11_sue_X11_settle : GoodIn wsX11_sue wsX11_settle := goodIn_ca (goodIn_r _ [132, 5, 133, 134, 135, 136, 29, 137, 138, 139, 31, 140, 32, 141, 142, 143, 144, 145, 146, 147, 148, 149, 150, 151, 152, 153, 154, 155, 43, 156, 157, 46, 47, 48, 49, 50, 158, 159, 160, 161, 124, 162, 163, 164, 18, 165, 166, 21, 22, 23, 24, 25, 167, 16, 17, 19, 20, 168, 169, 170, 171, 172, 173, 174, 175, 176, 177, 178, 179, 180, 181, 182, 33, 183, 184, 185, 186, 187, 188, 189, 190, 191, 192, 193, 194, 195, 196, 197, 198, 199, 200, 97, 98, 99, 201, 202, 203, 204, 205, 206, 207, 208, 209, 210, 211, 212, 213, 214, 215, 216, 217, 218, 219, 220, 221, 222, 223, 224, 225, 226, 227, 228, 229, 230, 231, 232, 233, 234, 235, 236, 237, 238, 239, 240, 241, 242, 243, 244, 245, 27, 28, 30, 246, 247, 248, 249, 250, 251, 252, 253, 254, 255, 256, 257, 258, 259, 260, 261, 262, 263, 264, 265, 266, 267, 268, 269, 270, 271, 272, 273, 274, 275, 276, 277, 278, 279, 280, 281, 291, 292, 293, 294, 295, 296, 297, 298, 299, 300, 301, 315, 316, 317, 318, 319, 320, 321, 322, 323, 324, 325, 326, 282, 283, 284, 285, 286, 287, 288, 289, 290, 327, 328, 329, 330, 331, 332, 333, 334, 335, 336] (by decide +kernel) (by decide +kernel)) (goodIn_sub (fun _ h => List.mem_cons_of_mem _ (List.mem_append_left _ (List.mem_append_right _ h))) (by decide +kernel))
set_option maxRecDepth 20000 in
theorem gX11_sue_X11_settle : GoodIn wsX11_sue (wsV RX11 230 RX11 yX11_settle wsX11_settle) := goodIn_app (goodIn_of _ (by decide +kernel)) ggX11_sue_X11_settle
theorem dX11_sue_0 : decode cX11_sue 0 = .ok (.aload_n 0, 1) := by decide +kernel
theorem dX11_sue_1 : decode cX11_sue 1 = .ok (.iload_n 1, 1) := by decide +kernel
theorem dX11_sue_2 : decode cX11_sue 2 = .ok (.invokevirtual 212, 3) := by decide +kernel
theorem dX11_sue_5 : decode cX11_sue 5 = .ok (.aload_n 0, 1) := by decide +kernel
theorem dX11_sue_6 : decode cX11_sue 6 = .ok (.iload_n 2, 1) := by decide +kernel
theorem dX11_sue_7 : decode cX11_sue 7 = .ok (.invokevirtual 212, 3) := by decide +kernel
theorem dX11_sue_10 : decode cX11_sue 10 = .ok (.iload_n 1, 1) := by decide +kernel
theorem dX11_sue_11 : decode cX11_sue 11 = .ok (.iload_n 2, 1) := by decide +kernel
theorem dX11_sue_12 : decode cX11_sue 12 = .ok (.if_icmp .eq 51, 3) := by decide +kernel
theorem dX11_sue_15 : decode cX11_sue 15 = .ok (.aload_n 0, 1) := by decide +kernel
theorem dX11_sue_16 : decode cX11_sue 16 = .ok (.getfield 45, 3) := by decide +kernel
theorem dX11_sue_19 : decode cX11_sue 19 = .ok (.iload_n 1, 1) := by decide +kernel
theorem dX11_sue_20 : decode cX11_sue 20 = .ok (.invokevirtual 258, 3) := by decide +kernel
theorem dX11_sue_23 : decode cX11_sue 23 = .ok (.ifCond .eq 40, 3) := by decide +kernel
theorem dX11_sue_26 : decode cX11_sue 26 = .ok (.aload_n 0, 1) := by decide +kernel
theorem dX11_sue_27 : decode cX11_sue 27 = .ok (.getfield 45, 3) := by decide +kernel
theorem dX11_sue_30 : decode cX11_sue 30 = .ok (.iload_n 2, 1) := by decide +kernel
theorem dX11_sue_31 : decode cX11_sue 31 = .ok (.invokevirtual 258, 3) := by decide +kernel
theorem dX11_sue_34 : decode cX11_sue 34 = .ok (.ifCond .eq 29, 3) := by decide +kernel
theorem dX11_sue_37 : decode cX11_sue 37 = .ok (.aload_n 0, 1) := by decide +kernel
theorem dX11_sue_38 : decode cX11_sue 38 = .ok (.getfield 88, 3) := by decide +kernel
theorem dX11_sue_41 : decode cX11_sue 41 = .ok (.aload_n 0, 1) := by decide +kernel
theorem dX11_sue_42 : decode cX11_sue 42 = .ok (.getfield 61, 3) := by decide +kernel
theorem dX11_sue_45 : decode cX11_sue 45 = .ok (.iload_n 1, 1) := by decide +kernel
theorem dX11_sue_46 : decode cX11_sue 46 = .ok (.invokevirtual 282, 3) := by decide +kernel
theorem dX11_sue_49 : decode cX11_sue 49 = .ok (.aload_n 0, 1) := by decide +kernel
theorem dX11_sue_50 : decode cX11_sue 50 = .ok (.getfield 61, 3) := by decide +kernel
theorem dX11_sue_53 : decode cX11_sue 53 = .ok (.iload_n 2, 1) := by decide +kernel
theorem dX11_sue_54 : decode cX11_sue 54 = .ok (.invokevirtual 282, 3) := by decide +kernel
theorem dX11_sue_57 : decode cX11_sue 57 = .ok (.invokevirtual 366, 3) := by decide +kernel
theorem dX11_sue_60 : decode cX11_sue 60 = .ok (.ifCond .ne 14, 3) := by decide +kernel
theorem dX11_sue_63 : decode cX11_sue 63 = .ok (.new 219, 3) := by decide +kernel
theorem dX11_sue_66 : decode cX11_sue 66 = .ok (.dup, 1) := by decide +kernel
theorem dX11_sue_67 : decode cX11_sue 67 = .ok (.ldc_w 369, 3) := by decide +kernel
theorem dX11_sue_70 : decode cX11_sue 70 = .ok (.invokespecial 223, 3) := by decide +kernel
theorem dX11_sue_73 : decode cX11_sue 73 = .ok (.athrow, 1) := by decide +kernel
theorem dX11_sue_74 : decode cX11_sue 74 = .ok (.aload_n 0, 1) := by decide +kernel
theorem dX11_sue_75 : decode cX11_sue 75 = .ok (.invokevirtual 371, 3) := by decide +kernel
theorem dX11_sue_78 : decode cX11_sue 78 = .ok (.aload_n 0, 1) := by decide +kernel
theorem dX11_sue_79 : decode cX11_sue 79 = .ok (.getfield 88, 3) := by decide +kernel
theorem dX11_sue_82 : decode cX11_sue 82 = .ok (.aload_n 0, 1) := by decide +kernel
theorem dX11_sue_83 : decode cX11_sue 83 = .ok (.getfield 61, 3) := by decide +kernel
theorem dX11_sue_86 : decode cX11_sue 86 = .ok (.iload_n 1, 1) := by decide +kernel
theorem dX11_sue_87 : decode cX11_sue 87 = .ok (.invokevirtual 282, 3) := by decide +kernel
theorem dX11_sue_90 : decode cX11_sue 90 = .ok (.aload_n 0, 1) := by decide +kernel
theorem dX11_sue_91 : decode cX11_sue 91 = .ok (.getfield 61, 3) := by decide +kernel
theorem dX11_sue_94 : decode cX11_sue 94 = .ok (.iload_n 2, 1) := by decide +kernel
theorem dX11_sue_95 : decode cX11_sue 95 = .ok (.invokevirtual 282, 3) := by decide +kernel
theorem dX11_sue_98 : decode cX11_sue 98 = .ok (.aload_n 0, 1) := by decide +kernel
theorem dX11_sue_99 : decode cX11_sue 99 = .ok (.getfield 207, 3) := by decide +kernel
theorem dX11_sue_102 : decode cX11_sue 102 = .ok (.invokevirtual 374, 3) := by decide +kernel
theorem dX11_sue_105 : decode cX11_sue 105 = .ok (.istore_n 3, 1) := by decide +kernel
theorem dX11_sue_106 : decode cX11_sue 106 = .ok (.aload_n 0, 1) := by decide +kernel
theorem dX11_sue_107 : decode cX11_sue 107 = .ok (.invokevirtual 230, 3) := by decide +kernel
theorem dX11_sue_110 : decode cX11_sue 110 = .ok (.iload_n 3, 1) := by decide +kernel
theorem dX11_sue_111 : decode cX11_sue 111 = .ok (.ireturn, 1) := by decide +kernel
set_option maxRecDepth 20000 in
theorem ggX11_judged_X11_needJudgment : GoodIn wsX11_judged wsX11_needJudgment := goodIn_ca (goodIn_r _ [6, 7, 8, 1, 9, 21, 22, 23, 24, 25, 26, 27, 28, 29, 30, 31, 32, 33, 34, 35, 36, 37, 38, 39, 40, 41, 42, 43, 44, 45, 46, 47] (by decide +kernel) (by decide +kernel)) (goodIn_sub (fun _ h => List.mem_cons_of_mem _ (List.mem_append_left _ (List.mem_append_right _ h))) (by decide +kernel))
set_option maxRecDepth 20000 in
theorem gX11_judged_X11_needJudgment : GoodIn wsX11_judged (wsV RX11 377 RX11 yX11_needJudgment wsX11_needJudgment) := goodIn_app (goodIn_of _ (by decide +kernel)) ggX11_judged_X11_needJudgment
set_option maxRecDepth 20000 in
theorem ggX11_judged_X2_letterOf : GoodIn wsX11_judged wsX2_letterOf := goodIn_ca (goodIn_r _ [14, 15, 16, 17, 18, 13, 19, 20, 35, 36, 37, 38, 39, 40, 41, 42, 43, 44, 45, 46, 47] (by decide +kernel) (by decide +kernel)) (goodIn_sub (fun _ h => List.mem_cons_of_mem _ (List.mem_append_right _ h)) (by decide +kernel))
set_option maxRecDepth 20000 in
theorem gX11_judged_X2_letterOf : GoodIn wsX11_judged (wsV RX11 380 RX2 yX2_letterOf wsX2_letterOf) := goodIn_app (goodIn_of _ (by decide +kernel)) ggX11_judged_X2_letterOf
theorem dX11_judged_0 : decode cX11_judged 0 = .ok (.aload_n 0, 1) := by decide +kernel
theorem dX11_judged_1 : decode cX11_judged 1 = .ok (.iload_n 1, 1) := by decide +kernel
theorem dX11_judged_2 : decode cX11_judged 2 = .ok (.invokevirtual 377, 3) := by decide +kernel
theorem dX11_judged_5 : decode cX11_judged 5 = .ok (.aload_n 0, 1) := by decide +kernel
theorem dX11_judged_6 : decode cX11_judged 6 = .ok (.getfield 88, 3) := by decide +kernel
theorem dX11_judged_9 : decode cX11_judged 9 = .ok (.iload_n 1, 1) := by decide +kernel
theorem dX11_judged_10 : decode cX11_judged 10 = .ok (.invokevirtual 380, 3) := by decide +kernel
theorem dX11_judged_13 : decode cX11_judged 13 = .ok (.ireturn, 1) := by decide +kernel
set_option maxRecDepth 20000 in
theorem ggX11_stands_X11_needJudgment : GoodIn wsX11_stands wsX11_needJudgment := goodIn_ca (goodIn_r _ [6, 7, 8, 1, 9, 21, 22, 23, 24, 25, 26, 27, 28, 29, 30, 31, 32, 33, 34, 35, 36, 37, 38, 39, 40, 41, 42, 43, 44, 45, 46, 47] (by decide +kernel) (by decide +kernel)) (goodIn_sub (fun _ h => List.mem_cons_of_mem _ (List.mem_append_left _ (List.mem_append_right _ h))) (by decide +kernel))
set_option maxRecDepth 20000 in
theorem gX11_stands_X11_needJudgment : GoodIn wsX11_stands (wsV RX11 377 RX11 yX11_needJudgment wsX11_needJudgment) := goodIn_app (goodIn_of _ (by decide +kernel)) ggX11_stands_X11_needJudgment
set_option maxRecDepth 20000 in
theorem ggX11_stands_X2_isInForce : GoodIn wsX11_stands wsX2_isInForce := goodIn_ca (goodIn_r _ [14, 15, 16, 17, 18, 13, 19, 20, 35, 36, 37, 38, 39, 40, 41, 42, 43, 44, 45, 46, 47] (by decide +kernel) (by decide +kernel)) (goodIn_sub (fun _ h => List.mem_cons_of_mem _ (List.mem_append_right _ h)) (by decide +kernel))
set_option maxRecDepth 20000 in
theorem gX11_stands_X2_isInForce : GoodIn wsX11_stands (wsV RX11 381 RX2 yX2_isInForce wsX2_isInForce) := goodIn_app (goodIn_of _ (by decide +kernel)) ggX11_stands_X2_isInForce
theorem dX11_stands_0 : decode cX11_stands 0 = .ok (.aload_n 0, 1) := by decide +kernel
theorem dX11_stands_1 : decode cX11_stands 1 = .ok (.iload_n 1, 1) := by decide +kernel
theorem dX11_stands_2 : decode cX11_stands 2 = .ok (.invokevirtual 377, 3) := by decide +kernel
theorem dX11_stands_5 : decode cX11_stands 5 = .ok (.aload_n 0, 1) := by decide +kernel
theorem dX11_stands_6 : decode cX11_stands 6 = .ok (.getfield 88, 3) := by decide +kernel
theorem dX11_stands_9 : decode cX11_stands 9 = .ok (.iload_n 1, 1) := by decide +kernel
theorem dX11_stands_10 : decode cX11_stands 10 = .ok (.invokevirtual 381, 3) := by decide +kernel
theorem dX11_stands_13 : decode cX11_stands 13 = .ok (.ireturn, 1) := by decide +kernel
set_option maxRecDepth 20000 in
theorem ggX11_precedent_X11_needLand : GoodIn wsX11_precedent wsX11_needLand := goodIn_ca (goodIn_r _ [10, 1, 2] (by decide +kernel) (by decide +kernel)) (goodIn_sub (fun _ h => List.mem_cons_of_mem _ (List.mem_append_left _ (List.mem_append_left _ (List.mem_append_right _ h)))) (by decide +kernel))
set_option maxRecDepth 20000 in
theorem gX11_precedent_X11_needLand : GoodIn wsX11_precedent (wsV RX11 266 RX11 yX11_needLand wsX11_needLand) := goodIn_app (goodIn_of _ (by decide +kernel)) ggX11_precedent_X11_needLand
set_option maxRecDepth 20000 in
theorem ggX11_precedent_X2_latest : GoodIn wsX11_precedent wsX2_latest := goodIn_ca (goodIn_r _ [15, 16, 17, 18, 19, 20, 21, 22, 23, 38, 39, 40, 41, 42, 43, 44, 45, 46, 47, 48, 49, 50] (by decide +kernel) (by decide +kernel)) (goodIn_sub (fun _ h => List.mem_cons_of_mem _ (List.mem_append_right _ h)) (by decide +kernel))
set_option maxRecDepth 20000 in
theorem gX11_precedent_X2_latest : GoodIn wsX11_precedent (wsV RX11 386 RX2 yX2_latest wsX2_latest) := goodIn_app (goodIn_of _ (by decide +kernel)) ggX11_precedent_X2_latest
theorem dX11_precedent_0 : decode cX11_precedent 0 = .ok (.aload_n 0, 1) := by decide +kernel
theorem dX11_precedent_1 : decode cX11_precedent 1 = .ok (.iload_n 1, 1) := by decide +kernel
theorem dX11_precedent_2 : decode cX11_precedent 2 = .ok (.invokevirtual 266, 3) := by decide +kernel
theorem dX11_precedent_5 : decode cX11_precedent 5 = .ok (.iload_n 2, 1) := by decide +kernel
theorem dX11_precedent_6 : decode cX11_precedent 6 = .ok (.ifCond .lt 8, 3) := by decide +kernel
theorem dX11_precedent_9 : decode cX11_precedent 9 = .ok (.iload_n 2, 1) := by decide +kernel
theorem dX11_precedent_10 : decode cX11_precedent 10 = .ok (.iconst 2, 1) := by decide +kernel
theorem dX11_precedent_11 : decode cX11_precedent 11 = .ok (.if_icmp .le 14, 3) := by decide +kernel
theorem dX11_precedent_14 : decode cX11_precedent 14 = .ok (.new 95, 3) := by decide +kernel
theorem dX11_precedent_17 : decode cX11_precedent 17 = .ok (.dup, 1) := by decide +kernel
theorem dX11_precedent_18 : decode cX11_precedent 18 = .ok (.ldc_w 384, 3) := by decide +kernel
theorem dX11_precedent_21 : decode cX11_precedent 21 = .ok (.invokespecial 99, 3) := by decide +kernel
theorem dX11_precedent_24 : decode cX11_precedent 24 = .ok (.athrow, 1) := by decide +kernel
theorem dX11_precedent_25 : decode cX11_precedent 25 = .ok (.aload_n 0, 1) := by decide +kernel
theorem dX11_precedent_26 : decode cX11_precedent 26 = .ok (.getfield 88, 3) := by decide +kernel
theorem dX11_precedent_29 : decode cX11_precedent 29 = .ok (.iload_n 1, 1) := by decide +kernel
theorem dX11_precedent_30 : decode cX11_precedent 30 = .ok (.iload_n 2, 1) := by decide +kernel
theorem dX11_precedent_31 : decode cX11_precedent 31 = .ok (.invokevirtual 386, 3) := by decide +kernel
theorem dX11_precedent_34 : decode cX11_precedent 34 = .ok (.istore_n 3, 1) := by decide +kernel
theorem dX11_precedent_35 : decode cX11_precedent 35 = .ok (.iload_n 3, 1) := by decide +kernel
theorem dX11_precedent_36 : decode cX11_precedent 36 = .ok (.ifCond .ge 14, 3) := by decide +kernel
theorem dX11_precedent_39 : decode cX11_precedent 39 = .ok (.new 156, 3) := by decide +kernel
theorem dX11_precedent_42 : decode cX11_precedent 42 = .ok (.dup, 1) := by decide +kernel
theorem dX11_precedent_43 : decode cX11_precedent 43 = .ok (.ldc_w 389, 3) := by decide +kernel
theorem dX11_precedent_46 : decode cX11_precedent 46 = .ok (.invokespecial 160, 3) := by decide +kernel
theorem dX11_precedent_49 : decode cX11_precedent 49 = .ok (.athrow, 1) := by decide +kernel
theorem dX11_precedent_50 : decode cX11_precedent 50 = .ok (.iload_n 3, 1) := by decide +kernel
theorem dX11_precedent_51 : decode cX11_precedent 51 = .ok (.ireturn, 1) := by decide +kernel
set_option maxRecDepth 20000 in
theorem ggX11_appeal_X11_needJudgment : GoodIn wsX11_appeal wsX11_needJudgment := goodIn_ca (goodIn_r _ [9, 10, 11, 3, 12, 231, 232, 233, 234, 235, 236, 237, 238, 239, 240, 241, 242, 243, 244, 245, 246, 247, 248, 249, 250, 251, 252, 253, 254, 255, 256, 257] (by decide +kernel) (by decide +kernel)) (goodIn_sub (fun _ h => List.mem_cons_of_mem _ (List.mem_append_left _ (List.mem_append_left _ (List.mem_append_right _ h)))) (by decide +kernel))
set_option maxRecDepth 20000 in
theorem gX11_appeal_X11_needJudgment : GoodIn wsX11_appeal (wsV RX11 377 RX11 yX11_needJudgment wsX11_needJudgment) := goodIn_app (goodIn_of _ (by decide +kernel)) ggX11_appeal_X11_needJudgment
set_option maxRecDepth 20000 in
theorem ggX11_appeal_X2_isOpenToAppeal : GoodIn wsX11_appeal wsX2_isOpenToAppeal := goodIn_ca (goodIn_r _ [17, 18, 19, 20, 21, 22, 23, 16, 24, 25, 26, 27, 28, 29, 30, 245, 246, 247, 248, 249, 250, 251, 252, 253, 254, 255, 256, 257] (by decide +kernel) (by decide +kernel)) (goodIn_sub (fun _ h => List.mem_cons_of_mem _ (List.mem_append_left _ (List.mem_append_right _ h))) (by decide +kernel))
set_option maxRecDepth 20000 in
theorem gX11_appeal_X2_isOpenToAppeal : GoodIn wsX11_appeal (wsV RX11 391 RX2 yX2_isOpenToAppeal wsX2_isOpenToAppeal) := goodIn_app (goodIn_of _ (by decide +kernel)) ggX11_appeal_X2_isOpenToAppeal
set_option maxRecDepth 20000 in
theorem ggX11_appeal_X11_needDocket : GoodIn wsX11_appeal wsX11_needDocket := goodIn_ca (goodIn_r _ [34, 35, 36, 3, 12, 231, 232, 233, 234, 235, 236, 237, 238, 239, 240, 241, 242, 243, 244, 245, 246, 247, 248, 249, 250, 251, 252, 253, 254, 255, 256, 257] (by decide +kernel) (by decide +kernel)) (goodIn_sub (fun _ h => List.mem_cons_of_mem _ (List.mem_append_right _ h)) (by decide +kernel))
set_option maxRecDepth 20000 in
theorem gX11_appeal_X11_needDocket : GoodIn wsX11_appeal (wsV RX11 371 RX11 yX11_needDocket wsX11_needDocket) := goodIn_app (goodIn_of _ (by decide +kernel)) ggX11_appeal_X11_needDocket
set_option maxRecDepth 20000 in
theorem ggX11_appeal_X2_overturn : GoodIn wsX11_appeal wsX2_overturn := goodIn_ca (goodIn_r _ [40, 41, 25, 42, 43, 44, 45, 20, 19, 26, 27, 28, 16, 29, 30, 46, 47, 48, 49, 50, 51, 52, 53, 54, 55, 56, 57, 58, 59, 60, 61, 18, 62, 63, 64, 65, 66, 67, 68, 69, 70, 245, 246, 247, 248, 249, 250, 251, 252, 253, 254, 255, 256, 257, 258, 259, 260, 261, 262, 263, 264, 265, 266, 267, 268, 269] (by decide +kernel) (by decide +kernel)) (goodIn_sub (fun _ h => List.mem_cons_of_mem _ (List.mem_append_left _ (List.mem_append_right _ h))) (by decide +kernel))
set_option maxRecDepth 20000 in
theorem gX11_appeal_X2_overturn : GoodIn wsX11_appeal (wsV RX11 396 RX2 yX2_overturn wsX2_overturn) := goodIn_app (goodIn_of _ (by decide +kernel)) ggX11_appeal_X2_overturn
set_option maxRecDepth 20000 in
theorem ggX11_appeal_X11_settle : GoodIn wsX11_appeal wsX11_settle := goodIn_ca (goodIn_r _ [74, 75, 76, 77, 78, 79, 80, 81, 82, 83, 84, 85, 86, 87, 88, 89, 90, 91, 92, 93, 94, 95, 96, 97, 98, 99, 100, 101, 49, 102, 103, 52, 53, 54, 55, 56, 104, 105, 106, 107, 51, 108, 109, 110, 111, 112, 113, 114, 115, 116, 117, 118, 119, 120, 121, 122, 123, 124, 125, 126, 127, 128, 129, 130, 131, 132, 133, 134, 135, 136, 137, 138, 139, 140, 141, 142, 143, 144, 145, 146, 147, 148, 149, 150, 151, 152, 153, 154, 155, 156, 157, 158, 159, 160, 161, 162, 163, 164, 165, 166, 167, 168, 169, 170, 171, 172, 173, 174, 175, 176, 177, 178, 179, 180, 181, 182, 183, 184, 185, 186, 187, 188, 189, 190, 191, 192, 193, 194, 195, 196, 197, 198, 199, 200, 201, 202, 203, 204, 205, 206, 207, 208, 209, 210, 211, 212, 213, 214, 215, 216, 217, 218, 219, 220, 221, 222, 223, 224, 225, 226, 227, 228, 229, 230, 231, 232, 233, 234, 235, 236, 237, 238, 239, 240, 241, 242, 243, 244, 270, 271, 272, 273, 274, 275, 276, 277, 278, 279, 280, 258, 259, 260, 261, 262, 263, 264, 265, 266, 267, 268, 269, 281, 282, 283, 284, 285, 286, 287, 288, 289, 290, 291, 292, 293, 294, 295, 296, 297, 298, 299] (by decide +kernel) (by decide +kernel)) (goodIn_sub (fun _ h => List.mem_cons_of_mem _ (List.mem_append_left _ (List.mem_append_right _ h))) (by decide +kernel))
set_option maxRecDepth 20000 in
theorem gX11_appeal_X11_settle : GoodIn wsX11_appeal (wsV RX11 230 RX11 yX11_settle wsX11_settle) := goodIn_app (goodIn_of _ (by decide +kernel)) ggX11_appeal_X11_settle
theorem dX11_appeal_0 : decode cX11_appeal 0 = .ok (.aload_n 0, 1) := by decide +kernel
theorem dX11_appeal_1 : decode cX11_appeal 1 = .ok (.iload_n 1, 1) := by decide +kernel
theorem dX11_appeal_2 : decode cX11_appeal 2 = .ok (.invokevirtual 377, 3) := by decide +kernel
theorem dX11_appeal_5 : decode cX11_appeal 5 = .ok (.aload_n 0, 1) := by decide +kernel
theorem dX11_appeal_6 : decode cX11_appeal 6 = .ok (.getfield 88, 3) := by decide +kernel
theorem dX11_appeal_9 : decode cX11_appeal 9 = .ok (.iload_n 1, 1) := by decide +kernel
theorem dX11_appeal_10 : decode cX11_appeal 10 = .ok (.aload_n 0, 1) := by decide +kernel
theorem dX11_appeal_11 : decode cX11_appeal 11 = .ok (.getfield 207, 3) := by decide +kernel
theorem dX11_appeal_14 : decode cX11_appeal 14 = .ok (.invokevirtual 391, 3) := by decide +kernel
theorem dX11_appeal_17 : decode cX11_appeal 17 = .ok (.ifCond .ne 14, 3) := by decide +kernel
theorem dX11_appeal_20 : decode cX11_appeal 20 = .ok (.new 219, 3) := by decide +kernel
theorem dX11_appeal_23 : decode cX11_appeal 23 = .ok (.dup, 1) := by decide +kernel
theorem dX11_appeal_24 : decode cX11_appeal 24 = .ok (.ldc_w 394, 3) := by decide +kernel
theorem dX11_appeal_27 : decode cX11_appeal 27 = .ok (.invokespecial 223, 3) := by decide +kernel
theorem dX11_appeal_30 : decode cX11_appeal 30 = .ok (.athrow, 1) := by decide +kernel
theorem dX11_appeal_31 : decode cX11_appeal 31 = .ok (.aload_n 0, 1) := by decide +kernel
theorem dX11_appeal_32 : decode cX11_appeal 32 = .ok (.invokevirtual 371, 3) := by decide +kernel
theorem dX11_appeal_35 : decode cX11_appeal 35 = .ok (.aload_n 0, 1) := by decide +kernel
theorem dX11_appeal_36 : decode cX11_appeal 36 = .ok (.getfield 88, 3) := by decide +kernel
theorem dX11_appeal_39 : decode cX11_appeal 39 = .ok (.iload_n 1, 1) := by decide +kernel
theorem dX11_appeal_40 : decode cX11_appeal 40 = .ok (.aload_n 0, 1) := by decide +kernel
theorem dX11_appeal_41 : decode cX11_appeal 41 = .ok (.getfield 207, 3) := by decide +kernel
theorem dX11_appeal_44 : decode cX11_appeal 44 = .ok (.invokevirtual 396, 3) := by decide +kernel
theorem dX11_appeal_47 : decode cX11_appeal 47 = .ok (.istore_n 2, 1) := by decide +kernel
theorem dX11_appeal_48 : decode cX11_appeal 48 = .ok (.aload_n 0, 1) := by decide +kernel
theorem dX11_appeal_49 : decode cX11_appeal 49 = .ok (.invokevirtual 230, 3) := by decide +kernel
theorem dX11_appeal_52 : decode cX11_appeal 52 = .ok (.iload_n 2, 1) := by decide +kernel
theorem dX11_appeal_53 : decode cX11_appeal 53 = .ok (.ireturn, 1) := by decide +kernel
set_option maxRecDepth 20000 in
theorem ggX11_setRank_X11_needPerson : GoodIn wsX11_setRank wsX11_needPerson := goodIn_ca (goodIn_r _ [8, 9, 10, 11, 12, 26, 27, 28, 29, 30, 31, 32, 33, 34, 35, 36, 37, 38, 39, 40, 41, 42, 43, 44, 45, 46, 47, 48] (by decide +kernel) (by decide +kernel)) (goodIn_sub (fun _ h => List.mem_cons_of_mem _ (List.mem_append_left _ (List.mem_append_right _ h))) (by decide +kernel))
set_option maxRecDepth 20000 in
theorem gX11_setRank_X11_needPerson : GoodIn wsX11_setRank (wsV RX11 212 RX11 yX11_needPerson wsX11_needPerson) := goodIn_app (goodIn_of _ (by decide +kernel)) ggX11_setRank_X11_needPerson
set_option maxRecDepth 20000 in
theorem ggX11_setRank_X4_exchangeRank : GoodIn wsX11_setRank wsX4_exchangeRank := goodIn_ca (goodIn_r _ [17, 18, 19, 20, 21, 22, 23, 24, 25, 49, 50, 51, 52, 53, 54, 55, 40, 41, 42, 43, 44, 45, 46, 47, 48] (by decide +kernel) (by decide +kernel)) (goodIn_sub (fun _ h => List.mem_cons_of_mem _ (List.mem_append_right _ h)) (by decide +kernel))
set_option maxRecDepth 20000 in
theorem gX11_setRank_X4_exchangeRank : GoodIn wsX11_setRank (wsV RX11 401 RX4 yX4_exchangeRank wsX4_exchangeRank) := goodIn_app (goodIn_of _ (by decide +kernel)) ggX11_setRank_X4_exchangeRank
theorem dX11_setRank_0 : decode cX11_setRank 0 = .ok (.aload_n 0, 1) := by decide +kernel
theorem dX11_setRank_1 : decode cX11_setRank 1 = .ok (.iload_n 1, 1) := by decide +kernel
theorem dX11_setRank_2 : decode cX11_setRank 2 = .ok (.invokevirtual 212, 3) := by decide +kernel
theorem dX11_setRank_5 : decode cX11_setRank 5 = .ok (.iload_n 2, 1) := by decide +kernel
theorem dX11_setRank_6 : decode cX11_setRank 6 = .ok (.ifCond .lt 8, 3) := by decide +kernel
theorem dX11_setRank_9 : decode cX11_setRank 9 = .ok (.iload_n 2, 1) := by decide +kernel
theorem dX11_setRank_10 : decode cX11_setRank 10 = .ok (.iconst 4, 1) := by decide +kernel
theorem dX11_setRank_11 : decode cX11_setRank 11 = .ok (.if_icmp .le 14, 3) := by decide +kernel
theorem dX11_setRank_14 : decode cX11_setRank 14 = .ok (.new 95, 3) := by decide +kernel
theorem dX11_setRank_17 : decode cX11_setRank 17 = .ok (.dup, 1) := by decide +kernel
theorem dX11_setRank_18 : decode cX11_setRank 18 = .ok (.ldc_w 399, 3) := by decide +kernel
theorem dX11_setRank_21 : decode cX11_setRank 21 = .ok (.invokespecial 99, 3) := by decide +kernel
theorem dX11_setRank_24 : decode cX11_setRank 24 = .ok (.athrow, 1) := by decide +kernel
theorem dX11_setRank_25 : decode cX11_setRank 25 = .ok (.aload_n 0, 1) := by decide +kernel
theorem dX11_setRank_26 : decode cX11_setRank 26 = .ok (.getfield 70, 3) := by decide +kernel
theorem dX11_setRank_29 : decode cX11_setRank 29 = .ok (.iload_n 1, 1) := by decide +kernel
theorem dX11_setRank_30 : decode cX11_setRank 30 = .ok (.iload_n 2, 1) := by decide +kernel
theorem dX11_setRank_31 : decode cX11_setRank 31 = .ok (.invokevirtual 401, 3) := by decide +kernel
theorem dX11_setRank_34 : decode cX11_setRank 34 = .ok (.ireturn, 1) := by decide +kernel
set_option maxRecDepth 20000 in
theorem ggX11_setCrest_X11_needPerson : GoodIn wsX11_setCrest wsX11_needPerson := goodIn_ca (goodIn_r _ [6, 7, 8, 9, 10, 30, 31, 32, 33, 34, 35, 36, 37, 38, 39, 40, 41, 42, 43, 44, 45, 46, 47, 48, 49, 50, 51, 52] (by decide +kernel) (by decide +kernel)) (goodIn_sub (fun _ h => List.mem_cons_of_mem _ (List.mem_append_left _ (List.mem_append_left _ (List.mem_append_right _ h)))) (by decide +kernel))
set_option maxRecDepth 20000 in
theorem gX11_setCrest_X11_needPerson : GoodIn wsX11_setCrest (wsV RX11 212 RX11 yX11_needPerson wsX11_needPerson) := goodIn_app (goodIn_of _ (by decide +kernel)) ggX11_setCrest_X11_needPerson
set_option maxRecDepth 20000 in
theorem ggX11_setCrest_X11_needCharge : GoodIn wsX11_setCrest wsX11_needCharge := goodIn_ca (goodIn_r _ [14, 15, 16] (by decide +kernel) (by decide +kernel)) (goodIn_sub (fun _ h => List.mem_cons_of_mem _ (List.mem_append_left _ (List.mem_append_right _ h))) (by decide +kernel))
set_option maxRecDepth 20000 in
theorem gX11_setCrest_X11_needCharge : GoodIn wsX11_setCrest (wsV RX11 404 RX11 yX11_needCharge wsX11_needCharge) := goodIn_app (goodIn_of _ (by decide +kernel)) ggX11_setCrest_X11_needCharge
set_option maxRecDepth 20000 in
theorem ggX11_setCrest_X4_exchangeCrest : GoodIn wsX11_setCrest wsX4_exchangeCrest := goodIn_ca (goodIn_r _ [21, 22, 23, 24, 25, 26, 27, 28, 29, 53, 54, 55, 56, 57, 58, 59, 44, 45, 46, 47, 48, 49, 50, 51, 52] (by decide +kernel) (by decide +kernel)) (goodIn_sub (fun _ h => List.mem_cons_of_mem _ (List.mem_append_right _ h)) (by decide +kernel))
set_option maxRecDepth 20000 in
theorem gX11_setCrest_X4_exchangeCrest : GoodIn wsX11_setCrest (wsV RX11 407 RX4 yX4_exchangeCrest wsX4_exchangeCrest) := goodIn_app (goodIn_of _ (by decide +kernel)) ggX11_setCrest_X4_exchangeCrest
theorem dX11_setCrest_0 : decode cX11_setCrest 0 = .ok (.aload_n 0, 1) := by decide +kernel
theorem dX11_setCrest_1 : decode cX11_setCrest 1 = .ok (.iload_n 1, 1) := by decide +kernel
theorem dX11_setCrest_2 : decode cX11_setCrest 2 = .ok (.invokevirtual 212, 3) := by decide +kernel
theorem dX11_setCrest_5 : decode cX11_setCrest 5 = .ok (.aload_n 0, 1) := by decide +kernel
theorem dX11_setCrest_6 : decode cX11_setCrest 6 = .ok (.iload_n 2, 1) := by decide +kernel
theorem dX11_setCrest_7 : decode cX11_setCrest 7 = .ok (.invokevirtual 404, 3) := by decide +kernel
theorem dX11_setCrest_10 : decode cX11_setCrest 10 = .ok (.aload_n 0, 1) := by decide +kernel
theorem dX11_setCrest_11 : decode cX11_setCrest 11 = .ok (.getfield 70, 3) := by decide +kernel
theorem dX11_setCrest_14 : decode cX11_setCrest 14 = .ok (.iload_n 1, 1) := by decide +kernel
theorem dX11_setCrest_15 : decode cX11_setCrest 15 = .ok (.iload_n 2, 1) := by decide +kernel
theorem dX11_setCrest_16 : decode cX11_setCrest 16 = .ok (.invokevirtual 407, 3) := by decide +kernel
theorem dX11_setCrest_19 : decode cX11_setCrest 19 = .ok (.ireturn, 1) := by decide +kernel
set_option maxRecDepth 20000 in
theorem ggX11_crest_X11_needPerson : GoodIn wsX11_crest wsX11_needPerson := goodIn_ca (goodIn_r _ [8, 9, 10, 11, 12, 63, 64, 65, 66, 67, 68, 69, 70, 71, 72, 73, 74, 75, 76, 77, 78, 79, 80, 81, 82, 83, 84, 85] (by decide +kernel) (by decide +kernel)) (goodIn_sub (fun _ h => List.mem_cons_of_mem _ (List.mem_append_left _ (List.mem_append_right _ h))) (by decide +kernel))
set_option maxRecDepth 20000 in
theorem gX11_crest_X11_needPerson : GoodIn wsX11_crest (wsV RX11 212 RX11 yX11_needPerson wsX11_needPerson) := goodIn_app (goodIn_of _ (by decide +kernel)) ggX11_crest_X11_needPerson
set_option maxRecDepth 20000 in
theorem ggX11_crest_X4_shownCrest : GoodIn wsX11_crest wsX4_shownCrest := goodIn_ca (goodIn_r _ [17, 18, 19, 20, 21, 22, 23, 24, 25, 26, 27, 28, 29, 30, 31, 32, 33, 34, 35, 36, 37, 38, 39, 40, 41, 42, 43, 44, 45, 46, 47, 48, 49, 50, 51, 52, 53, 54, 55, 56, 57, 58, 59, 60, 61, 62, 86, 87, 88, 89, 90, 91, 92, 77, 78, 79, 80, 81, 82, 83, 84, 85, 93, 94, 95, 96, 97, 98, 99, 100, 101, 102, 103] (by decide +kernel) (by decide +kernel)) (goodIn_sub (fun _ h => List.mem_cons_of_mem _ (List.mem_append_right _ h)) (by decide +kernel))
set_option maxRecDepth 20000 in
theorem gX11_crest_X4_shownCrest : GoodIn wsX11_crest (wsV RX11 410 RX4 yX4_shownCrest wsX4_shownCrest) := goodIn_app (goodIn_of _ (by decide +kernel)) ggX11_crest_X4_shownCrest
theorem dX11_crest_0 : decode cX11_crest 0 = .ok (.aload_n 0, 1) := by decide +kernel
theorem dX11_crest_1 : decode cX11_crest 1 = .ok (.iload_n 1, 1) := by decide +kernel
theorem dX11_crest_2 : decode cX11_crest 2 = .ok (.invokevirtual 212, 3) := by decide +kernel
theorem dX11_crest_5 : decode cX11_crest 5 = .ok (.aload_n 0, 1) := by decide +kernel
theorem dX11_crest_6 : decode cX11_crest 6 = .ok (.getfield 70, 3) := by decide +kernel
theorem dX11_crest_9 : decode cX11_crest 9 = .ok (.iload_n 1, 1) := by decide +kernel
theorem dX11_crest_10 : decode cX11_crest 10 = .ok (.invokevirtual 410, 3) := by decide +kernel
theorem dX11_crest_13 : decode cX11_crest 13 = .ok (.istore_n 2, 1) := by decide +kernel
theorem dX11_crest_14 : decode cX11_crest 14 = .ok (.iload_n 2, 1) := by decide +kernel
theorem dX11_crest_15 : decode cX11_crest 15 = .ok (.ifCond .ne 14, 3) := by decide +kernel
theorem dX11_crest_18 : decode cX11_crest 18 = .ok (.new 156, 3) := by decide +kernel
theorem dX11_crest_21 : decode cX11_crest 21 = .ok (.dup, 1) := by decide +kernel
theorem dX11_crest_22 : decode cX11_crest 22 = .ok (.ldc_w 413, 3) := by decide +kernel
theorem dX11_crest_25 : decode cX11_crest 25 = .ok (.invokespecial 160, 3) := by decide +kernel
theorem dX11_crest_28 : decode cX11_crest 28 = .ok (.athrow, 1) := by decide +kernel
theorem dX11_crest_29 : decode cX11_crest 29 = .ok (.iload_n 2, 1) := by decide +kernel
theorem dX11_crest_30 : decode cX11_crest 30 = .ok (.ireturn, 1) := by decide +kernel
set_option maxRecDepth 20000 in
theorem ggX11_setSupporters_X11_needPerson : GoodIn wsX11_setSupporters wsX11_needPerson := goodIn_ca (goodIn_r _ [6, 7, 8, 9, 10, 31, 32, 33, 34, 35, 36, 37, 38, 39, 40, 41, 42, 43, 44, 45, 46, 47, 48, 49, 50, 51, 52, 53] (by decide +kernel) (by decide +kernel)) (goodIn_sub (fun _ h => List.mem_cons_of_mem _ (List.mem_append_left _ (List.mem_append_left _ (List.mem_append_right _ h)))) (by decide +kernel))
set_option maxRecDepth 20000 in
theorem gX11_setSupporters_X11_needPerson : GoodIn wsX11_setSupporters (wsV RX11 212 RX11 yX11_needPerson wsX11_needPerson) := goodIn_app (goodIn_of _ (by decide +kernel)) ggX11_setSupporters_X11_needPerson
set_option maxRecDepth 20000 in
theorem ggX11_setSupporters_X11_needCharge : GoodIn wsX11_setSupporters wsX11_needCharge := goodIn_ca (goodIn_r _ [14, 15, 16] (by decide +kernel) (by decide +kernel)) (goodIn_sub (fun _ h => List.mem_cons_of_mem _ (List.mem_append_left _ (List.mem_append_right _ h))) (by decide +kernel))
set_option maxRecDepth 20000 in
theorem gX11_setSupporters_X11_needCharge : GoodIn wsX11_setSupporters (wsV RX11 404 RX11 yX11_needCharge wsX11_needCharge) := goodIn_app (goodIn_of _ (by decide +kernel)) ggX11_setSupporters_X11_needCharge
set_option maxRecDepth 20000 in
theorem ggX11_setSupporters_X4_exchangeSupporters : GoodIn wsX11_setSupporters wsX4_exchangeSupporters := goodIn_ca (goodIn_r _ [21, 22, 23, 24, 25, 26, 27, 28, 29, 30, 54, 55, 56, 57, 58, 59, 60, 45, 46, 47, 48, 49, 50, 51, 52, 53] (by decide +kernel) (by decide +kernel)) (goodIn_sub (fun _ h => List.mem_cons_of_mem _ (List.mem_append_right _ h)) (by decide +kernel))
set_option maxRecDepth 20000 in
theorem gX11_setSupporters_X4_exchangeSupporters : GoodIn wsX11_setSupporters (wsV RX11 415 RX4 yX4_exchangeSupporters wsX4_exchangeSupporters) := goodIn_app (goodIn_of _ (by decide +kernel)) ggX11_setSupporters_X4_exchangeSupporters
theorem dX11_setSupporters_0 : decode cX11_setSupporters 0 = .ok (.aload_n 0, 1) := by decide +kernel
theorem dX11_setSupporters_1 : decode cX11_setSupporters 1 = .ok (.iload_n 1, 1) := by decide +kernel
theorem dX11_setSupporters_2 : decode cX11_setSupporters 2 = .ok (.invokevirtual 212, 3) := by decide +kernel
theorem dX11_setSupporters_5 : decode cX11_setSupporters 5 = .ok (.aload_n 0, 1) := by decide +kernel
theorem dX11_setSupporters_6 : decode cX11_setSupporters 6 = .ok (.iload_n 2, 1) := by decide +kernel
theorem dX11_setSupporters_7 : decode cX11_setSupporters 7 = .ok (.invokevirtual 404, 3) := by decide +kernel
theorem dX11_setSupporters_10 : decode cX11_setSupporters 10 = .ok (.aload_n 0, 1) := by decide +kernel
theorem dX11_setSupporters_11 : decode cX11_setSupporters 11 = .ok (.iload_n 3, 1) := by decide +kernel
theorem dX11_setSupporters_12 : decode cX11_setSupporters 12 = .ok (.invokevirtual 404, 3) := by decide +kernel
theorem dX11_setSupporters_15 : decode cX11_setSupporters 15 = .ok (.aload_n 0, 1) := by decide +kernel
theorem dX11_setSupporters_16 : decode cX11_setSupporters 16 = .ok (.getfield 70, 3) := by decide +kernel
theorem dX11_setSupporters_19 : decode cX11_setSupporters 19 = .ok (.iload_n 1, 1) := by decide +kernel
theorem dX11_setSupporters_20 : decode cX11_setSupporters 20 = .ok (.iload_n 2, 1) := by decide +kernel
theorem dX11_setSupporters_21 : decode cX11_setSupporters 21 = .ok (.iload_n 3, 1) := by decide +kernel
theorem dX11_setSupporters_22 : decode cX11_setSupporters 22 = .ok (.invokevirtual 415, 3) := by decide +kernel
theorem dX11_setSupporters_25 : decode cX11_setSupporters 25 = .ok (.ireturn, 1) := by decide +kernel
set_option maxRecDepth 20000 in
theorem ggX11_supporter_X11_needPerson : GoodIn wsX11_supporter wsX11_needPerson := goodIn_ca (goodIn_r _ [8, 9, 10, 11, 12, 28, 29, 30, 31, 32, 33, 34, 35, 36, 37, 38, 39, 40, 41, 42, 43, 44, 45, 46, 47, 48, 49, 50] (by decide +kernel) (by decide +kernel)) (goodIn_sub (fun _ h => List.mem_cons_of_mem _ (List.mem_append_left _ (List.mem_append_right _ h))) (by decide +kernel))
set_option maxRecDepth 20000 in
theorem gX11_supporter_X11_needPerson : GoodIn wsX11_supporter (wsV RX11 212 RX11 yX11_needPerson wsX11_needPerson) := goodIn_app (goodIn_of _ (by decide +kernel)) ggX11_supporter_X11_needPerson
set_option maxRecDepth 20000 in
theorem ggX11_supporter_X4_shownSupporter : GoodIn wsX11_supporter wsX4_shownSupporter := goodIn_ca (goodIn_r _ [17, 18, 19, 20, 21, 22, 23, 24, 25, 26, 27, 51, 52, 53, 54, 55, 56, 57, 42, 43, 44, 45, 46, 47, 48, 49, 50] (by decide +kernel) (by decide +kernel)) (goodIn_sub (fun _ h => List.mem_cons_of_mem _ (List.mem_append_right _ h)) (by decide +kernel))
set_option maxRecDepth 20000 in
theorem gX11_supporter_X4_shownSupporter : GoodIn wsX11_supporter (wsV RX11 419 RX4 yX4_shownSupporter wsX4_shownSupporter) := goodIn_app (goodIn_of _ (by decide +kernel)) ggX11_supporter_X4_shownSupporter
theorem dX11_supporter_0 : decode cX11_supporter 0 = .ok (.aload_n 0, 1) := by decide +kernel
theorem dX11_supporter_1 : decode cX11_supporter 1 = .ok (.iload_n 1, 1) := by decide +kernel
theorem dX11_supporter_2 : decode cX11_supporter 2 = .ok (.invokevirtual 212, 3) := by decide +kernel
theorem dX11_supporter_5 : decode cX11_supporter 5 = .ok (.aload_n 0, 1) := by decide +kernel
theorem dX11_supporter_6 : decode cX11_supporter 6 = .ok (.getfield 70, 3) := by decide +kernel
theorem dX11_supporter_9 : decode cX11_supporter 9 = .ok (.iload_n 1, 1) := by decide +kernel
theorem dX11_supporter_10 : decode cX11_supporter 10 = .ok (.iload_n 2, 1) := by decide +kernel
theorem dX11_supporter_11 : decode cX11_supporter 11 = .ok (.invokevirtual 419, 3) := by decide +kernel
theorem dX11_supporter_14 : decode cX11_supporter 14 = .ok (.istore_n 3, 1) := by decide +kernel
theorem dX11_supporter_15 : decode cX11_supporter 15 = .ok (.iload_n 3, 1) := by decide +kernel
theorem dX11_supporter_16 : decode cX11_supporter 16 = .ok (.ifCond .ne 14, 3) := by decide +kernel
theorem dX11_supporter_19 : decode cX11_supporter 19 = .ok (.new 156, 3) := by decide +kernel
theorem dX11_supporter_22 : decode cX11_supporter 22 = .ok (.dup, 1) := by decide +kernel
theorem dX11_supporter_23 : decode cX11_supporter 23 = .ok (.ldc_w 423, 3) := by decide +kernel
theorem dX11_supporter_26 : decode cX11_supporter 26 = .ok (.invokespecial 160, 3) := by decide +kernel
theorem dX11_supporter_29 : decode cX11_supporter 29 = .ok (.athrow, 1) := by decide +kernel
theorem dX11_supporter_30 : decode cX11_supporter 30 = .ok (.iload_n 3, 1) := by decide +kernel
theorem dX11_supporter_31 : decode cX11_supporter 31 = .ok (.ireturn, 1) := by decide +kernel
set_option maxRecDepth 20000 in
theorem ggX11_augment_X11_needArms : GoodIn wsX11_augment wsX11_needArms := goodIn_ca (goodIn_r _ [8, 9, 10, 3, 11, 180, 181, 182, 183, 184, 185, 186, 187, 188, 189, 190, 191, 192, 193, 194, 195, 196, 197, 198, 199, 200, 201, 202, 203, 204, 205] (by decide +kernel) (by decide +kernel)) (goodIn_sub (fun _ h => List.mem_cons_of_mem _ (List.mem_append_left _ (List.mem_append_left _ (List.mem_append_right _ h)))) (by decide +kernel))
set_option maxRecDepth 20000 in
theorem gX11_augment_X11_needArms : GoodIn wsX11_augment (wsV RX11 290 RX11 yX11_needArms wsX11_needArms) := goodIn_app (goodIn_of _ (by decide +kernel)) ggX11_augment_X11_needArms
set_option maxRecDepth 20000 in
theorem ggX11_augment_X11_needTincture : GoodIn wsX11_augment wsX11_needTincture := goodIn_ca (goodIn_r _ [15, 16, 17] (by decide +kernel) (by decide +kernel)) (goodIn_sub (fun _ h => List.mem_cons_of_mem _ (List.mem_append_left _ (List.mem_append_right _ h))) (by decide +kernel))
set_option maxRecDepth 20000 in
theorem gX11_augment_X11_needTincture : GoodIn wsX11_augment (wsV RX11 425 RX11 yX11_needTincture wsX11_needTincture) := goodIn_app (goodIn_of _ (by decide +kernel)) ggX11_augment_X11_needTincture
set_option maxRecDepth 20000 in
theorem ggX11_augment_X11_needCharge : GoodIn wsX11_augment wsX11_needCharge := goodIn_ca (goodIn_r _ [21, 16, 17] (by decide +kernel) (by decide +kernel)) (goodIn_sub (fun _ h => List.mem_cons_of_mem _ (List.mem_append_left _ (List.mem_append_right _ h))) (by decide +kernel))
set_option maxRecDepth 20000 in
theorem gX11_augment_X11_needCharge : GoodIn wsX11_augment (wsV RX11 404 RX11 yX11_needCharge wsX11_needCharge) := goodIn_app (goodIn_of _ (by decide +kernel)) ggX11_augment_X11_needCharge
set_option maxRecDepth 20000 in
theorem ggX11_augment_X9_isVoid : GoodIn wsX11_augment wsX9_isVoid := goodIn_ca (goodIn_r _ [26, 27, 28, 29, 30, 25, 31, 32, 194, 195, 196, 197, 198, 199, 200, 201, 202, 203, 204, 205] (by decide +kernel) (by decide +kernel)) (goodIn_sub (fun _ h => List.mem_cons_of_mem _ (List.mem_append_right _ h)) (by decide +kernel))
set_option maxRecDepth 20000 in
theorem gX11_augment_X9_isVoid : GoodIn wsX11_augment (wsV RX11 428 RX9 yX9_isVoid wsX9_isVoid) := goodIn_app (goodIn_of _ (by decide +kernel)) ggX11_augment_X9_isVoid
set_option maxRecDepth 20000 in
theorem ggX11_augment_X9_addHonour : GoodIn wsX11_augment wsX9_addHonour := goodIn_ca (goodIn_r _ [36, 37, 28, 29, 30, 25, 31, 32, 38, 39, 40, 41, 42, 43, 44, 45, 46, 47, 48, 49, 50, 51, 52, 53, 54, 55, 56, 57, 58, 59, 60, 61, 62, 63, 64, 65, 66, 67, 68, 69, 70, 71, 72, 73, 74, 75, 76, 77, 78, 79, 80, 81, 82, 83, 84, 85, 86, 87, 88, 89, 90, 91, 92, 93, 94, 95, 96, 97, 98, 99, 100, 101, 102, 103, 104, 105, 106, 107, 108, 109, 110, 111, 112, 113, 114, 115, 116, 117, 118, 119, 120, 121, 122, 123, 124, 125, 126, 127, 128, 129, 130, 131, 132, 133, 134, 135, 136, 137, 138, 139, 140, 141, 142, 143, 144, 145, 146, 147, 148, 149, 150, 151, 152, 153, 154, 155, 156, 157, 158, 159, 160, 161, 162, 163, 164, 165, 166, 167, 168, 169, 170, 171, 172, 173, 174, 175, 176, 177, 178, 179, 194, 195, 196, 197, 198, 199, 200, 201, 202, 203, 204, 205, 206, 207, 208, 209, 210, 211, 212, 213, 214, 215, 216, 217, 218, 219, 220, 221, 222, 223, 224, 225, 226, 227, 228, 229, 230, 231, 232, 233, 234, 235, 236, 237, 238, 239, 240, 241, 242, 243, 244, 245, 246, 247, 248] (by decide +kernel) (by decide +kernel)) (goodIn_sub (fun _ h => List.mem_cons_of_mem _ (List.mem_append_right _ h)) (by decide +kernel))
set_option maxRecDepth 20000 in
theorem gX11_augment_X9_addHonour : GoodIn wsX11_augment (wsV RX11 433 RX9 yX9_addHonour wsX9_addHonour) := goodIn_app (goodIn_of _ (by decide +kernel)) ggX11_augment_X9_addHonour
theorem dX11_augment_0 : decode cX11_augment 0 = .ok (.aload_n 0, 1) := by decide +kernel
theorem dX11_augment_1 : decode cX11_augment 1 = .ok (.iload_n 1, 1) := by decide +kernel
theorem dX11_augment_2 : decode cX11_augment 2 = .ok (.invokevirtual 290, 3) := by decide +kernel
theorem dX11_augment_5 : decode cX11_augment 5 = .ok (.aload_n 0, 1) := by decide +kernel
theorem dX11_augment_6 : decode cX11_augment 6 = .ok (.iload_n 2, 1) := by decide +kernel
theorem dX11_augment_7 : decode cX11_augment 7 = .ok (.invokevirtual 425, 3) := by decide +kernel
theorem dX11_augment_10 : decode cX11_augment 10 = .ok (.aload_n 0, 1) := by decide +kernel
theorem dX11_augment_11 : decode cX11_augment 11 = .ok (.iload 4, 2) := by decide +kernel
theorem dX11_augment_13 : decode cX11_augment 13 = .ok (.invokevirtual 425, 3) := by decide +kernel
theorem dX11_augment_16 : decode cX11_augment 16 = .ok (.aload_n 0, 1) := by decide +kernel
theorem dX11_augment_17 : decode cX11_augment 17 = .ok (.iload_n 3, 1) := by decide +kernel
theorem dX11_augment_18 : decode cX11_augment 18 = .ok (.invokevirtual 404, 3) := by decide +kernel
theorem dX11_augment_21 : decode cX11_augment 21 = .ok (.aload_n 0, 1) := by decide +kernel
theorem dX11_augment_22 : decode cX11_augment 22 = .ok (.getfield 52, 3) := by decide +kernel
theorem dX11_augment_25 : decode cX11_augment 25 = .ok (.iload_n 1, 1) := by decide +kernel
theorem dX11_augment_26 : decode cX11_augment 26 = .ok (.invokevirtual 428, 3) := by decide +kernel
theorem dX11_augment_29 : decode cX11_augment 29 = .ok (.ifCond .eq 14, 3) := by decide +kernel
theorem dX11_augment_32 : decode cX11_augment 32 = .ok (.new 219, 3) := by decide +kernel
theorem dX11_augment_35 : decode cX11_augment 35 = .ok (.dup, 1) := by decide +kernel
theorem dX11_augment_36 : decode cX11_augment 36 = .ok (.ldc_w 431, 3) := by decide +kernel
theorem dX11_augment_39 : decode cX11_augment 39 = .ok (.invokespecial 223, 3) := by decide +kernel
theorem dX11_augment_42 : decode cX11_augment 42 = .ok (.athrow, 1) := by decide +kernel
theorem dX11_augment_43 : decode cX11_augment 43 = .ok (.aload_n 0, 1) := by decide +kernel
theorem dX11_augment_44 : decode cX11_augment 44 = .ok (.getfield 52, 3) := by decide +kernel
theorem dX11_augment_47 : decode cX11_augment 47 = .ok (.iload_n 1, 1) := by decide +kernel
theorem dX11_augment_48 : decode cX11_augment 48 = .ok (.iload_n 2, 1) := by decide +kernel
theorem dX11_augment_49 : decode cX11_augment 49 = .ok (.iload_n 3, 1) := by decide +kernel
theorem dX11_augment_50 : decode cX11_augment 50 = .ok (.iload 4, 2) := by decide +kernel
theorem dX11_augment_52 : decode cX11_augment 52 = .ok (.invokevirtual 433, 3) := by decide +kernel
theorem dX11_augment_55 : decode cX11_augment 55 = .ok (.ireturn, 1) := by decide +kernel
set_option maxRecDepth 20000 in
theorem ggX11_abate_X11_needPerson : GoodIn wsX11_abate wsX11_needPerson := goodIn_ca (goodIn_r _ [6, 7, 8, 9, 10, 24, 25, 26, 27, 28, 29, 30, 31, 32, 33, 34, 35, 36, 37, 38, 39, 40, 41, 42, 43, 44, 45, 46] (by decide +kernel) (by decide +kernel)) (goodIn_sub (fun _ h => List.mem_cons_of_mem _ (List.mem_append_left _ (List.mem_append_right _ h))) (by decide +kernel))
set_option maxRecDepth 20000 in
theorem gX11_abate_X11_needPerson : GoodIn wsX11_abate (wsV RX11 212 RX11 yX11_needPerson wsX11_needPerson) := goodIn_app (goodIn_of _ (by decide +kernel)) ggX11_abate_X11_needPerson
set_option maxRecDepth 20000 in
theorem ggX11_abate_X4_exchangeAbated : GoodIn wsX11_abate wsX4_exchangeAbated := goodIn_ca (goodIn_r _ [15, 16, 17, 18, 19, 20, 21, 22, 23, 47, 48, 49, 50, 51, 52, 53, 38, 39, 40, 41, 42, 43, 44, 45, 46] (by decide +kernel) (by decide +kernel)) (goodIn_sub (fun _ h => List.mem_cons_of_mem _ (List.mem_append_right _ h)) (by decide +kernel))
set_option maxRecDepth 20000 in
theorem gX11_abate_X4_exchangeAbated : GoodIn wsX11_abate (wsV RX11 437 RX4 yX4_exchangeAbated wsX4_exchangeAbated) := goodIn_app (goodIn_of _ (by decide +kernel)) ggX11_abate_X4_exchangeAbated
theorem dX11_abate_0 : decode cX11_abate 0 = .ok (.aload_n 0, 1) := by decide +kernel
theorem dX11_abate_1 : decode cX11_abate 1 = .ok (.iload_n 1, 1) := by decide +kernel
theorem dX11_abate_2 : decode cX11_abate 2 = .ok (.invokevirtual 212, 3) := by decide +kernel
theorem dX11_abate_5 : decode cX11_abate 5 = .ok (.aload_n 0, 1) := by decide +kernel
theorem dX11_abate_6 : decode cX11_abate 6 = .ok (.getfield 70, 3) := by decide +kernel
theorem dX11_abate_9 : decode cX11_abate 9 = .ok (.iload_n 1, 1) := by decide +kernel
theorem dX11_abate_10 : decode cX11_abate 10 = .ok (.iload_n 2, 1) := by decide +kernel
theorem dX11_abate_11 : decode cX11_abate 11 = .ok (.invokevirtual 437, 3) := by decide +kernel
theorem dX11_abate_14 : decode cX11_abate 14 = .ok (.ireturn, 1) := by decide +kernel
theorem dX11_year_0 : decode cX11_year 0 = .ok (.aload_n 0, 1) := by decide +kernel
theorem dX11_year_1 : decode cX11_year 1 = .ok (.getfield 207, 3) := by decide +kernel
theorem dX11_year_4 : decode cX11_year 4 = .ok (.ireturn, 1) := by decide +kernel
theorem dX11_persons_0 : decode cX11_persons 0 = .ok (.aload_n 0, 1) := by decide +kernel
theorem dX11_persons_1 : decode cX11_persons 1 = .ok (.getfield 45, 3) := by decide +kernel
theorem dX11_persons_4 : decode cX11_persons 4 = .ok (.getfield 224, 3) := by decide +kernel
theorem dX11_persons_7 : decode cX11_persons 7 = .ok (.ireturn, 1) := by decide +kernel
theorem dX11_arms_0 : decode cX11_arms 0 = .ok (.aload_n 0, 1) := by decide +kernel
theorem dX11_arms_1 : decode cX11_arms 1 = .ok (.getfield 52, 3) := by decide +kernel
theorem dX11_arms_4 : decode cX11_arms 4 = .ok (.getfield 441, 3) := by decide +kernel
theorem dX11_arms_7 : decode cX11_arms 7 = .ok (.ireturn, 1) := by decide +kernel
set_option maxRecDepth 20000 in
theorem ggX11_allPoints_X9_weighAll : GoodIn wsX11_allPoints wsX9_weighAll := goodIn_ca (goodIn_r _ [6, 7, 8, 9, 10, 11, 12, 27, 28, 29, 30, 31, 32, 33, 34, 35, 36, 37, 38] (by decide +kernel) (by decide +kernel)) (goodIn_sub (fun _ h => List.mem_cons_of_mem _ (List.mem_append_right _ h)) (by decide +kernel))
set_option maxRecDepth 20000 in
theorem gX11_allPoints_X9_weighAll : GoodIn wsX11_allPoints (wsV RX11 442 RX9 yX9_weighAll wsX9_weighAll) := goodIn_app (goodIn_of _ (by decide +kernel)) ggX11_allPoints_X9_weighAll
theorem dX11_allPoints_0 : decode cX11_allPoints 0 = .ok (.aload_n 0, 1) := by decide +kernel
theorem dX11_allPoints_1 : decode cX11_allPoints 1 = .ok (.getfield 52, 3) := by decide +kernel
theorem dX11_allPoints_4 : decode cX11_allPoints 4 = .ok (.invokevirtual 442, 3) := by decide +kernel
theorem dX11_allPoints_7 : decode cX11_allPoints 7 = .ok (.lreturn, 1) := by decide +kernel
set_option maxRecDepth 20000 in
theorem ggX11_armigerShare_X5_countLiving : GoodIn wsX11_armigerShare wsX5_countLiving := goodIn_r _ [9, 10, 11, 43, 44, 45, 46, 47, 48, 49, 50, 51] (by decide +kernel) (by decide +kernel)
set_option maxRecDepth 20000 in
theorem gX11_armigerShare_X5_countLiving : GoodIn wsX11_armigerShare (wsV RX11 446 RX5 yX5_countLiving wsX5_countLiving) := goodIn_app (goodIn_of _ (by decide +kernel)) ggX11_armigerShare_X5_countLiving
set_option maxRecDepth 20000 in
theorem ggX11_armigerShare_X0_countArmigers : GoodIn wsX11_armigerShare wsX0_countArmigers := goodIn_ca (goodIn_r _ [16, 17, 18, 19, 20, 21, 22, 8, 23, 24, 25, 26, 27, 28, 10, 52, 53, 54, 55, 56, 57, 58, 59, 60, 61, 62, 43, 44, 45, 46, 47, 48, 49, 50, 51] (by decide +kernel) (by decide +kernel)) (goodIn_sub (fun _ h => List.mem_cons_of_mem _ (List.mem_append_right _ h)) (by decide +kernel))
set_option maxRecDepth 20000 in
theorem gX11_armigerShare_X0_countArmigers : GoodIn wsX11_armigerShare (wsV RX11 454 RX0 yX0_countArmigers wsX0_countArmigers) := goodIn_app (goodIn_of _ (by decide +kernel)) ggX11_armigerShare_X0_countArmigers
theorem dX11_armigerShare_0 : decode cX11_armigerShare 0 = .ok (.aload_n 0, 1) := by decide +kernel
theorem dX11_armigerShare_1 : decode cX11_armigerShare 1 = .ok (.getfield 45, 3) := by decide +kernel
theorem dX11_armigerShare_4 : decode cX11_armigerShare 4 = .ok (.invokevirtual 446, 3) := by decide +kernel
theorem dX11_armigerShare_7 : decode cX11_armigerShare 7 = .ok (.istore_n 1, 1) := by decide +kernel
theorem dX11_armigerShare_8 : decode cX11_armigerShare 8 = .ok (.iload_n 1, 1) := by decide +kernel
theorem dX11_armigerShare_9 : decode cX11_armigerShare 9 = .ok (.ifCond .ne 14, 3) := by decide +kernel
theorem dX11_armigerShare_12 : decode cX11_armigerShare 12 = .ok (.new 449, 3) := by decide +kernel
theorem dX11_armigerShare_15 : decode cX11_armigerShare 15 = .ok (.dup, 1) := by decide +kernel
theorem dX11_armigerShare_16 : decode cX11_armigerShare 16 = .ok (.ldc_w 451, 3) := by decide +kernel
theorem dX11_armigerShare_19 : decode cX11_armigerShare 19 = .ok (.invokespecial 453, 3) := by decide +kernel
theorem dX11_armigerShare_22 : decode cX11_armigerShare 22 = .ok (.athrow, 1) := by decide +kernel
theorem dX11_armigerShare_23 : decode cX11_armigerShare 23 = .ok (.aload_n 0, 1) := by decide +kernel
theorem dX11_armigerShare_24 : decode cX11_armigerShare 24 = .ok (.getfield 61, 3) := by decide +kernel
theorem dX11_armigerShare_27 : decode cX11_armigerShare 27 = .ok (.invokevirtual 454, 3) := by decide +kernel
theorem dX11_armigerShare_30 : decode cX11_armigerShare 30 = .ok (.i2f, 1) := by decide +kernel
theorem dX11_armigerShare_31 : decode cX11_armigerShare 31 = .ok (.iload_n 1, 1) := by decide +kernel
theorem dX11_armigerShare_32 : decode cX11_armigerShare 32 = .ok (.i2f, 1) := by decide +kernel
theorem dX11_armigerShare_33 : decode cX11_armigerShare 33 = .ok (.fdiv, 1) := by decide +kernel
theorem dX11_armigerShare_34 : decode cX11_armigerShare 34 = .ok (.freturn, 1) := by decide +kernel
set_option maxRecDepth 20000 in
theorem ggX11_meanWords_X9_countWords : GoodIn wsX11_meanWords wsX9_countWords := goodIn_r _ [9, 10, 11, 12, 27, 28, 29, 30, 31, 32, 33, 34, 35, 36, 37, 38, 39, 40, 41, 42, 43, 44, 45, 46, 47, 48, 49, 50] (by decide +kernel) (by decide +kernel)
set_option maxRecDepth 20000 in
theorem gX11_meanWords_X9_countWords : GoodIn wsX11_meanWords (wsV RX11 457 RX9 yX9_countWords wsX9_countWords) := goodIn_app (goodIn_of _ (by decide +kernel)) ggX11_meanWords_X9_countWords
theorem dX11_meanWords_0 : decode cX11_meanWords 0 = .ok (.aload_n 0, 1) := by decide +kernel
theorem dX11_meanWords_1 : decode cX11_meanWords 1 = .ok (.getfield 52, 3) := by decide +kernel
theorem dX11_meanWords_4 : decode cX11_meanWords 4 = .ok (.getfield 441, 3) := by decide +kernel
theorem dX11_meanWords_7 : decode cX11_meanWords 7 = .ok (.ifCond .ne 14, 3) := by decide +kernel
theorem dX11_meanWords_10 : decode cX11_meanWords 10 = .ok (.new 449, 3) := by decide +kernel
theorem dX11_meanWords_13 : decode cX11_meanWords 13 = .ok (.dup, 1) := by decide +kernel
theorem dX11_meanWords_14 : decode cX11_meanWords 14 = .ok (.ldc_w 355, 3) := by decide +kernel
theorem dX11_meanWords_17 : decode cX11_meanWords 17 = .ok (.invokespecial 453, 3) := by decide +kernel
theorem dX11_meanWords_20 : decode cX11_meanWords 20 = .ok (.athrow, 1) := by decide +kernel
theorem dX11_meanWords_21 : decode cX11_meanWords 21 = .ok (.aload_n 0, 1) := by decide +kernel
theorem dX11_meanWords_22 : decode cX11_meanWords 22 = .ok (.getfield 52, 3) := by decide +kernel
theorem dX11_meanWords_25 : decode cX11_meanWords 25 = .ok (.invokevirtual 457, 3) := by decide +kernel
theorem dX11_meanWords_28 : decode cX11_meanWords 28 = .ok (.i2d, 1) := by decide +kernel
theorem dX11_meanWords_29 : decode cX11_meanWords 29 = .ok (.aload_n 0, 1) := by decide +kernel
theorem dX11_meanWords_30 : decode cX11_meanWords 30 = .ok (.getfield 52, 3) := by decide +kernel
theorem dX11_meanWords_33 : decode cX11_meanWords 33 = .ok (.getfield 441, 3) := by decide +kernel
theorem dX11_meanWords_36 : decode cX11_meanWords 36 = .ok (.i2d, 1) := by decide +kernel
theorem dX11_meanWords_37 : decode cX11_meanWords 37 = .ok (.ddiv, 1) := by decide +kernel
theorem dX11_meanWords_38 : decode cX11_meanWords 38 = .ok (.dreturn, 1) := by decide +kernel
set_option maxRecDepth 20000 in
theorem ggX11_isSound_X11_areToldBack : GoodIn wsX11_isSound wsX11_areToldBack := goodIn_ca (goodIn_r _ [7, 8, 9, 10, 11, 12, 13, 14, 15, 16, 17, 18, 19, 20, 21, 22, 23, 24, 25, 26, 27, 28, 29, 30, 31, 32, 33, 34, 35, 36, 37, 38, 39, 40, 41, 42, 43, 44, 45, 46, 47, 48, 49, 50, 51, 52, 53, 54, 55, 56, 57, 58, 59, 60, 61, 62, 63, 64, 65, 66, 67, 68, 69, 70, 71, 72, 73, 74, 75, 76, 77, 78, 79, 80, 81, 82, 83, 84, 85, 86, 87, 88, 89, 90, 91, 92, 93, 94, 95, 96, 97, 98, 99, 100, 101, 102, 103, 104, 105, 106, 107, 108, 109, 110, 111, 112, 113, 114, 115, 116, 117, 118, 119, 120, 121, 122, 123, 124, 125, 126, 127, 128, 129, 130, 131, 132, 133, 134, 135, 136, 137, 138, 139, 140, 141, 142, 143, 144, 145, 146, 147, 148, 149, 150, 151, 152, 153, 154, 155, 156, 157, 158, 159, 160, 161, 162, 163, 164, 165, 166, 167, 168, 169, 170, 171, 172, 173, 174, 175, 176, 177, 178, 179, 180, 181, 182, 183, 184, 185, 186, 187, 188, 189, 190, 191, 192, 193, 194, 195, 196, 197, 198, 199, 200, 201, 202, 203, 204, 205, 206, 207, 208, 209, 210, 211, 212, 213, 214, 215, 216, 217, 218, 219, 220, 221, 222, 223, 224, 225, 226, 227, 228, 229, 230, 231, 232, 233, 234, 235, 236, 237, 238, 239, 240, 241, 242, 243, 244, 245, 246, 247, 248, 249, 250, 251, 252, 253, 254, 255, 256, 257, 258, 259, 260, 261, 262, 263, 264, 265, 266, 267, 268, 269, 270, 271, 272, 273, 274, 275, 276, 277, 278, 279, 280, 281, 282, 283, 284, 285, 286, 287, 288, 289, 290, 291, 292, 293, 294, 295, 296, 297, 298, 299, 300, 301, 302, 303, 304, 305, 306, 307, 308, 309, 310, 311, 312, 313, 314, 315, 316, 317, 318, 319, 320, 321, 322, 323, 324, 412, 413, 414, 415, 416, 417, 418, 419, 420, 421, 422, 423, 424, 425, 426, 427, 428, 429, 430, 431, 432, 433, 434, 435, 436, 437, 438, 439, 440, 441, 442, 443, 444, 445, 446, 447, 448, 449, 450, 451, 452, 453, 454, 455, 456, 457, 458, 459, 460, 461, 462, 463, 464, 465, 466, 467, 468, 469, 470, 471, 472, 473, 474, 475, 476, 477, 478, 479, 480, 481, 482, 483, 484, 485, 486, 487, 488, 489, 490, 491] (by decide +kernel) (by decide +kernel)) (goodIn_sub (fun _ h => List.mem_cons_of_mem _ (List.mem_append_right _ h)) (by decide +kernel))
set_option maxRecDepth 20000 in
theorem gX11_isSound_X11_areToldBack : GoodIn wsX11_isSound (wsV RX11 460 RX11 yX11_areToldBack wsX11_areToldBack) := goodIn_app (goodIn_of _ (by decide +kernel)) ggX11_isSound_X11_areToldBack
set_option maxRecDepth 20000 in
theorem ggX11_isSound_X11_areSoughtBack : GoodIn wsX11_isSound wsX11_areSoughtBack := goodIn_ca (goodIn_r _ [328, 8, 9, 329, 23, 24, 25, 15, 26, 27, 28, 29, 30, 31, 18, 19, 20, 21, 22, 330, 331, 332, 333, 334, 335, 336, 337, 338, 339, 340, 341, 342, 49, 343, 344, 345, 51, 52, 346, 53, 54, 114, 116, 347, 348, 349, 350, 351, 55, 56, 57, 58, 59, 60, 61, 62, 63, 64, 65, 66, 67, 68, 69, 70, 71, 72, 73, 74, 75, 76, 77, 78, 79, 80, 81, 82, 83, 84, 85, 86, 87, 88, 89, 90, 91, 92, 93, 94, 95, 96, 97, 98, 99, 100, 101, 102, 103, 104, 105, 106, 107, 108, 109, 110, 111, 112, 113, 115, 117, 118, 119, 120, 121, 122, 123, 124, 125, 126, 127, 128, 129, 130, 131, 132, 133, 134, 135, 136, 137, 138, 139, 140, 141, 142, 143, 144, 145, 146, 147, 148, 149, 150, 151, 152, 153, 154, 155, 156, 157, 158, 159, 160, 161, 162, 163, 164, 165, 352, 353, 354, 355, 356, 357, 358, 359, 360, 361, 362, 363, 364, 234, 235, 236, 237, 238, 239, 240, 241, 242, 243, 244, 245, 412, 413, 414, 415, 416, 417, 418, 419, 420, 421, 422, 423, 424, 425, 426, 427, 428, 429, 430, 431, 432, 433, 434, 435, 436, 437, 466, 467, 468, 469, 470, 471, 472, 473, 474, 475, 476, 477, 478, 449, 450, 451, 452, 453, 454, 455, 456, 457, 458, 459, 460, 479, 480, 481, 482, 483, 484, 485, 486, 487, 488, 489, 490, 491, 461, 462, 463, 464, 465] (by decide +kernel) (by decide +kernel)) (goodIn_sub (fun _ h => List.mem_cons_of_mem _ (List.mem_append_right _ h)) (by decide +kernel))
set_option maxRecDepth 20000 in
theorem gX11_isSound_X11_areSoughtBack : GoodIn wsX11_isSound (wsV RX11 464 RX11 yX11_areSoughtBack wsX11_areSoughtBack) := goodIn_app (goodIn_of _ (by decide +kernel)) ggX11_isSound_X11_areSoughtBack
set_option maxRecDepth 20000 in
theorem ggX11_isSound_X6_areProved : GoodIn wsX11_isSound wsX6_areProved := goodIn_ca (goodIn_r _ [369, 370, 371, 372, 373, 374, 375, 376, 377, 378, 379, 380, 381, 382, 383, 384, 385, 386, 387, 388, 389, 390, 391, 392, 393, 394, 395, 396, 397, 398, 399, 400, 492, 493, 494, 495, 496, 497, 498, 499, 500, 501, 502, 503, 504, 505, 506, 507, 508, 509, 510, 511, 512, 513, 514, 515, 516, 517, 518, 519, 520, 521] (by decide +kernel) (by decide +kernel)) (goodIn_sub (fun _ h => List.mem_cons_of_mem _ (List.mem_append_right _ h)) (by decide +kernel))
set_option maxRecDepth 20000 in
theorem gX11_isSound_X6_areProved : GoodIn wsX11_isSound (wsV RX11 467 RX6 yX6_areProved wsX6_areProved) := goodIn_app (goodIn_of _ (by decide +kernel)) ggX11_isSound_X6_areProved
set_option maxRecDepth 20000 in
theorem ggX11_isSound_X0_areVoidUnborne : GoodIn wsX11_isSound wsX0_areVoidUnborne := goodIn_ca (goodIn_r _ [404, 398, 405, 399, 406, 407, 408, 409, 15, 410, 411, 18, 19, 20, 21, 22, 511, 512, 513, 514, 515, 516, 517, 518, 519, 520, 521, 502, 503, 504, 505, 506, 507, 508, 509, 510, 426, 427, 428, 429, 430, 431, 432, 433, 434, 435, 436, 437] (by decide +kernel) (by decide +kernel)) (goodIn_sub (fun _ h => List.mem_cons_of_mem _ (List.mem_append_right _ h)) (by decide +kernel))
set_option maxRecDepth 20000 in
theorem gX11_isSound_X0_areVoidUnborne : GoodIn wsX11_isSound (wsV RX11 470 RX0 yX0_areVoidUnborne wsX0_areVoidUnborne) := goodIn_app (goodIn_of _ (by decide +kernel)) ggX11_isSound_X0_areVoidUnborne
theorem dX11_isSound_0 : decode cX11_isSound 0 = .ok (.aload_n 0, 1) := by decide +kernel
theorem dX11_isSound_1 : decode cX11_isSound 1 = .ok (.invokevirtual 460, 3) := by decide +kernel
theorem dX11_isSound_4 : decode cX11_isSound 4 = .ok (.ifCond .eq 34, 3) := by decide +kernel
theorem dX11_isSound_7 : decode cX11_isSound 7 = .ok (.aload_n 0, 1) := by decide +kernel
theorem dX11_isSound_8 : decode cX11_isSound 8 = .ok (.invokevirtual 464, 3) := by decide +kernel
theorem dX11_isSound_11 : decode cX11_isSound 11 = .ok (.ifCond .eq 27, 3) := by decide +kernel
theorem dX11_isSound_14 : decode cX11_isSound 14 = .ok (.aload_n 0, 1) := by decide +kernel
theorem dX11_isSound_15 : decode cX11_isSound 15 = .ok (.getfield 79, 3) := by decide +kernel
theorem dX11_isSound_18 : decode cX11_isSound 18 = .ok (.invokevirtual 467, 3) := by decide +kernel
theorem dX11_isSound_21 : decode cX11_isSound 21 = .ok (.ifCond .eq 17, 3) := by decide +kernel
theorem dX11_isSound_24 : decode cX11_isSound 24 = .ok (.aload_n 0, 1) := by decide +kernel
theorem dX11_isSound_25 : decode cX11_isSound 25 = .ok (.getfield 61, 3) := by decide +kernel
theorem dX11_isSound_28 : decode cX11_isSound 28 = .ok (.invokevirtual 470, 3) := by decide +kernel
theorem dX11_isSound_31 : decode cX11_isSound 31 = .ok (.ifCond .eq 7, 3) := by decide +kernel
theorem dX11_isSound_34 : decode cX11_isSound 34 = .ok (.iconst 1, 1) := by decide +kernel
theorem dX11_isSound_35 : decode cX11_isSound 35 = .ok (.goto 4, 3) := by decide +kernel
theorem dX11_isSound_38 : decode cX11_isSound 38 = .ok (.iconst 0, 1) := by decide +kernel
theorem dX11_isSound_39 : decode cX11_isSound 39 = .ok (.ireturn, 1) := by decide +kernel
set_option maxRecDepth 20000 in
theorem ggX11_settle_X0_settle : GoodIn wsX11_settle wsX0_settle := goodIn_ca (goodIn_r _ [7, 8, 9, 10, 11, 12, 13, 14, 15, 16, 6, 17, 18, 19, 20, 21, 22, 23, 24, 25, 26, 27, 28, 29, 30, 31, 32, 33, 34, 35, 36, 37, 38, 39, 40, 41, 42, 43, 44, 45, 46, 47, 48, 49, 50, 51, 52, 53, 54, 55, 56, 57, 58, 59, 60, 61, 62, 63, 64, 65, 66, 67, 68, 69, 70, 71, 72, 73, 74, 75, 76, 77, 78, 79, 80, 81, 82, 83, 84, 85, 86, 87, 88, 89, 90, 91, 92, 93, 94, 95, 96, 97, 98, 99, 100, 101, 102, 103, 104, 105, 106, 107, 108, 109, 110, 111, 112, 113, 114, 115, 116, 117, 118, 119, 120, 121, 122, 123, 124, 125, 126, 127, 128, 178, 179, 180, 181, 182, 183, 184, 185, 186, 187, 188, 189, 190, 191, 192, 193, 194, 195, 196, 197, 198, 199, 200, 201, 202, 203, 204, 205, 206, 207, 208, 209] (by decide +kernel) (by decide +kernel)) (goodIn_sub (fun _ h => List.mem_cons_of_mem _ (List.mem_append_right _ h)) (by decide +kernel))
set_option maxRecDepth 20000 in
theorem gX11_settle_X0_settle : GoodIn wsX11_settle (wsV RX11 473 RX0 yX0_settle wsX0_settle) := goodIn_app (goodIn_of _ (by decide +kernel)) ggX11_settle_X0_settle
set_option maxRecDepth 20000 in
theorem ggX11_settle_X6_settle : GoodIn wsX11_settle wsX6_settle := goodIn_ca (goodIn_r _ [133, 134, 135, 136, 137, 138, 139, 140, 6, 141, 10, 12, 72, 48, 49, 44, 50, 51, 142, 143, 144, 132, 145, 146, 147, 148, 149, 113, 114, 115, 66, 47, 150, 151, 152, 153, 154, 155, 156, 157, 158, 159, 160, 161, 162, 163, 108, 109, 110, 111, 46, 56, 61, 52, 53, 54, 55, 210, 211, 212, 213, 214, 215, 216, 217, 218, 219, 201, 202, 203, 204, 205, 206, 207, 208, 209, 178, 179, 180, 181, 182, 183, 184, 185, 186, 187, 188] (by decide +kernel) (by decide +kernel)) (goodIn_sub (fun _ h => List.mem_cons_of_mem _ (List.mem_append_right _ h)) (by decide +kernel))
set_option maxRecDepth 20000 in
theorem gX11_settle_X6_settle : GoodIn wsX11_settle (wsV RX11 474 RX6 yX6_settle wsX6_settle) := goodIn_app (goodIn_of _ (by decide +kernel)) ggX11_settle_X6_settle
theorem dX11_settle_0 : decode cX11_settle 0 = .ok (.aload_n 0, 1) := by decide +kernel
theorem dX11_settle_1 : decode cX11_settle 1 = .ok (.getfield 61, 3) := by decide +kernel
theorem dX11_settle_4 : decode cX11_settle 4 = .ok (.invokevirtual 473, 3) := by decide +kernel
theorem dX11_settle_7 : decode cX11_settle 7 = .ok (.aload_n 0, 1) := by decide +kernel
theorem dX11_settle_8 : decode cX11_settle 8 = .ok (.getfield 79, 3) := by decide +kernel
theorem dX11_settle_11 : decode cX11_settle 11 = .ok (.invokevirtual 474, 3) := by decide +kernel
theorem dX11_settle_14 : decode cX11_settle 14 = .ok (.return_, 1) := by decide +kernel
theorem dX11_forgetRow_0 : decode cX11_forgetRow 0 = .ok (.aload_n 0, 1) := by decide +kernel
theorem dX11_forgetRow_1 : decode cX11_forgetRow 1 = .ok (.iconst 0, 1) := by decide +kernel
theorem dX11_forgetRow_2 : decode cX11_forgetRow 2 = .ok (.putfield 475, 3) := by decide +kernel
theorem dX11_forgetRow_5 : decode cX11_forgetRow 5 = .ok (.aload_n 0, 1) := by decide +kernel
theorem dX11_forgetRow_6 : decode cX11_forgetRow 6 = .ok (.iconst 0, 1) := by decide +kernel
theorem dX11_forgetRow_7 : decode cX11_forgetRow 7 = .ok (.putfield 479, 3) := by decide +kernel
theorem dX11_forgetRow_10 : decode cX11_forgetRow 10 = .ok (.return_, 1) := by decide +kernel
set_option maxRecDepth 20000 in
theorem ggX11_emptyRow_X1_clear : GoodIn wsX11_emptyRow wsX1_clear := goodIn_r _ [6, 7, 113, 114, 115, 116, 117, 118, 119, 120, 121, 122, 123, 124] (by decide +kernel) (by decide +kernel)
set_option maxRecDepth 20000 in
theorem gX11_emptyRow_X1_clear : GoodIn wsX11_emptyRow (wsV RX11 482 RX1 yX1_clear wsX1_clear) := goodIn_app (goodIn_of _ (by decide +kernel)) ggX11_emptyRow_X1_clear
set_option maxRecDepth 20000 in
theorem ggX11_emptyRow_X1_read : GoodIn wsX11_emptyRow wsX1_read := goodIn_ca (goodIn_r _ [11, 12, 13, 14, 15, 16, 17, 18, 19, 20, 7, 21, 22, 23, 24, 25, 26, 27, 28, 5, 29, 30, 31, 32, 33, 34, 35, 36, 37, 38, 39, 40, 41, 42, 43, 44, 45, 46, 47, 48, 49, 50, 51, 52, 53, 54, 55, 56, 57, 58, 59, 60, 61, 62, 63, 64, 65, 66, 67, 68, 69, 70, 71, 72, 73, 74, 75, 76, 77, 78, 79, 80, 81, 82, 83, 84, 85, 86, 87, 88, 89, 90, 91, 113, 114, 115, 116, 117, 118, 119, 120, 121, 122, 123, 124, 125, 126, 127, 128, 129, 130, 131, 132, 133, 134, 135, 136, 137] (by decide +kernel) (by decide +kernel)) (goodIn_sub (fun _ h => List.mem_cons_of_mem _ (List.mem_append_right _ h)) (by decide +kernel))
set_option maxRecDepth 20000 in
theorem gX11_emptyRow_X1_read : GoodIn wsX11_emptyRow (wsV RX11 92 RX1 yX1_read wsX1_read) := goodIn_app (goodIn_of _ (by decide +kernel)) ggX11_emptyRow_X1_read
set_option maxRecDepth 20000 in
theorem ggX11_emptyRow_X11_forgetRow : GoodIn wsX11_emptyRow wsX11_forgetRow := goodIn_r _ [96, 97, 98, 99, 100, 101, 102, 103, 104, 105, 106, 107, 108, 109, 110, 111, 112] (by decide +kernel) (by decide +kernel)
set_option maxRecDepth 20000 in
theorem gX11_emptyRow_X11_forgetRow : GoodIn wsX11_emptyRow (wsV RX11 115 RX11 yX11_forgetRow wsX11_forgetRow) := goodIn_app (goodIn_of _ (by decide +kernel)) ggX11_emptyRow_X11_forgetRow
theorem dX11_emptyRow_0 : decode cX11_emptyRow 0 = .ok (.aload_n 0, 1) := by decide +kernel
theorem dX11_emptyRow_1 : decode cX11_emptyRow 1 = .ok (.getfield 19, 3) := by decide +kernel
theorem dX11_emptyRow_4 : decode cX11_emptyRow 4 = .ok (.invokevirtual 482, 3) := by decide +kernel
theorem dX11_emptyRow_7 : decode cX11_emptyRow 7 = .ok (.aload_n 0, 1) := by decide +kernel
theorem dX11_emptyRow_8 : decode cX11_emptyRow 8 = .ok (.getfield 19, 3) := by decide +kernel
theorem dX11_emptyRow_11 : decode cX11_emptyRow 11 = .ok (.invokevirtual 92, 3) := by decide +kernel
theorem dX11_emptyRow_14 : decode cX11_emptyRow 14 = .ok (.aload_n 0, 1) := by decide +kernel
theorem dX11_emptyRow_15 : decode cX11_emptyRow 15 = .ok (.invokevirtual 115, 3) := by decide +kernel
theorem dX11_emptyRow_18 : decode cX11_emptyRow 18 = .ok (.return_, 1) := by decide +kernel
set_option maxRecDepth 20000 in
theorem ggX11_drawRow_X7_paintBlazon : GoodIn wsX11_drawRow wsX7_paintBlazon := goodIn_ca (goodIn_r _ [10, 11, 12, 13, 14, 15, 16, 17, 9, 18, 19, 20, 21, 22, 23, 24, 25, 26, 27, 28, 29, 30, 31, 32, 33, 34, 35, 36, 37, 38, 39, 40, 41, 42, 43, 44, 45, 46, 47, 48, 49, 50, 51, 52, 53, 54, 55, 56, 57, 58, 59, 60, 61, 62, 63, 64, 65, 66, 67, 68, 69, 70, 71, 72, 73, 74, 75, 76, 77, 78, 79, 80, 81, 82, 83, 84, 85, 86, 87, 88, 89, 90, 91, 92, 93, 94, 95, 96, 97, 98, 99, 100, 101, 102, 103, 104, 105, 106, 107, 108, 109, 110, 111, 112, 113, 114, 115, 116, 117, 118, 119, 120, 121, 122, 123, 124, 125, 140, 141, 142, 143, 144, 145, 146, 147, 148, 149, 150, 151, 152, 153, 154, 155, 156, 157, 158, 159, 160, 161, 162, 163, 164, 165, 166, 167, 168, 169, 170, 171, 172, 173, 174, 175, 176, 177, 178, 179, 180, 181, 182] (by decide +kernel) (by decide +kernel)) (goodIn_sub (fun _ h => List.mem_cons_of_mem _ (List.mem_append_right _ h)) (by decide +kernel))
set_option maxRecDepth 20000 in
theorem gX11_drawRow_X7_paintBlazon : GoodIn wsX11_drawRow (wsV RX11 488 RX7 yX7_paintBlazon wsX7_paintBlazon) := goodIn_app (goodIn_of _ (by decide +kernel)) ggX11_drawRow_X7_paintBlazon
theorem dX11_drawRow_0 : decode cX11_drawRow 0 = .ok (.aload_n 0, 1) := by decide +kernel
theorem dX11_drawRow_1 : decode cX11_drawRow 1 = .ok (.getfield 475, 3) := by decide +kernel
theorem dX11_drawRow_4 : decode cX11_drawRow 4 = .ok (.ifCond .ne 30, 3) := by decide +kernel
theorem dX11_drawRow_7 : decode cX11_drawRow 7 = .ok (.aload_n 0, 1) := by decide +kernel
theorem dX11_drawRow_8 : decode cX11_drawRow 8 = .ok (.getfield 10, 3) := by decide +kernel
theorem dX11_drawRow_11 : decode cX11_drawRow 11 = .ok (.aload_n 0, 1) := by decide +kernel
theorem dX11_drawRow_12 : decode cX11_drawRow 12 = .ok (.getfield 26, 3) := by decide +kernel
theorem dX11_drawRow_15 : decode cX11_drawRow 15 = .ok (.aload_n 0, 1) := by decide +kernel
theorem dX11_drawRow_16 : decode cX11_drawRow 16 = .ok (.getfield 19, 3) := by decide +kernel
theorem dX11_drawRow_19 : decode cX11_drawRow 19 = .ok (.aload_n 0, 1) := by decide +kernel
theorem dX11_drawRow_20 : decode cX11_drawRow 20 = .ok (.getfield 19, 3) := by decide +kernel
theorem dX11_drawRow_23 : decode cX11_drawRow 23 = .ok (.getfield 485, 3) := by decide +kernel
theorem dX11_drawRow_26 : decode cX11_drawRow 26 = .ok (.invokevirtual 488, 3) := by decide +kernel
theorem dX11_drawRow_29 : decode cX11_drawRow 29 = .ok (.aload_n 0, 1) := by decide +kernel
theorem dX11_drawRow_30 : decode cX11_drawRow 30 = .ok (.iconst 1, 1) := by decide +kernel
theorem dX11_drawRow_31 : decode cX11_drawRow 31 = .ok (.putfield 475, 3) := by decide +kernel
theorem dX11_drawRow_34 : decode cX11_drawRow 34 = .ok (.return_, 1) := by decide +kernel
set_option maxRecDepth 20000 in
theorem ggX11_tellRow_X11_drawRow : GoodIn wsX11_tellRow wsX11_drawRow := goodIn_ca (goodIn_r _ [9, 10, 11, 4, 3, 12, 13, 14, 15, 16, 17, 18, 19, 20, 21, 22, 23, 24, 25, 26, 27, 28, 29, 30, 31, 32, 33, 34, 35, 36, 37, 38, 39, 40, 41, 42, 43, 44, 45, 46, 47, 48, 49, 50, 51, 52, 53, 54, 55, 56, 57, 58, 59, 60, 61, 62, 63, 64, 65, 66, 67, 68, 69, 70, 71, 72, 73, 74, 75, 76, 77, 78, 79, 80, 81, 82, 83, 84, 85, 86, 87, 88, 89, 90, 91, 92, 93, 94, 95, 96, 97, 98, 99, 100, 101, 102, 103, 104, 105, 106, 107, 108, 109, 110, 111, 112, 113, 114, 115, 116, 117, 118, 119, 120, 121, 122, 123, 124, 125, 126, 127, 128, 129, 130, 131, 132, 224, 225, 226, 227, 228, 229, 230, 231, 232, 233, 234, 235, 236, 237, 238, 239, 240, 241, 242, 243, 244, 245, 246, 247, 248, 249, 250, 251, 252, 253, 254, 255, 256, 257, 258, 259, 260, 261, 262, 263, 264, 265, 266, 267, 268, 269, 270, 271, 272, 273, 274, 275, 276, 277, 278, 279, 280] (by decide +kernel) (by decide +kernel)) (goodIn_sub (fun _ h => List.mem_cons_of_mem _ (List.mem_append_right _ h)) (by decide +kernel))
set_option maxRecDepth 20000 in
theorem gX11_tellRow_X11_drawRow : GoodIn wsX11_tellRow (wsV RX11 131 RX11 yX11_drawRow wsX11_drawRow) := goodIn_app (goodIn_of _ (by decide +kernel)) ggX11_tellRow_X11_drawRow
set_option maxRecDepth 20000 in
theorem ggX11_tellRow_X10_tell : GoodIn wsX11_tellRow wsX10_tell := goodIn_ca (goodIn_r _ [137, 138, 139, 140, 141, 142, 143, 144, 136, 145, 146, 147, 148, 149, 150, 151, 152, 153, 154, 155, 156, 157, 158, 23, 24, 16, 25, 26, 27, 28, 29, 30, 31, 32, 33, 34, 35, 36, 37, 38, 39, 40, 41, 42, 43, 44, 45, 46, 47, 48, 49, 50, 51, 52, 53, 54, 55, 56, 57, 159, 59, 60, 61, 62, 63, 160, 161, 162, 163, 164, 165, 166, 167, 168, 169, 170, 171, 172, 173, 174, 175, 176, 177, 178, 179, 180, 181, 182, 183, 184, 185, 186, 187, 188, 189, 190, 191, 192, 193, 194, 195, 196, 197, 198, 78, 79, 80, 199, 65, 66, 67, 68, 69, 70, 71, 72, 73, 74, 75, 76, 77, 81, 82, 83, 84, 85, 86, 87, 88, 89, 90, 91, 92, 93, 94, 95, 96, 97, 98, 99, 100, 101, 102, 103, 104, 105, 106, 107, 108, 109, 110, 111, 112, 113, 114, 115, 116, 117, 118, 119, 120, 121, 122, 123, 124, 125, 126, 127, 128, 129, 130, 131, 132, 200, 201, 202, 203, 204, 205, 206, 207, 208, 209, 210, 211, 212, 213, 214, 215, 216, 217, 218, 219, 220, 221, 222, 223, 281, 282, 283, 284, 285, 286, 287, 288, 289, 290, 291, 238, 239, 240, 241, 242, 243, 244, 245, 246, 247, 248, 249, 250, 251, 252, 253, 254, 255, 256, 257, 258, 259, 260, 261, 262, 263, 264, 265, 266, 267, 268, 269, 270, 271, 272, 273, 274, 275, 276, 277, 278, 279, 280] (by decide +kernel) (by decide +kernel)) (goodIn_sub (fun _ h => List.mem_cons_of_mem _ (List.mem_append_right _ h)) (by decide +kernel))
set_option maxRecDepth 20000 in
theorem gX11_tellRow_X10_tell : GoodIn wsX11_tellRow (wsV RX11 492 RX10 yX10_tell wsX10_tell) := goodIn_app (goodIn_of _ (by decide +kernel)) ggX11_tellRow_X10_tell
theorem dX11_tellRow_0 : decode cX11_tellRow 0 = .ok (.aload_n 0, 1) := by decide +kernel
theorem dX11_tellRow_1 : decode cX11_tellRow 1 = .ok (.invokevirtual 131, 3) := by decide +kernel
theorem dX11_tellRow_4 : decode cX11_tellRow 4 = .ok (.aload_n 0, 1) := by decide +kernel
theorem dX11_tellRow_5 : decode cX11_tellRow 5 = .ok (.getfield 479, 3) := by decide +kernel
theorem dX11_tellRow_8 : decode cX11_tellRow 8 = .ok (.ifCond .ne 23, 3) := by decide +kernel
theorem dX11_tellRow_11 : decode cX11_tellRow 11 = .ok (.aload_n 0, 1) := by decide +kernel
theorem dX11_tellRow_12 : decode cX11_tellRow 12 = .ok (.getfield 38, 3) := by decide +kernel
theorem dX11_tellRow_15 : decode cX11_tellRow 15 = .ok (.aload_n 0, 1) := by decide +kernel
theorem dX11_tellRow_16 : decode cX11_tellRow 16 = .ok (.getfield 19, 3) := by decide +kernel
theorem dX11_tellRow_19 : decode cX11_tellRow 19 = .ok (.aload_n 0, 1) := by decide +kernel
theorem dX11_tellRow_20 : decode cX11_tellRow 20 = .ok (.getfield 26, 3) := by decide +kernel
theorem dX11_tellRow_23 : decode cX11_tellRow 23 = .ok (.invokevirtual 492, 3) := by decide +kernel
theorem dX11_tellRow_26 : decode cX11_tellRow 26 = .ok (.aload_n 0, 1) := by decide +kernel
theorem dX11_tellRow_27 : decode cX11_tellRow 27 = .ok (.iconst 1, 1) := by decide +kernel
theorem dX11_tellRow_28 : decode cX11_tellRow 28 = .ok (.putfield 479, 3) := by decide +kernel
theorem dX11_tellRow_31 : decode cX11_tellRow 31 = .ok (.return_, 1) := by decide +kernel
set_option maxRecDepth 20000 in
theorem ggX11_enter_X9_add : GoodIn wsX11_enter wsX9_add := goodIn_ca (goodIn_r _ [8, 9, 10, 11, 12, 13, 14, 15, 16, 17, 18, 19, 20, 21, 22, 23, 24, 25, 26, 27, 28, 29, 30, 31, 32, 33, 34, 35, 36, 37, 38, 39, 40, 41, 42, 43, 44, 45, 46, 47, 48, 49, 50, 51, 52, 53, 54, 55, 56, 57, 58, 59, 60, 61, 62, 63, 64, 65, 66, 67, 68, 69, 70, 71, 72, 73, 74, 75, 76, 77, 78, 79, 80, 81, 82, 83, 84, 85, 86, 87, 88, 89, 90, 91, 92, 93, 94, 95, 96, 97, 98, 99, 100, 101, 102, 103, 104, 105, 106, 107, 108, 109, 110, 111, 112, 113, 114, 7, 115, 116, 117, 118, 119, 120, 121, 122, 123, 124, 125, 126, 127, 128, 129, 130, 131, 132, 133, 134, 135, 136, 137, 138, 139, 140, 141, 142, 143, 144, 145, 146, 147, 148, 149, 150, 151, 152, 153, 154, 155, 156, 157, 158, 159, 160, 161, 162, 163, 164, 165, 166, 167, 168, 169, 170, 171, 172, 173, 174, 175, 176, 177, 178, 179, 180, 181, 182, 183, 184, 185, 186, 187, 188, 189, 190, 191, 192, 193, 194, 195, 196, 197, 198, 199, 200, 201, 202, 203, 204, 205, 206, 207, 208, 209, 210, 211, 212, 213, 214, 215, 216, 217, 218, 219, 220, 221, 222, 223, 224, 225, 226, 227, 228, 229, 230, 231, 232, 233, 234, 235, 236, 237, 238, 239, 240, 241, 242, 243, 244, 245, 246, 247, 278, 279, 280, 281, 282, 283, 284, 285, 286, 287, 288, 289, 290, 291, 292, 293, 294, 295, 296, 297, 298, 299, 300, 301, 302, 303, 304, 305, 306, 307, 308, 309, 310, 311, 312, 313, 314, 315, 316, 317, 318, 319, 320, 321, 322, 323, 324, 325, 326, 327, 328, 329, 330, 331, 332] (by decide +kernel) (by decide +kernel)) (goodIn_sub (fun _ h => List.mem_cons_of_mem _ (List.mem_append_right _ h)) (by decide +kernel))
set_option maxRecDepth 20000 in
theorem gX11_enter_X9_add : GoodIn wsX11_enter (wsV RX11 496 RX9 yX9_add wsX9_add) := goodIn_app (goodIn_of _ (by decide +kernel)) ggX11_enter_X9_add
set_option maxRecDepth 20000 in
theorem ggX11_enter_X11_emptyRow : GoodIn wsX11_enter wsX11_emptyRow := goodIn_ca (goodIn_r _ [252, 2, 253, 254, 255, 21, 256, 23, 257, 30, 31, 32, 33, 34, 35, 36, 37, 38, 39, 40, 41, 42, 43, 44, 45, 46, 47, 48, 49, 50, 51, 52, 53, 54, 28, 55, 56, 57, 58, 59, 60, 61, 62, 63, 64, 65, 66, 67, 68, 69, 70, 71, 72, 73, 74, 75, 76, 77, 78, 79, 80, 81, 82, 83, 84, 85, 86, 87, 88, 89, 90, 91, 92, 93, 94, 95, 96, 97, 98, 99, 100, 101, 102, 103, 104, 105, 106, 107, 108, 109, 110, 111, 258, 259, 260, 251, 261, 262, 263, 264, 265, 266, 267, 268, 269, 270, 271, 272, 273, 274, 275, 276, 277, 290, 291, 292, 293, 294, 295, 296, 297, 298, 299, 300, 301, 302, 303, 304, 305, 306, 307, 308, 309, 310, 311, 312, 313, 314] (by decide +kernel) (by decide +kernel)) (goodIn_sub (fun _ h => List.mem_cons_of_mem _ (List.mem_append_right _ h)) (by decide +kernel))
set_option maxRecDepth 20000 in
theorem gX11_enter_X11_emptyRow : GoodIn wsX11_enter (wsV RX11 118 RX11 yX11_emptyRow wsX11_emptyRow) := goodIn_app (goodIn_of _ (by decide +kernel)) ggX11_enter_X11_emptyRow
theorem dX11_enter_0 : decode cX11_enter 0 = .ok (.aload_n 0, 1) := by decide +kernel
theorem dX11_enter_1 : decode cX11_enter 1 = .ok (.getfield 52, 3) := by decide +kernel
theorem dX11_enter_4 : decode cX11_enter 4 = .ok (.aload_n 0, 1) := by decide +kernel
theorem dX11_enter_5 : decode cX11_enter 5 = .ok (.getfield 19, 3) := by decide +kernel
theorem dX11_enter_8 : decode cX11_enter 8 = .ok (.iload_n 1, 1) := by decide +kernel
theorem dX11_enter_9 : decode cX11_enter 9 = .ok (.iload_n 2, 1) := by decide +kernel
theorem dX11_enter_10 : decode cX11_enter 10 = .ok (.aload_n 0, 1) := by decide +kernel
theorem dX11_enter_11 : decode cX11_enter 11 = .ok (.getfield 207, 3) := by decide +kernel
theorem dX11_enter_14 : decode cX11_enter 14 = .ok (.iload_n 3, 1) := by decide +kernel
theorem dX11_enter_15 : decode cX11_enter 15 = .ok (.invokevirtual 496, 3) := by decide +kernel
theorem dX11_enter_18 : decode cX11_enter 18 = .ok (.istore 4, 2) := by decide +kernel
theorem dX11_enter_20 : decode cX11_enter 20 = .ok (.aload_n 0, 1) := by decide +kernel
theorem dX11_enter_21 : decode cX11_enter 21 = .ok (.invokevirtual 118, 3) := by decide +kernel
theorem dX11_enter_24 : decode cX11_enter 24 = .ok (.iload 4, 2) := by decide +kernel
theorem dX11_enter_26 : decode cX11_enter 26 = .ok (.ireturn, 1) := by decide +kernel
set_option maxRecDepth 20000 in
theorem ggX11_areToldBack_X9_isKnownTold : GoodIn wsX11_areToldBack wsX9_isKnownTold := goodIn_ca (goodIn_r _ [9, 10, 11, 12, 13, 8, 14, 15, 332, 333, 334, 335, 336, 337, 338, 339, 340, 341, 342, 343] (by decide +kernel) (by decide +kernel)) (goodIn_sub (fun _ h => List.mem_cons_of_mem _ (List.mem_append_right _ h)) (by decide +kernel))
set_option maxRecDepth 20000 in
theorem gX11_areToldBack_X9_isKnownTold : GoodIn wsX11_areToldBack (wsV RX11 499 RX9 yX9_isKnownTold wsX9_isKnownTold) := goodIn_app (goodIn_of _ (by decide +kernel)) ggX11_areToldBack_X9_isKnownTold
set_option maxRecDepth 20000 in
theorem ggX11_areToldBack_X9_blazonOf : GoodIn wsX11_areToldBack wsX9_blazonOf := goodIn_r _ [19, 20, 21, 22, 23, 8, 24, 11, 12, 13, 14, 15, 332, 333, 334, 335, 336, 337, 338, 339, 340, 341, 342, 343] (by decide +kernel) (by decide +kernel)
set_option maxRecDepth 20000 in
theorem gX11_areToldBack_X9_blazonOf : GoodIn wsX11_areToldBack (wsV RX11 502 RX9 yX9_blazonOf wsX9_blazonOf) := goodIn_app (goodIn_of _ (by decide +kernel)) ggX11_areToldBack_X9_blazonOf
set_option maxRecDepth 20000 in
theorem ggX11_areToldBack_X10_tellsWell : GoodIn wsX11_areToldBack wsX10_tellsWell := goodIn_ca (goodIn_r _ [29, 30, 31, 32, 33, 34, 35, 36, 37, 38, 39, 40, 41, 42, 43, 44, 45, 46, 47, 48, 49, 50, 51, 52, 53, 54, 55, 56, 57, 58, 59, 60, 61, 62, 63, 64, 65, 66, 67, 68, 69, 70, 71, 72, 73, 74, 75, 76, 77, 78, 79, 80, 81, 82, 83, 84, 85, 86, 87, 88, 89, 90, 91, 92, 93, 94, 95, 96, 97, 98, 99, 100, 101, 102, 103, 104, 105, 106, 107, 108, 109, 110, 111, 112, 113, 114, 115, 116, 117, 118, 119, 120, 121, 122, 123, 124, 125, 126, 127, 128, 129, 130, 131, 132, 133, 134, 135, 136, 137, 138, 139, 140, 141, 142, 143, 144, 145, 146, 147, 148, 149, 150, 151, 152, 153, 154, 155, 156, 157, 158, 159, 160, 161, 28, 162, 163, 164, 165, 166, 167, 168, 169, 170, 171, 172, 173, 174, 175, 176, 177, 178, 179, 180, 181, 182, 183, 184, 185, 186, 187, 188, 189, 190, 191, 192, 193, 194, 195, 196, 197, 198, 199, 200, 201, 202, 203, 204, 205, 206, 207, 208, 209, 210, 211, 212, 213, 214, 215, 216, 217, 218, 219, 220, 221, 222, 223, 224, 225, 226, 227, 228, 229, 230, 231, 232, 233, 234, 235, 236, 237, 238, 239, 240, 241, 242, 243, 244, 245, 246, 247, 248, 249, 250, 251, 252, 253, 254, 255, 256, 257, 258, 259, 260, 261, 262, 263, 264, 265, 266, 267, 268, 269, 270, 271, 272, 273, 274, 275, 276, 277, 278, 279, 280, 281, 282, 283, 284, 285, 286, 287, 288, 289, 290, 291, 292, 293, 294, 295, 296, 297, 298, 299, 300, 301, 302, 303, 304, 305, 306, 307, 308, 309, 310, 311, 312, 313, 344, 345, 346, 347, 348, 349, 350, 351, 352, 353, 354, 355, 356, 357, 358, 359, 360, 361, 362, 363, 364, 365, 366, 367, 368, 369, 370, 371, 372, 373, 374, 375, 376, 377, 378, 379, 380, 381, 382, 383, 384, 385, 386, 387, 388, 389, 390, 391, 392, 393, 394, 395, 396, 397] (by decide +kernel) (by decide +kernel)) (goodIn_sub (fun _ h => List.mem_cons_of_mem _ (List.mem_append_right _ h)) (by decide +kernel))
set_option maxRecDepth 20000 in
theorem gX11_areToldBack_X10_tellsWell : GoodIn wsX11_areToldBack (wsV RX11 506 RX10 yX10_tellsWell wsX10_tellsWell) := goodIn_app (goodIn_of _ (by decide +kernel)) ggX11_areToldBack_X10_tellsWell
set_option maxRecDepth 20000 in
theorem ggX11_areToldBack_X9_setKnownTold : GoodIn wsX11_areToldBack wsX9_setKnownTold := goodIn_ca (goodIn_r _ [317, 10, 11, 12, 13, 8, 14, 15, 332, 333, 334, 335, 336, 337, 338, 339, 340, 341, 342, 343] (by decide +kernel) (by decide +kernel)) (goodIn_sub (fun _ h => List.mem_cons_of_mem _ (List.mem_append_right _ h)) (by decide +kernel))
set_option maxRecDepth 20000 in
theorem gX11_areToldBack_X9_setKnownTold : GoodIn wsX11_areToldBack (wsV RX11 510 RX9 yX9_setKnownTold wsX9_setKnownTold) := goodIn_app (goodIn_of _ (by decide +kernel)) ggX11_areToldBack_X9_setKnownTold
theorem dX11_areToldBack_0 : decode cX11_areToldBack 0 = .ok (.iconst 0, 1) := by decide +kernel
theorem dX11_areToldBack_1 : decode cX11_areToldBack 1 = .ok (.istore_n 1, 1) := by decide +kernel
theorem dX11_areToldBack_2 : decode cX11_areToldBack 2 = .ok (.iload_n 1, 1) := by decide +kernel
theorem dX11_areToldBack_3 : decode cX11_areToldBack 3 = .ok (.aload_n 0, 1) := by decide +kernel
theorem dX11_areToldBack_4 : decode cX11_areToldBack 4 = .ok (.getfield 52, 3) := by decide +kernel
theorem dX11_areToldBack_7 : decode cX11_areToldBack 7 = .ok (.getfield 441, 3) := by decide +kernel
theorem dX11_areToldBack_10 : decode cX11_areToldBack 10 = .ok (.if_icmp .ge 53, 3) := by decide +kernel
theorem dX11_areToldBack_13 : decode cX11_areToldBack 13 = .ok (.aload_n 0, 1) := by decide +kernel
theorem dX11_areToldBack_14 : decode cX11_areToldBack 14 = .ok (.getfield 52, 3) := by decide +kernel
theorem dX11_areToldBack_17 : decode cX11_areToldBack 17 = .ok (.iload_n 1, 1) := by decide +kernel
theorem dX11_areToldBack_18 : decode cX11_areToldBack 18 = .ok (.invokevirtual 499, 3) := by decide +kernel
theorem dX11_areToldBack_21 : decode cX11_areToldBack 21 = .ok (.ifCond .ne 36, 3) := by decide +kernel
theorem dX11_areToldBack_24 : decode cX11_areToldBack 24 = .ok (.aload_n 0, 1) := by decide +kernel
theorem dX11_areToldBack_25 : decode cX11_areToldBack 25 = .ok (.iconst 0, 1) := by decide +kernel
theorem dX11_areToldBack_26 : decode cX11_areToldBack 26 = .ok (.putfield 479, 3) := by decide +kernel
theorem dX11_areToldBack_29 : decode cX11_areToldBack 29 = .ok (.aload_n 0, 1) := by decide +kernel
theorem dX11_areToldBack_30 : decode cX11_areToldBack 30 = .ok (.getfield 38, 3) := by decide +kernel
theorem dX11_areToldBack_33 : decode cX11_areToldBack 33 = .ok (.aload_n 0, 1) := by decide +kernel
theorem dX11_areToldBack_34 : decode cX11_areToldBack 34 = .ok (.getfield 52, 3) := by decide +kernel
theorem dX11_areToldBack_37 : decode cX11_areToldBack 37 = .ok (.iload_n 1, 1) := by decide +kernel
theorem dX11_areToldBack_38 : decode cX11_areToldBack 38 = .ok (.invokevirtual 502, 3) := by decide +kernel
theorem dX11_areToldBack_41 : decode cX11_areToldBack 41 = .ok (.invokevirtual 506, 3) := by decide +kernel
theorem dX11_areToldBack_44 : decode cX11_areToldBack 44 = .ok (.ifCond .ne 5, 3) := by decide +kernel
theorem dX11_areToldBack_47 : decode cX11_areToldBack 47 = .ok (.iconst 0, 1) := by decide +kernel
theorem dX11_areToldBack_48 : decode cX11_areToldBack 48 = .ok (.ireturn, 1) := by decide +kernel
theorem dX11_areToldBack_49 : decode cX11_areToldBack 49 = .ok (.aload_n 0, 1) := by decide +kernel
theorem dX11_areToldBack_50 : decode cX11_areToldBack 50 = .ok (.getfield 52, 3) := by decide +kernel
theorem dX11_areToldBack_53 : decode cX11_areToldBack 53 = .ok (.iload_n 1, 1) := by decide +kernel
theorem dX11_areToldBack_54 : decode cX11_areToldBack 54 = .ok (.invokevirtual 510, 3) := by decide +kernel
theorem dX11_areToldBack_57 : decode cX11_areToldBack 57 = .ok (.iinc 1 1, 3) := by decide +kernel
theorem dX11_areToldBack_60 : decode cX11_areToldBack 60 = .ok (.goto (-58), 3) := by decide +kernel
theorem dX11_areToldBack_63 : decode cX11_areToldBack 63 = .ok (.iconst 1, 1) := by decide +kernel
theorem dX11_areToldBack_64 : decode cX11_areToldBack 64 = .ok (.ireturn, 1) := by decide +kernel
set_option maxRecDepth 20000 in
theorem ggX11_areSoughtBack_X9_blazonOf : GoodIn wsX11_areSoughtBack wsX9_blazonOf := goodIn_r _ [8, 9, 10, 11, 12, 7, 13, 14, 15, 16, 17, 18, 196, 197, 198, 199, 200, 201, 202, 203, 204, 205, 206, 207] (by decide +kernel) (by decide +kernel)
set_option maxRecDepth 20000 in
theorem gX11_areSoughtBack_X9_blazonOf : GoodIn wsX11_areSoughtBack (wsV RX11 502 RX9 yX9_blazonOf wsX9_blazonOf) := goodIn_app (goodIn_of _ (by decide +kernel)) ggX11_areSoughtBack_X9_blazonOf
set_option maxRecDepth 20000 in
theorem ggX11_areSoughtBack_X9_honourOf : GoodIn wsX11_areSoughtBack wsX9_honourOf := goodIn_ca (goodIn_r _ [22, 23, 14, 15, 16, 7, 17, 18, 196, 197, 198, 199, 200, 201, 202, 203, 204, 205, 206, 207] (by decide +kernel) (by decide +kernel)) (goodIn_sub (fun _ h => List.mem_cons_of_mem _ (List.mem_append_right _ h)) (by decide +kernel))
set_option maxRecDepth 20000 in
theorem gX11_areSoughtBack_X9_honourOf : GoodIn wsX11_areSoughtBack (wsV RX11 513 RX9 yX9_honourOf wsX9_honourOf) := goodIn_app (goodIn_of _ (by decide +kernel)) ggX11_areSoughtBack_X9_honourOf
set_option maxRecDepth 20000 in
theorem ggX11_areSoughtBack_X9_rowsOf : GoodIn wsX11_areSoughtBack wsX9_rowsOf := goodIn_r _ [27, 28, 10, 11, 12, 7, 13, 14, 15, 16, 17, 18, 196, 197, 198, 199, 200, 201, 202, 203, 204, 205, 206, 207] (by decide +kernel) (by decide +kernel)
set_option maxRecDepth 20000 in
theorem gX11_areSoughtBack_X9_rowsOf : GoodIn wsX11_areSoughtBack (wsV RX11 516 RX9 yX9_rowsOf wsX9_rowsOf) := goodIn_app (goodIn_of _ (by decide +kernel)) ggX11_areSoughtBack_X9_rowsOf
set_option maxRecDepth 20000 in
theorem ggX11_areSoughtBack_X7_isSoughtBack : GoodIn wsX11_areSoughtBack wsX7_isSoughtBack := goodIn_ca (goodIn_r _ [33, 34, 35, 36, 37, 38, 39, 40, 41, 42, 43, 44, 45, 46, 47, 48, 49, 50, 32, 51, 52, 53, 54, 55, 56, 57, 58, 59, 60, 61, 62, 63, 64, 65, 66, 67, 68, 69, 70, 71, 72, 73, 74, 75, 76, 77, 78, 79, 80, 81, 82, 83, 84, 85, 86, 87, 88, 89, 90, 91, 92, 93, 94, 95, 96, 97, 98, 99, 100, 101, 102, 103, 104, 105, 106, 107, 108, 109, 110, 111, 112, 113, 114, 115, 116, 117, 118, 119, 120, 121, 122, 123, 124, 125, 126, 127, 128, 129, 130, 131, 132, 133, 134, 135, 136, 137, 138, 139, 140, 141, 142, 143, 144, 145, 146, 147, 148, 149, 150, 151, 152, 153, 154, 155, 156, 157, 158, 159, 160, 161, 162, 163, 164, 165, 166, 167, 168, 169, 170, 171, 172, 173, 174, 175, 176, 177, 178, 179, 180, 181, 208, 209, 210, 211, 212, 213, 214, 215, 216, 217, 218, 219, 220, 221, 222, 223, 224, 225, 226, 227, 228, 229, 230, 231, 232, 233, 234, 235, 236, 237, 238, 239, 240, 241, 242, 243, 244, 245, 246, 247, 248, 249, 250] (by decide +kernel) (by decide +kernel)) (goodIn_sub (fun _ h => List.mem_cons_of_mem _ (List.mem_append_right _ h)) (by decide +kernel))
set_option maxRecDepth 20000 in
theorem gX11_areSoughtBack_X7_isSoughtBack : GoodIn wsX11_areSoughtBack (wsV RX11 520 RX7 yX7_isSoughtBack wsX7_isSoughtBack) := goodIn_app (goodIn_of _ (by decide +kernel)) ggX11_areSoughtBack_X7_isSoughtBack
theorem dX11_areSoughtBack_0 : decode cX11_areSoughtBack 0 = .ok (.iconst 0, 1) := by decide +kernel
theorem dX11_areSoughtBack_1 : decode cX11_areSoughtBack 1 = .ok (.istore_n 1, 1) := by decide +kernel
theorem dX11_areSoughtBack_2 : decode cX11_areSoughtBack 2 = .ok (.iload_n 1, 1) := by decide +kernel
theorem dX11_areSoughtBack_3 : decode cX11_areSoughtBack 3 = .ok (.aload_n 0, 1) := by decide +kernel
theorem dX11_areSoughtBack_4 : decode cX11_areSoughtBack 4 = .ok (.getfield 52, 3) := by decide +kernel
theorem dX11_areSoughtBack_7 : decode cX11_areSoughtBack 7 = .ok (.getfield 441, 3) := by decide +kernel
theorem dX11_areSoughtBack_10 : decode cX11_areSoughtBack 10 = .ok (.if_icmp .ge 45, 3) := by decide +kernel
theorem dX11_areSoughtBack_13 : decode cX11_areSoughtBack 13 = .ok (.aload_n 0, 1) := by decide +kernel
theorem dX11_areSoughtBack_14 : decode cX11_areSoughtBack 14 = .ok (.getfield 10, 3) := by decide +kernel
theorem dX11_areSoughtBack_17 : decode cX11_areSoughtBack 17 = .ok (.aload_n 0, 1) := by decide +kernel
theorem dX11_areSoughtBack_18 : decode cX11_areSoughtBack 18 = .ok (.getfield 52, 3) := by decide +kernel
theorem dX11_areSoughtBack_21 : decode cX11_areSoughtBack 21 = .ok (.iload_n 1, 1) := by decide +kernel
theorem dX11_areSoughtBack_22 : decode cX11_areSoughtBack 22 = .ok (.invokevirtual 502, 3) := by decide +kernel
theorem dX11_areSoughtBack_25 : decode cX11_areSoughtBack 25 = .ok (.aload_n 0, 1) := by decide +kernel
theorem dX11_areSoughtBack_26 : decode cX11_areSoughtBack 26 = .ok (.getfield 52, 3) := by decide +kernel
theorem dX11_areSoughtBack_29 : decode cX11_areSoughtBack 29 = .ok (.iload_n 1, 1) := by decide +kernel
theorem dX11_areSoughtBack_30 : decode cX11_areSoughtBack 30 = .ok (.invokevirtual 513, 3) := by decide +kernel
theorem dX11_areSoughtBack_33 : decode cX11_areSoughtBack 33 = .ok (.aload_n 0, 1) := by decide +kernel
theorem dX11_areSoughtBack_34 : decode cX11_areSoughtBack 34 = .ok (.getfield 52, 3) := by decide +kernel
theorem dX11_areSoughtBack_37 : decode cX11_areSoughtBack 37 = .ok (.iload_n 1, 1) := by decide +kernel
theorem dX11_areSoughtBack_38 : decode cX11_areSoughtBack 38 = .ok (.invokevirtual 516, 3) := by decide +kernel
theorem dX11_areSoughtBack_41 : decode cX11_areSoughtBack 41 = .ok (.invokevirtual 520, 3) := by decide +kernel
theorem dX11_areSoughtBack_44 : decode cX11_areSoughtBack 44 = .ok (.ifCond .ne 5, 3) := by decide +kernel
theorem dX11_areSoughtBack_47 : decode cX11_areSoughtBack 47 = .ok (.iconst 0, 1) := by decide +kernel
theorem dX11_areSoughtBack_48 : decode cX11_areSoughtBack 48 = .ok (.ireturn, 1) := by decide +kernel
theorem dX11_areSoughtBack_49 : decode cX11_areSoughtBack 49 = .ok (.iinc 1 1, 3) := by decide +kernel
theorem dX11_areSoughtBack_52 : decode cX11_areSoughtBack 52 = .ok (.goto (-50), 3) := by decide +kernel
theorem dX11_areSoughtBack_55 : decode cX11_areSoughtBack 55 = .ok (.iconst 1, 1) := by decide +kernel
theorem dX11_areSoughtBack_56 : decode cX11_areSoughtBack 56 = .ok (.ireturn, 1) := by decide +kernel
theorem dX11_needPoint_0 : decode cX11_needPoint 0 = .ok (.iload_n 1, 1) := by decide +kernel
theorem dX11_needPoint_1 : decode cX11_needPoint 1 = .ok (.ifCond .lt 19, 3) := by decide +kernel
theorem dX11_needPoint_4 : decode cX11_needPoint 4 = .ok (.iload_n 1, 1) := by decide +kernel
theorem dX11_needPoint_5 : decode cX11_needPoint 5 = .ok (.bipush 16, 2) := by decide +kernel
theorem dX11_needPoint_7 : decode cX11_needPoint 7 = .ok (.if_icmp .ge 13, 3) := by decide +kernel
theorem dX11_needPoint_10 : decode cX11_needPoint 10 = .ok (.iload_n 2, 1) := by decide +kernel
theorem dX11_needPoint_11 : decode cX11_needPoint 11 = .ok (.ifCond .lt 9, 3) := by decide +kernel
theorem dX11_needPoint_14 : decode cX11_needPoint 14 = .ok (.iload_n 2, 1) := by decide +kernel
theorem dX11_needPoint_15 : decode cX11_needPoint 15 = .ok (.bipush 16, 2) := by decide +kernel
theorem dX11_needPoint_17 : decode cX11_needPoint 17 = .ok (.if_icmp .lt 14, 3) := by decide +kernel
theorem dX11_needPoint_20 : decode cX11_needPoint 20 = .ok (.new 524, 3) := by decide +kernel
theorem dX11_needPoint_23 : decode cX11_needPoint 23 = .ok (.dup, 1) := by decide +kernel
theorem dX11_needPoint_24 : decode cX11_needPoint 24 = .ok (.ldc_w 526, 3) := by decide +kernel
theorem dX11_needPoint_27 : decode cX11_needPoint 27 = .ok (.invokespecial 528, 3) := by decide +kernel
theorem dX11_needPoint_30 : decode cX11_needPoint 30 = .ok (.athrow, 1) := by decide +kernel
theorem dX11_needPoint_31 : decode cX11_needPoint 31 = .ok (.return_, 1) := by decide +kernel
theorem dX11_needPerson_0 : decode cX11_needPerson 0 = .ok (.iload_n 1, 1) := by decide +kernel
theorem dX11_needPerson_1 : decode cX11_needPerson 1 = .ok (.ifCond .lt 14, 3) := by decide +kernel
theorem dX11_needPerson_4 : decode cX11_needPerson 4 = .ok (.iload_n 1, 1) := by decide +kernel
theorem dX11_needPerson_5 : decode cX11_needPerson 5 = .ok (.aload_n 0, 1) := by decide +kernel
theorem dX11_needPerson_6 : decode cX11_needPerson 6 = .ok (.getfield 45, 3) := by decide +kernel
theorem dX11_needPerson_9 : decode cX11_needPerson 9 = .ok (.getfield 224, 3) := by decide +kernel
theorem dX11_needPerson_12 : decode cX11_needPerson 12 = .ok (.if_icmp .lt 14, 3) := by decide +kernel
theorem dX11_needPerson_15 : decode cX11_needPerson 15 = .ok (.new 524, 3) := by decide +kernel
theorem dX11_needPerson_18 : decode cX11_needPerson 18 = .ok (.dup, 1) := by decide +kernel
theorem dX11_needPerson_19 : decode cX11_needPerson 19 = .ok (.ldc_w 529, 3) := by decide +kernel
theorem dX11_needPerson_22 : decode cX11_needPerson 22 = .ok (.invokespecial 528, 3) := by decide +kernel
theorem dX11_needPerson_25 : decode cX11_needPerson 25 = .ok (.athrow, 1) := by decide +kernel
theorem dX11_needPerson_26 : decode cX11_needPerson 26 = .ok (.return_, 1) := by decide +kernel
theorem dX11_needArms_0 : decode cX11_needArms 0 = .ok (.iload_n 1, 1) := by decide +kernel
theorem dX11_needArms_1 : decode cX11_needArms 1 = .ok (.ifCond .lt 14, 3) := by decide +kernel
theorem dX11_needArms_4 : decode cX11_needArms 4 = .ok (.iload_n 1, 1) := by decide +kernel
theorem dX11_needArms_5 : decode cX11_needArms 5 = .ok (.aload_n 0, 1) := by decide +kernel
theorem dX11_needArms_6 : decode cX11_needArms 6 = .ok (.getfield 52, 3) := by decide +kernel
theorem dX11_needArms_9 : decode cX11_needArms 9 = .ok (.getfield 441, 3) := by decide +kernel
theorem dX11_needArms_12 : decode cX11_needArms 12 = .ok (.if_icmp .lt 14, 3) := by decide +kernel
theorem dX11_needArms_15 : decode cX11_needArms 15 = .ok (.new 524, 3) := by decide +kernel
theorem dX11_needArms_18 : decode cX11_needArms 18 = .ok (.dup, 1) := by decide +kernel
theorem dX11_needArms_19 : decode cX11_needArms 19 = .ok (.ldc_w 531, 3) := by decide +kernel
theorem dX11_needArms_22 : decode cX11_needArms 22 = .ok (.invokespecial 528, 3) := by decide +kernel
theorem dX11_needArms_25 : decode cX11_needArms 25 = .ok (.athrow, 1) := by decide +kernel
theorem dX11_needArms_26 : decode cX11_needArms 26 = .ok (.return_, 1) := by decide +kernel
theorem dX11_needJudgment_0 : decode cX11_needJudgment 0 = .ok (.iload_n 1, 1) := by decide +kernel
theorem dX11_needJudgment_1 : decode cX11_needJudgment 1 = .ok (.ifCond .lt 14, 3) := by decide +kernel
theorem dX11_needJudgment_4 : decode cX11_needJudgment 4 = .ok (.iload_n 1, 1) := by decide +kernel
theorem dX11_needJudgment_5 : decode cX11_needJudgment 5 = .ok (.aload_n 0, 1) := by decide +kernel
theorem dX11_needJudgment_6 : decode cX11_needJudgment 6 = .ok (.getfield 88, 3) := by decide +kernel
theorem dX11_needJudgment_9 : decode cX11_needJudgment 9 = .ok (.getfield 533, 3) := by decide +kernel
theorem dX11_needJudgment_12 : decode cX11_needJudgment 12 = .ok (.if_icmp .lt 14, 3) := by decide +kernel
theorem dX11_needJudgment_15 : decode cX11_needJudgment 15 = .ok (.new 524, 3) := by decide +kernel
theorem dX11_needJudgment_18 : decode cX11_needJudgment 18 = .ok (.dup, 1) := by decide +kernel
theorem dX11_needJudgment_19 : decode cX11_needJudgment 19 = .ok (.ldc_w 534, 3) := by decide +kernel
theorem dX11_needJudgment_22 : decode cX11_needJudgment 22 = .ok (.invokespecial 528, 3) := by decide +kernel
theorem dX11_needJudgment_25 : decode cX11_needJudgment 25 = .ok (.athrow, 1) := by decide +kernel
theorem dX11_needJudgment_26 : decode cX11_needJudgment 26 = .ok (.return_, 1) := by decide +kernel
theorem dX11_needLand_0 : decode cX11_needLand 0 = .ok (.iload_n 1, 1) := by decide +kernel
theorem dX11_needLand_1 : decode cX11_needLand 1 = .ok (.ifCond .lt 8, 3) := by decide +kernel
theorem dX11_needLand_4 : decode cX11_needLand 4 = .ok (.iload_n 1, 1) := by decide +kernel
theorem dX11_needLand_5 : decode cX11_needLand 5 = .ok (.iconst 3, 1) := by decide +kernel
theorem dX11_needLand_6 : decode cX11_needLand 6 = .ok (.if_icmp .le 14, 3) := by decide +kernel
theorem dX11_needLand_9 : decode cX11_needLand 9 = .ok (.new 95, 3) := by decide +kernel
theorem dX11_needLand_12 : decode cX11_needLand 12 = .ok (.dup, 1) := by decide +kernel
theorem dX11_needLand_13 : decode cX11_needLand 13 = .ok (.ldc_w 536, 3) := by decide +kernel
theorem dX11_needLand_16 : decode cX11_needLand 16 = .ok (.invokespecial 99, 3) := by decide +kernel
theorem dX11_needLand_19 : decode cX11_needLand 19 = .ok (.athrow, 1) := by decide +kernel
theorem dX11_needLand_20 : decode cX11_needLand 20 = .ok (.return_, 1) := by decide +kernel
theorem dX11_needTradition_0 : decode cX11_needTradition 0 = .ok (.iload_n 1, 1) := by decide +kernel
theorem dX11_needTradition_1 : decode cX11_needTradition 1 = .ok (.ifCond .lt 8, 3) := by decide +kernel
theorem dX11_needTradition_4 : decode cX11_needTradition 4 = .ok (.iload_n 1, 1) := by decide +kernel
theorem dX11_needTradition_5 : decode cX11_needTradition 5 = .ok (.iconst 3, 1) := by decide +kernel
theorem dX11_needTradition_6 : decode cX11_needTradition 6 = .ok (.if_icmp .le 14, 3) := by decide +kernel
theorem dX11_needTradition_9 : decode cX11_needTradition 9 = .ok (.new 95, 3) := by decide +kernel
theorem dX11_needTradition_12 : decode cX11_needTradition 12 = .ok (.dup, 1) := by decide +kernel
theorem dX11_needTradition_13 : decode cX11_needTradition 13 = .ok (.ldc_w 538, 3) := by decide +kernel
theorem dX11_needTradition_16 : decode cX11_needTradition 16 = .ok (.invokespecial 99, 3) := by decide +kernel
theorem dX11_needTradition_19 : decode cX11_needTradition 19 = .ok (.athrow, 1) := by decide +kernel
theorem dX11_needTradition_20 : decode cX11_needTradition 20 = .ok (.return_, 1) := by decide +kernel
set_option maxRecDepth 20000 in
theorem ggX11_needShape_X11_needTincture : GoodIn wsX11_needShape wsX11_needTincture := goodIn_ca (goodIn_r _ [7, 1, 2] (by decide +kernel) (by decide +kernel)) (goodIn_sub (fun _ h => List.mem_cons_of_mem _ (List.mem_append_right _ h)) (by decide +kernel))
set_option maxRecDepth 20000 in
theorem gX11_needShape_X11_needTincture : GoodIn wsX11_needShape (wsV RX11 425 RX11 yX11_needTincture wsX11_needTincture) := goodIn_app (goodIn_of _ (by decide +kernel)) ggX11_needShape_X11_needTincture
theorem dX11_needShape_0 : decode cX11_needShape 0 = .ok (.iload_n 1, 1) := by decide +kernel
theorem dX11_needShape_1 : decode cX11_needShape 1 = .ok (.ifCond .lt 8, 3) := by decide +kernel
theorem dX11_needShape_4 : decode cX11_needShape 4 = .ok (.iload_n 1, 1) := by decide +kernel
theorem dX11_needShape_5 : decode cX11_needShape 5 = .ok (.iconst 3, 1) := by decide +kernel
theorem dX11_needShape_6 : decode cX11_needShape 6 = .ok (.if_icmp .le 14, 3) := by decide +kernel
theorem dX11_needShape_9 : decode cX11_needShape 9 = .ok (.new 95, 3) := by decide +kernel
theorem dX11_needShape_12 : decode cX11_needShape 12 = .ok (.dup, 1) := by decide +kernel
theorem dX11_needShape_13 : decode cX11_needShape 13 = .ok (.ldc_w 540, 3) := by decide +kernel
theorem dX11_needShape_16 : decode cX11_needShape 16 = .ok (.invokespecial 99, 3) := by decide +kernel
theorem dX11_needShape_19 : decode cX11_needShape 19 = .ok (.athrow, 1) := by decide +kernel
theorem dX11_needShape_20 : decode cX11_needShape 20 = .ok (.aload_n 0, 1) := by decide +kernel
theorem dX11_needShape_21 : decode cX11_needShape 21 = .ok (.iload_n 2, 1) := by decide +kernel
theorem dX11_needShape_22 : decode cX11_needShape 22 = .ok (.invokevirtual 425, 3) := by decide +kernel
theorem dX11_needShape_25 : decode cX11_needShape 25 = .ok (.return_, 1) := by decide +kernel
theorem dX11_needTincture_0 : decode cX11_needTincture 0 = .ok (.iload_n 1, 1) := by decide +kernel
theorem dX11_needTincture_1 : decode cX11_needTincture 1 = .ok (.iconst 1, 1) := by decide +kernel
theorem dX11_needTincture_2 : decode cX11_needTincture 2 = .ok (.if_icmp .lt 9, 3) := by decide +kernel
theorem dX11_needTincture_5 : decode cX11_needTincture 5 = .ok (.iload_n 1, 1) := by decide +kernel
theorem dX11_needTincture_6 : decode cX11_needTincture 6 = .ok (.bipush 8, 2) := by decide +kernel
theorem dX11_needTincture_8 : decode cX11_needTincture 8 = .ok (.if_icmp .le 14, 3) := by decide +kernel
theorem dX11_needTincture_11 : decode cX11_needTincture 11 = .ok (.new 95, 3) := by decide +kernel
theorem dX11_needTincture_14 : decode cX11_needTincture 14 = .ok (.dup, 1) := by decide +kernel
theorem dX11_needTincture_15 : decode cX11_needTincture 15 = .ok (.ldc_w 542, 3) := by decide +kernel
theorem dX11_needTincture_18 : decode cX11_needTincture 18 = .ok (.invokespecial 99, 3) := by decide +kernel
theorem dX11_needTincture_21 : decode cX11_needTincture 21 = .ok (.athrow, 1) := by decide +kernel
theorem dX11_needTincture_22 : decode cX11_needTincture 22 = .ok (.return_, 1) := by decide +kernel
theorem dX11_needCharge_0 : decode cX11_needCharge 0 = .ok (.iload_n 1, 1) := by decide +kernel
theorem dX11_needCharge_1 : decode cX11_needCharge 1 = .ok (.bipush 51, 2) := by decide +kernel
theorem dX11_needCharge_3 : decode cX11_needCharge 3 = .ok (.if_icmp .lt 9, 3) := by decide +kernel
theorem dX11_needCharge_6 : decode cX11_needCharge 6 = .ok (.iload_n 1, 1) := by decide +kernel
theorem dX11_needCharge_7 : decode cX11_needCharge 7 = .ok (.bipush 58, 2) := by decide +kernel
theorem dX11_needCharge_9 : decode cX11_needCharge 9 = .ok (.if_icmp .le 14, 3) := by decide +kernel
theorem dX11_needCharge_12 : decode cX11_needCharge 12 = .ok (.new 95, 3) := by decide +kernel
theorem dX11_needCharge_15 : decode cX11_needCharge 15 = .ok (.dup, 1) := by decide +kernel
theorem dX11_needCharge_16 : decode cX11_needCharge 16 = .ok (.ldc_w 544, 3) := by decide +kernel
theorem dX11_needCharge_19 : decode cX11_needCharge 19 = .ok (.invokespecial 99, 3) := by decide +kernel
theorem dX11_needCharge_22 : decode cX11_needCharge 22 = .ok (.athrow, 1) := by decide +kernel
theorem dX11_needCharge_23 : decode cX11_needCharge 23 = .ok (.return_, 1) := by decide +kernel
theorem dX11_needBlazon_0 : decode cX11_needBlazon 0 = .ok (.aload_n 0, 1) := by decide +kernel
theorem dX11_needBlazon_1 : decode cX11_needBlazon 1 = .ok (.getfield 19, 3) := by decide +kernel
theorem dX11_needBlazon_4 : decode cX11_needBlazon 4 = .ok (.getfield 121, 3) := by decide +kernel
theorem dX11_needBlazon_7 : decode cX11_needBlazon 7 = .ok (.ifCond .lt 14, 3) := by decide +kernel
theorem dX11_needBlazon_10 : decode cX11_needBlazon 10 = .ok (.new 219, 3) := by decide +kernel
theorem dX11_needBlazon_13 : decode cX11_needBlazon 13 = .ok (.dup, 1) := by decide +kernel
theorem dX11_needBlazon_14 : decode cX11_needBlazon 14 = .ok (.ldc_w 546, 3) := by decide +kernel
theorem dX11_needBlazon_17 : decode cX11_needBlazon 17 = .ok (.invokespecial 223, 3) := by decide +kernel
theorem dX11_needBlazon_20 : decode cX11_needBlazon 20 = .ok (.athrow, 1) := by decide +kernel
theorem dX11_needBlazon_21 : decode cX11_needBlazon 21 = .ok (.return_, 1) := by decide +kernel
set_option maxRecDepth 20000 in
theorem ggX11_needAlive_X5_isAlive : GoodIn wsX11_needAlive wsX5_isAlive := goodIn_ca (goodIn_r _ [8, 9, 10, 11, 12, 7, 13, 14, 29, 30, 31, 32, 33, 34, 35, 36, 37] (by decide +kernel) (by decide +kernel)) (goodIn_sub (fun _ h => List.mem_cons_of_mem _ (List.mem_append_right _ h)) (by decide +kernel))
set_option maxRecDepth 20000 in
theorem gX11_needAlive_X5_isAlive : GoodIn wsX11_needAlive (wsV RX11 258 RX5 yX5_isAlive wsX5_isAlive) := goodIn_app (goodIn_of _ (by decide +kernel)) ggX11_needAlive_X5_isAlive
theorem dX11_needAlive_0 : decode cX11_needAlive 0 = .ok (.aload_n 0, 1) := by decide +kernel
theorem dX11_needAlive_1 : decode cX11_needAlive 1 = .ok (.getfield 45, 3) := by decide +kernel
theorem dX11_needAlive_4 : decode cX11_needAlive 4 = .ok (.iload_n 1, 1) := by decide +kernel
theorem dX11_needAlive_5 : decode cX11_needAlive 5 = .ok (.invokevirtual 258, 3) := by decide +kernel
theorem dX11_needAlive_8 : decode cX11_needAlive 8 = .ok (.ifCond .ne 14, 3) := by decide +kernel
theorem dX11_needAlive_11 : decode cX11_needAlive 11 = .ok (.new 219, 3) := by decide +kernel
theorem dX11_needAlive_14 : decode cX11_needAlive 14 = .ok (.dup, 1) := by decide +kernel
theorem dX11_needAlive_15 : decode cX11_needAlive 15 = .ok (.ldc_w 548, 3) := by decide +kernel
theorem dX11_needAlive_18 : decode cX11_needAlive 18 = .ok (.invokespecial 223, 3) := by decide +kernel
theorem dX11_needAlive_21 : decode cX11_needAlive 21 = .ok (.athrow, 1) := by decide +kernel
theorem dX11_needAlive_22 : decode cX11_needAlive 22 = .ok (.return_, 1) := by decide +kernel
set_option maxRecDepth 20000 in
theorem ggX11_needBearer_X0_armsOf : GoodIn wsX11_needBearer wsX0_armsOf := goodIn_ca (goodIn_r _ [8, 9, 10, 11, 12, 13, 14, 15, 16, 31, 32, 33, 34, 35, 36, 37, 38, 39, 40, 41, 42, 43, 44, 45, 46, 47, 48, 49, 50] (by decide +kernel) (by decide +kernel)) (goodIn_sub (fun _ h => List.mem_cons_of_mem _ (List.mem_append_right _ h)) (by decide +kernel))
set_option maxRecDepth 20000 in
theorem gX11_needBearer_X0_armsOf : GoodIn wsX11_needBearer (wsV RX11 282 RX0 yX0_armsOf wsX0_armsOf) := goodIn_app (goodIn_of _ (by decide +kernel)) ggX11_needBearer_X0_armsOf
theorem dX11_needBearer_0 : decode cX11_needBearer 0 = .ok (.aload_n 0, 1) := by decide +kernel
theorem dX11_needBearer_1 : decode cX11_needBearer 1 = .ok (.getfield 61, 3) := by decide +kernel
theorem dX11_needBearer_4 : decode cX11_needBearer 4 = .ok (.iload_n 1, 1) := by decide +kernel
theorem dX11_needBearer_5 : decode cX11_needBearer 5 = .ok (.invokevirtual 282, 3) := by decide +kernel
theorem dX11_needBearer_8 : decode cX11_needBearer 8 = .ok (.ifCond .ge 14, 3) := by decide +kernel
theorem dX11_needBearer_11 : decode cX11_needBearer 11 = .ok (.new 156, 3) := by decide +kernel
theorem dX11_needBearer_14 : decode cX11_needBearer 14 = .ok (.dup, 1) := by decide +kernel
theorem dX11_needBearer_15 : decode cX11_needBearer 15 = .ok (.ldc_w 355, 3) := by decide +kernel
theorem dX11_needBearer_18 : decode cX11_needBearer 18 = .ok (.invokespecial 160, 3) := by decide +kernel
theorem dX11_needBearer_21 : decode cX11_needBearer 21 = .ok (.athrow, 1) := by decide +kernel
theorem dX11_needBearer_22 : decode cX11_needBearer 22 = .ok (.return_, 1) := by decide +kernel
set_option maxRecDepth 20000 in
theorem ggX11_needQuarter_X6_quarterCount : GoodIn wsX11_needQuarter wsX6_quarterCount := goodIn_ca (goodIn_r _ [8, 9, 10, 11, 12, 13, 14, 15, 16, 31, 32, 33, 34, 35, 36, 37, 38, 39, 40, 41, 42, 43, 44, 45, 46, 47, 48, 49] (by decide +kernel) (by decide +kernel)) (goodIn_sub (fun _ h => List.mem_cons_of_mem _ (List.mem_append_right _ h)) (by decide +kernel))
set_option maxRecDepth 20000 in
theorem gX11_needQuarter_X6_quarterCount : GoodIn wsX11_needQuarter (wsV RX11 336 RX6 yX6_quarterCount wsX6_quarterCount) := goodIn_app (goodIn_of _ (by decide +kernel)) ggX11_needQuarter_X6_quarterCount
theorem dX11_needQuarter_0 : decode cX11_needQuarter 0 = .ok (.iload_n 2, 1) := by decide +kernel
theorem dX11_needQuarter_1 : decode cX11_needQuarter 1 = .ok (.ifCond .lt 15, 3) := by decide +kernel
theorem dX11_needQuarter_4 : decode cX11_needQuarter 4 = .ok (.iload_n 2, 1) := by decide +kernel
theorem dX11_needQuarter_5 : decode cX11_needQuarter 5 = .ok (.aload_n 0, 1) := by decide +kernel
theorem dX11_needQuarter_6 : decode cX11_needQuarter 6 = .ok (.getfield 79, 3) := by decide +kernel
theorem dX11_needQuarter_9 : decode cX11_needQuarter 9 = .ok (.iload_n 1, 1) := by decide +kernel
theorem dX11_needQuarter_10 : decode cX11_needQuarter 10 = .ok (.invokevirtual 336, 3) := by decide +kernel
theorem dX11_needQuarter_13 : decode cX11_needQuarter 13 = .ok (.if_icmp .lt 14, 3) := by decide +kernel
theorem dX11_needQuarter_16 : decode cX11_needQuarter 16 = .ok (.new 156, 3) := by decide +kernel
theorem dX11_needQuarter_19 : decode cX11_needQuarter 19 = .ok (.dup, 1) := by decide +kernel
theorem dX11_needQuarter_20 : decode cX11_needQuarter 20 = .ok (.ldc_w 550, 3) := by decide +kernel
theorem dX11_needQuarter_23 : decode cX11_needQuarter 23 = .ok (.invokespecial 160, 3) := by decide +kernel
theorem dX11_needQuarter_26 : decode cX11_needQuarter 26 = .ok (.athrow, 1) := by decide +kernel
theorem dX11_needQuarter_27 : decode cX11_needQuarter 27 = .ok (.return_, 1) := by decide +kernel
theorem dX11_needRoom_0 : decode cX11_needRoom 0 = .ok (.aload_n 0, 1) := by decide +kernel
theorem dX11_needRoom_1 : decode cX11_needRoom 1 = .ok (.getfield 52, 3) := by decide +kernel
theorem dX11_needRoom_4 : decode cX11_needRoom 4 = .ok (.getfield 441, 3) := by decide +kernel
theorem dX11_needRoom_7 : decode cX11_needRoom 7 = .ok (.bipush 24, 2) := by decide +kernel
theorem dX11_needRoom_9 : decode cX11_needRoom 9 = .ok (.if_icmp .lt 14, 3) := by decide +kernel
theorem dX11_needRoom_12 : decode cX11_needRoom 12 = .ok (.new 106, 3) := by decide +kernel
theorem dX11_needRoom_15 : decode cX11_needRoom 15 = .ok (.dup, 1) := by decide +kernel
theorem dX11_needRoom_16 : decode cX11_needRoom 16 = .ok (.ldc_w 552, 3) := by decide +kernel
theorem dX11_needRoom_19 : decode cX11_needRoom 19 = .ok (.invokespecial 110, 3) := by decide +kernel
theorem dX11_needRoom_22 : decode cX11_needRoom 22 = .ok (.athrow, 1) := by decide +kernel
theorem dX11_needRoom_23 : decode cX11_needRoom 23 = .ok (.return_, 1) := by decide +kernel
theorem dX11_needDocket_0 : decode cX11_needDocket 0 = .ok (.aload_n 0, 1) := by decide +kernel
theorem dX11_needDocket_1 : decode cX11_needDocket 1 = .ok (.getfield 88, 3) := by decide +kernel
theorem dX11_needDocket_4 : decode cX11_needDocket 4 = .ok (.getfield 533, 3) := by decide +kernel
theorem dX11_needDocket_7 : decode cX11_needDocket 7 = .ok (.bipush 20, 2) := by decide +kernel
theorem dX11_needDocket_9 : decode cX11_needDocket 9 = .ok (.if_icmp .lt 14, 3) := by decide +kernel
theorem dX11_needDocket_12 : decode cX11_needDocket 12 = .ok (.new 106, 3) := by decide +kernel
theorem dX11_needDocket_15 : decode cX11_needDocket 15 = .ok (.dup, 1) := by decide +kernel
theorem dX11_needDocket_16 : decode cX11_needDocket 16 = .ok (.ldc_w 554, 3) := by decide +kernel
theorem dX11_needDocket_19 : decode cX11_needDocket 19 = .ok (.invokespecial 110, 3) := by decide +kernel
theorem dX11_needDocket_22 : decode cX11_needDocket 22 = .ok (.athrow, 1) := by decide +kernel
theorem dX11_needDocket_23 : decode cX11_needDocket 23 = .ok (.return_, 1) := by decide +kernel
theorem dX12_init_0 : decode cX12_init 0 = .ok (.aload_n 0, 1) := by decide +kernel
theorem dX12_init_1 : decode cX12_init 1 = .ok (.invokespecial 1, 3) := by decide +kernel
theorem dX12_init_4 : decode cX12_init 4 = .ok (.aload_n 0, 1) := by decide +kernel
theorem dX12_init_5 : decode cX12_init 5 = .ok (.iconst (-1), 1) := by decide +kernel
theorem dX12_init_6 : decode cX12_init 6 = .ok (.putfield 7, 3) := by decide +kernel
theorem dX12_init_9 : decode cX12_init 9 = .ok (.aload_n 0, 1) := by decide +kernel
theorem dX12_init_10 : decode cX12_init 10 = .ok (.aload_n 1, 1) := by decide +kernel
theorem dX12_init_11 : decode cX12_init 11 = .ok (.putfield 13, 3) := by decide +kernel
theorem dX12_init_14 : decode cX12_init 14 = .ok (.aload_n 0, 1) := by decide +kernel
theorem dX12_init_15 : decode cX12_init 15 = .ok (.aload_n 2, 1) := by decide +kernel
theorem dX12_init_16 : decode cX12_init 16 = .ok (.putfield 17, 3) := by decide +kernel
theorem dX12_init_19 : decode cX12_init 19 = .ok (.aload_n 0, 1) := by decide +kernel
theorem dX12_init_20 : decode cX12_init 20 = .ok (.iload_n 3, 1) := by decide +kernel
theorem dX12_init_21 : decode cX12_init 21 = .ok (.putfield 21, 3) := by decide +kernel
theorem dX12_init_24 : decode cX12_init 24 = .ok (.aload_n 0, 1) := by decide +kernel
theorem dX12_init_25 : decode cX12_init 25 = .ok (.iload 4, 2) := by decide +kernel
theorem dX12_init_27 : decode cX12_init 27 = .ok (.putfield 24, 3) := by decide +kernel
theorem dX12_init_30 : decode cX12_init 30 = .ok (.aload_n 0, 1) := by decide +kernel
theorem dX12_init_31 : decode cX12_init 31 = .ok (.iload 5, 2) := by decide +kernel
theorem dX12_init_33 : decode cX12_init 33 = .ok (.putfield 27, 3) := by decide +kernel
theorem dX12_init_36 : decode cX12_init 36 = .ok (.aload_n 0, 1) := by decide +kernel
theorem dX12_init_37 : decode cX12_init 37 = .ok (.iload 6, 2) := by decide +kernel
theorem dX12_init_39 : decode cX12_init 39 = .ok (.putfield 30, 3) := by decide +kernel
theorem dX12_init_42 : decode cX12_init 42 = .ok (.return_, 1) := by decide +kernel
theorem dX13_init_0 : decode cX13_init 0 = .ok (.aload_n 0, 1) := by decide +kernel
theorem dX13_init_1 : decode cX13_init 1 = .ok (.invokespecial 1, 3) := by decide +kernel
theorem dX13_init_4 : decode cX13_init 4 = .ok (.aload_n 0, 1) := by decide +kernel
theorem dX13_init_5 : decode cX13_init 5 = .ok (.iload_n 1, 1) := by decide +kernel
theorem dX13_init_6 : decode cX13_init 6 = .ok (.putfield 7, 3) := by decide +kernel
theorem dX13_init_9 : decode cX13_init 9 = .ok (.aload_n 0, 1) := by decide +kernel
theorem dX13_init_10 : decode cX13_init 10 = .ok (.aload_n 2, 1) := by decide +kernel
theorem dX13_init_11 : decode cX13_init 11 = .ok (.putfield 13, 3) := by decide +kernel
theorem dX13_init_14 : decode cX13_init 14 = .ok (.return_, 1) := by decide +kernel
theorem dX14_init_0 : decode cX14_init 0 = .ok (.aload_n 0, 1) := by decide +kernel
theorem dX14_init_1 : decode cX14_init 1 = .ok (.invokespecial 1, 3) := by decide +kernel
theorem dX14_init_4 : decode cX14_init 4 = .ok (.aload_n 0, 1) := by decide +kernel
theorem dX14_init_5 : decode cX14_init 5 = .ok (.bipush 48, 2) := by decide +kernel
theorem dX14_init_7 : decode cX14_init 7 = .ok (.anewarray 7, 3) := by decide +kernel
theorem dX14_init_10 : decode cX14_init 10 = .ok (.putfield 9, 3) := by decide +kernel
theorem dX14_init_13 : decode cX14_init 13 = .ok (.return_, 1) := by decide +kernel
set_option maxRecDepth 20000 in
theorem ggX14_group_X15_init : GoodIn wsX14_group wsX15_init := goodIn_r _ [7, 8, 9, 10] (by decide +kernel) (by decide +kernel)
set_option maxRecDepth 20000 in
theorem gX14_group_X15_init_n19 : GoodIn wsX14_group (wsX15_init) := ggX14_group_X15_init
theorem dX14_group_0 : decode cX14_group 0 = .ok (.aload_n 0, 1) := by decide +kernel
theorem dX14_group_1 : decode cX14_group 1 = .ok (.getfield 9, 3) := by decide +kernel
theorem dX14_group_4 : decode cX14_group 4 = .ok (.aload_n 0, 1) := by decide +kernel
theorem dX14_group_5 : decode cX14_group 5 = .ok (.getfield 15, 3) := by decide +kernel
theorem dX14_group_8 : decode cX14_group 8 = .ok (.aaload, 1) := by decide +kernel
theorem dX14_group_9 : decode cX14_group 9 = .ok (.ifnonnull 19, 3) := by decide +kernel
theorem dX14_group_12 : decode cX14_group 12 = .ok (.aload_n 0, 1) := by decide +kernel
theorem dX14_group_13 : decode cX14_group 13 = .ok (.getfield 9, 3) := by decide +kernel
theorem dX14_group_16 : decode cX14_group 16 = .ok (.aload_n 0, 1) := by decide +kernel
theorem dX14_group_17 : decode cX14_group 17 = .ok (.getfield 15, 3) := by decide +kernel
theorem dX14_group_20 : decode cX14_group 20 = .ok (.new 7, 3) := by decide +kernel
theorem dX14_group_23 : decode cX14_group 23 = .ok (.dup, 1) := by decide +kernel
theorem dX14_group_24 : decode cX14_group 24 = .ok (.invokespecial 19, 3) := by decide +kernel
theorem dX14_group_27 : decode cX14_group 27 = .ok (.aastore, 1) := by decide +kernel
theorem dX14_group_28 : decode cX14_group 28 = .ok (.aload_n 0, 1) := by decide +kernel
theorem dX14_group_29 : decode cX14_group 29 = .ok (.dup, 1) := by decide +kernel
theorem dX14_group_30 : decode cX14_group 30 = .ok (.getfield 15, 3) := by decide +kernel
theorem dX14_group_33 : decode cX14_group 33 = .ok (.iconst 1, 1) := by decide +kernel
theorem dX14_group_34 : decode cX14_group 34 = .ok (.iadd, 1) := by decide +kernel
theorem dX14_group_35 : decode cX14_group 35 = .ok (.putfield 15, 3) := by decide +kernel
theorem dX14_group_38 : decode cX14_group 38 = .ok (.aload_n 0, 1) := by decide +kernel
theorem dX14_group_39 : decode cX14_group 39 = .ok (.getfield 9, 3) := by decide +kernel
theorem dX14_group_42 : decode cX14_group 42 = .ok (.aload_n 0, 1) := by decide +kernel
theorem dX14_group_43 : decode cX14_group 43 = .ok (.getfield 15, 3) := by decide +kernel
theorem dX14_group_46 : decode cX14_group 46 = .ok (.iconst 1, 1) := by decide +kernel
theorem dX14_group_47 : decode cX14_group 47 = .ok (.isub, 1) := by decide +kernel
theorem dX14_group_48 : decode cX14_group 48 = .ok (.aaload, 1) := by decide +kernel
theorem dX14_group_49 : decode cX14_group 49 = .ok (.areturn, 1) := by decide +kernel
set_option maxRecDepth 20000 in
theorem ggX14_be_X14_group : GoodIn wsX14_be wsX14_group := goodIn_r _ [11, 6, 5, 12, 13, 14, 15, 16, 17, 18, 19, 37, 38, 39, 40, 41, 42, 43, 44, 45, 46, 47, 48, 49, 50, 51, 52, 53, 54, 55, 56, 57] (by decide +kernel) (by decide +kernel)
set_option maxRecDepth 20000 in
theorem gX14_be_X14_group : GoodIn wsX14_be (wsV RX14 32 RX14 yX14_group wsX14_group) := goodIn_app (goodIn_of _ (by decide +kernel)) ggX14_be_X14_group
set_option maxRecDepth 20000 in
theorem ggX14_be_X15_be : GoodIn wsX14_be wsX15_be := goodIn_r _ [23, 24, 25, 26, 27, 28, 29, 30, 31, 32, 33, 34, 35, 36, 43, 44, 45, 46, 47, 48, 49, 50, 51, 52, 53, 54, 55, 56, 57] (by decide +kernel) (by decide +kernel)
set_option maxRecDepth 20000 in
theorem gX14_be_X15_be : GoodIn wsX14_be (wsV RX14 36 RX15 yX15_be wsX15_be) := goodIn_app (goodIn_of _ (by decide +kernel)) ggX14_be_X15_be
theorem dX14_be_0 : decode cX14_be 0 = .ok (.aload_n 0, 1) := by decide +kernel
theorem dX14_be_1 : decode cX14_be 1 = .ok (.aload_n 1, 1) := by decide +kernel
theorem dX14_be_2 : decode cX14_be 2 = .ok (.getfield 20, 3) := by decide +kernel
theorem dX14_be_5 : decode cX14_be 5 = .ok (.putfield 20, 3) := by decide +kernel
theorem dX14_be_8 : decode cX14_be 8 = .ok (.aload_n 0, 1) := by decide +kernel
theorem dX14_be_9 : decode cX14_be 9 = .ok (.aload_n 1, 1) := by decide +kernel
theorem dX14_be_10 : decode cX14_be 10 = .ok (.getfield 23, 3) := by decide +kernel
theorem dX14_be_13 : decode cX14_be 13 = .ok (.putfield 23, 3) := by decide +kernel
theorem dX14_be_16 : decode cX14_be 16 = .ok (.aload_n 0, 1) := by decide +kernel
theorem dX14_be_17 : decode cX14_be 17 = .ok (.aload_n 1, 1) := by decide +kernel
theorem dX14_be_18 : decode cX14_be 18 = .ok (.getfield 26, 3) := by decide +kernel
theorem dX14_be_21 : decode cX14_be 21 = .ok (.putfield 26, 3) := by decide +kernel
theorem dX14_be_24 : decode cX14_be 24 = .ok (.aload_n 0, 1) := by decide +kernel
theorem dX14_be_25 : decode cX14_be 25 = .ok (.aload_n 1, 1) := by decide +kernel
theorem dX14_be_26 : decode cX14_be 26 = .ok (.getfield 29, 3) := by decide +kernel
theorem dX14_be_29 : decode cX14_be 29 = .ok (.putfield 29, 3) := by decide +kernel
theorem dX14_be_32 : decode cX14_be 32 = .ok (.aload_n 0, 1) := by decide +kernel
theorem dX14_be_33 : decode cX14_be 33 = .ok (.iconst 0, 1) := by decide +kernel
theorem dX14_be_34 : decode cX14_be 34 = .ok (.putfield 15, 3) := by decide +kernel
theorem dX14_be_37 : decode cX14_be 37 = .ok (.iconst 0, 1) := by decide +kernel
theorem dX14_be_38 : decode cX14_be 38 = .ok (.istore_n 2, 1) := by decide +kernel
theorem dX14_be_39 : decode cX14_be 39 = .ok (.iload_n 2, 1) := by decide +kernel
theorem dX14_be_40 : decode cX14_be 40 = .ok (.aload_n 1, 1) := by decide +kernel
theorem dX14_be_41 : decode cX14_be 41 = .ok (.getfield 15, 3) := by decide +kernel
theorem dX14_be_44 : decode cX14_be 44 = .ok (.if_icmp .ge 22, 3) := by decide +kernel
theorem dX14_be_47 : decode cX14_be 47 = .ok (.aload_n 0, 1) := by decide +kernel
theorem dX14_be_48 : decode cX14_be 48 = .ok (.invokevirtual 32, 3) := by decide +kernel
theorem dX14_be_51 : decode cX14_be 51 = .ok (.aload_n 1, 1) := by decide +kernel
theorem dX14_be_52 : decode cX14_be 52 = .ok (.getfield 9, 3) := by decide +kernel
theorem dX14_be_55 : decode cX14_be 55 = .ok (.iload_n 2, 1) := by decide +kernel
theorem dX14_be_56 : decode cX14_be 56 = .ok (.aaload, 1) := by decide +kernel
theorem dX14_be_57 : decode cX14_be 57 = .ok (.invokevirtual 36, 3) := by decide +kernel
theorem dX14_be_60 : decode cX14_be 60 = .ok (.iinc 2 1, 3) := by decide +kernel
theorem dX14_be_63 : decode cX14_be 63 = .ok (.goto (-24), 3) := by decide +kernel
theorem dX14_be_66 : decode cX14_be 66 = .ok (.return_, 1) := by decide +kernel
theorem dX15_init_0 : decode cX15_init 0 = .ok (.aload_n 0, 1) := by decide +kernel
theorem dX15_init_1 : decode cX15_init 1 = .ok (.invokespecial 1, 3) := by decide +kernel
theorem dX15_init_4 : decode cX15_init 4 = .ok (.return_, 1) := by decide +kernel
theorem dX15_be_0 : decode cX15_be 0 = .ok (.aload_n 0, 1) := by decide +kernel
theorem dX15_be_1 : decode cX15_be 1 = .ok (.aload_n 1, 1) := by decide +kernel
theorem dX15_be_2 : decode cX15_be 2 = .ok (.getfield 7, 3) := by decide +kernel
theorem dX15_be_5 : decode cX15_be 5 = .ok (.putfield 7, 3) := by decide +kernel
theorem dX15_be_8 : decode cX15_be 8 = .ok (.aload_n 0, 1) := by decide +kernel
theorem dX15_be_9 : decode cX15_be 9 = .ok (.aload_n 1, 1) := by decide +kernel
theorem dX15_be_10 : decode cX15_be 10 = .ok (.getfield 13, 3) := by decide +kernel
theorem dX15_be_13 : decode cX15_be 13 = .ok (.putfield 13, 3) := by decide +kernel
theorem dX15_be_16 : decode cX15_be 16 = .ok (.aload_n 0, 1) := by decide +kernel
theorem dX15_be_17 : decode cX15_be 17 = .ok (.aload_n 1, 1) := by decide +kernel
theorem dX15_be_18 : decode cX15_be 18 = .ok (.getfield 17, 3) := by decide +kernel
theorem dX15_be_21 : decode cX15_be 21 = .ok (.putfield 17, 3) := by decide +kernel
theorem dX15_be_24 : decode cX15_be 24 = .ok (.aload_n 0, 1) := by decide +kernel
theorem dX15_be_25 : decode cX15_be 25 = .ok (.aload_n 1, 1) := by decide +kernel
theorem dX15_be_26 : decode cX15_be 26 = .ok (.getfield 20, 3) := by decide +kernel
theorem dX15_be_29 : decode cX15_be 29 = .ok (.putfield 20, 3) := by decide +kernel
theorem dX15_be_32 : decode cX15_be 32 = .ok (.aload_n 0, 1) := by decide +kernel
theorem dX15_be_33 : decode cX15_be 33 = .ok (.aload_n 1, 1) := by decide +kernel
theorem dX15_be_34 : decode cX15_be 34 = .ok (.getfield 23, 3) := by decide +kernel
theorem dX15_be_37 : decode cX15_be 37 = .ok (.putfield 23, 3) := by decide +kernel
theorem dX15_be_40 : decode cX15_be 40 = .ok (.aload_n 0, 1) := by decide +kernel
theorem dX15_be_41 : decode cX15_be 41 = .ok (.aload_n 1, 1) := by decide +kernel
theorem dX15_be_42 : decode cX15_be 42 = .ok (.getfield 27, 3) := by decide +kernel
theorem dX15_be_45 : decode cX15_be 45 = .ok (.putfield 27, 3) := by decide +kernel
theorem dX15_be_48 : decode cX15_be 48 = .ok (.aload_n 0, 1) := by decide +kernel
theorem dX15_be_49 : decode cX15_be 49 = .ok (.aload_n 1, 1) := by decide +kernel
theorem dX15_be_50 : decode cX15_be 50 = .ok (.getfield 30, 3) := by decide +kernel
theorem dX15_be_53 : decode cX15_be 53 = .ok (.putfield 30, 3) := by decide +kernel
theorem dX15_be_56 : decode cX15_be 56 = .ok (.aload_n 0, 1) := by decide +kernel
theorem dX15_be_57 : decode cX15_be 57 = .ok (.aload_n 1, 1) := by decide +kernel
theorem dX15_be_58 : decode cX15_be 58 = .ok (.getfield 33, 3) := by decide +kernel
theorem dX15_be_61 : decode cX15_be 61 = .ok (.putfield 33, 3) := by decide +kernel
theorem dX15_be_64 : decode cX15_be 64 = .ok (.aload_n 0, 1) := by decide +kernel
theorem dX15_be_65 : decode cX15_be 65 = .ok (.aload_n 1, 1) := by decide +kernel
theorem dX15_be_66 : decode cX15_be 66 = .ok (.getfield 36, 3) := by decide +kernel
theorem dX15_be_69 : decode cX15_be 69 = .ok (.putfield 36, 3) := by decide +kernel
theorem dX15_be_72 : decode cX15_be 72 = .ok (.aload_n 0, 1) := by decide +kernel
theorem dX15_be_73 : decode cX15_be 73 = .ok (.aload_n 1, 1) := by decide +kernel
theorem dX15_be_74 : decode cX15_be 74 = .ok (.getfield 39, 3) := by decide +kernel
theorem dX15_be_77 : decode cX15_be 77 = .ok (.putfield 39, 3) := by decide +kernel
theorem dX15_be_80 : decode cX15_be 80 = .ok (.aload_n 0, 1) := by decide +kernel
theorem dX15_be_81 : decode cX15_be 81 = .ok (.aload_n 1, 1) := by decide +kernel
theorem dX15_be_82 : decode cX15_be 82 = .ok (.getfield 42, 3) := by decide +kernel
theorem dX15_be_85 : decode cX15_be 85 = .ok (.putfield 42, 3) := by decide +kernel
theorem dX15_be_88 : decode cX15_be 88 = .ok (.aload_n 0, 1) := by decide +kernel
theorem dX15_be_89 : decode cX15_be 89 = .ok (.aload_n 1, 1) := by decide +kernel
theorem dX15_be_90 : decode cX15_be 90 = .ok (.getfield 45, 3) := by decide +kernel
theorem dX15_be_93 : decode cX15_be 93 = .ok (.putfield 45, 3) := by decide +kernel
theorem dX15_be_96 : decode cX15_be 96 = .ok (.aload_n 0, 1) := by decide +kernel
theorem dX15_be_97 : decode cX15_be 97 = .ok (.aload_n 1, 1) := by decide +kernel
theorem dX15_be_98 : decode cX15_be 98 = .ok (.getfield 48, 3) := by decide +kernel
theorem dX15_be_101 : decode cX15_be 101 = .ok (.putfield 48, 3) := by decide +kernel
theorem dX15_be_104 : decode cX15_be 104 = .ok (.return_, 1) := by decide +kernel
theorem dX16_init_0 : decode cX16_init 0 = .ok (.aload_n 0, 1) := by decide +kernel
theorem dX16_init_1 : decode cX16_init 1 = .ok (.invokespecial 1, 3) := by decide +kernel
theorem dX16_init_4 : decode cX16_init 4 = .ok (.aload_n 0, 1) := by decide +kernel
theorem dX16_init_5 : decode cX16_init 5 = .ok (.iconst 1, 1) := by decide +kernel
theorem dX16_init_6 : decode cX16_init 6 = .ok (.putfield 7, 3) := by decide +kernel
theorem dX16_init_9 : decode cX16_init 9 = .ok (.aload_n 0, 1) := by decide +kernel
theorem dX16_init_10 : decode cX16_init 10 = .ok (.iload_n 1, 1) := by decide +kernel
theorem dX16_init_11 : decode cX16_init 11 = .ok (.putfield 13, 3) := by decide +kernel
theorem dX16_init_14 : decode cX16_init 14 = .ok (.aload_n 0, 1) := by decide +kernel
theorem dX16_init_15 : decode cX16_init 15 = .ok (.iload_n 2, 1) := by decide +kernel
theorem dX16_init_16 : decode cX16_init 16 = .ok (.putfield 17, 3) := by decide +kernel
theorem dX16_init_19 : decode cX16_init 19 = .ok (.aload_n 0, 1) := by decide +kernel
theorem dX16_init_20 : decode cX16_init 20 = .ok (.iload_n 3, 1) := by decide +kernel
theorem dX16_init_21 : decode cX16_init 21 = .ok (.putfield 20, 3) := by decide +kernel
theorem dX16_init_24 : decode cX16_init 24 = .ok (.aload_n 0, 1) := by decide +kernel
theorem dX16_init_25 : decode cX16_init 25 = .ok (.iload 4, 2) := by decide +kernel
theorem dX16_init_27 : decode cX16_init 27 = .ok (.putfield 23, 3) := by decide +kernel
theorem dX16_init_30 : decode cX16_init 30 = .ok (.aload_n 0, 1) := by decide +kernel
theorem dX16_init_31 : decode cX16_init 31 = .ok (.iload 5, 2) := by decide +kernel
theorem dX16_init_33 : decode cX16_init 33 = .ok (.putfield 26, 3) := by decide +kernel
theorem dX16_init_36 : decode cX16_init 36 = .ok (.aload_n 0, 1) := by decide +kernel
theorem dX16_init_37 : decode cX16_init 37 = .ok (.iload 6, 2) := by decide +kernel
theorem dX16_init_39 : decode cX16_init 39 = .ok (.putfield 29, 3) := by decide +kernel
theorem dX16_init_42 : decode cX16_init 42 = .ok (.aload_n 0, 1) := by decide +kernel
theorem dX16_init_43 : decode cX16_init 43 = .ok (.iload 7, 2) := by decide +kernel
theorem dX16_init_45 : decode cX16_init 45 = .ok (.putfield 33, 3) := by decide +kernel
theorem dX16_init_48 : decode cX16_init 48 = .ok (.return_, 1) := by decide +kernel
theorem dX17_init_0 : decode cX17_init 0 = .ok (.aload_n 0, 1) := by decide +kernel
theorem dX17_init_1 : decode cX17_init 1 = .ok (.invokespecial 1, 3) := by decide +kernel
theorem dX17_init_4 : decode cX17_init 4 = .ok (.aload_n 0, 1) := by decide +kernel
theorem dX17_init_5 : decode cX17_init 5 = .ok (.iconst 1, 1) := by decide +kernel
theorem dX17_init_6 : decode cX17_init 6 = .ok (.putfield 7, 3) := by decide +kernel
theorem dX17_init_9 : decode cX17_init 9 = .ok (.aload_n 0, 1) := by decide +kernel
theorem dX17_init_10 : decode cX17_init 10 = .ok (.iconst (-1), 1) := by decide +kernel
theorem dX17_init_11 : decode cX17_init 11 = .ok (.putfield 13, 3) := by decide +kernel
theorem dX17_init_14 : decode cX17_init 14 = .ok (.aload_n 0, 1) := by decide +kernel
theorem dX17_init_15 : decode cX17_init 15 = .ok (.iload_n 1, 1) := by decide +kernel
theorem dX17_init_16 : decode cX17_init 16 = .ok (.putfield 17, 3) := by decide +kernel
theorem dX17_init_19 : decode cX17_init 19 = .ok (.aload_n 0, 1) := by decide +kernel
theorem dX17_init_20 : decode cX17_init 20 = .ok (.iload_n 2, 1) := by decide +kernel
theorem dX17_init_21 : decode cX17_init 21 = .ok (.putfield 20, 3) := by decide +kernel
theorem dX17_init_24 : decode cX17_init 24 = .ok (.aload_n 0, 1) := by decide +kernel
theorem dX17_init_25 : decode cX17_init 25 = .ok (.iload_n 3, 1) := by decide +kernel
theorem dX17_init_26 : decode cX17_init 26 = .ok (.putfield 23, 3) := by decide +kernel
theorem dX17_init_29 : decode cX17_init 29 = .ok (.aload_n 0, 1) := by decide +kernel
theorem dX17_init_30 : decode cX17_init 30 = .ok (.iload 4, 2) := by decide +kernel
theorem dX17_init_32 : decode cX17_init 32 = .ok (.putfield 26, 3) := by decide +kernel
theorem dX17_init_35 : decode cX17_init 35 = .ok (.return_, 1) := by decide +kernel
set_option maxRecDepth 20000 in
theorem ggX18_init_Jx4a65c_init_da8c8 : GoodIn wsX18_init wsJx4a65c_init_da8c8 := goodIn_r _ [32, 33, 34, 35, 36, 37, 38, 39, 40, 41, 42, 43, 44, 2, 3, 78, 79, 80] (by decide +kernel) (by decide +kernel)
set_option maxRecDepth 20000 in
theorem gX18_init_Jx4a65c_init_da8c8 : GoodIn wsX18_init (wsJx4a65c_init_da8c8) := ggX18_init_Jx4a65c_init_da8c8
set_option maxRecDepth 20000 in
theorem ggX18_init_X14_init : GoodIn wsX18_init wsX14_init := goodIn_r _ [46, 47, 2, 3, 48, 49, 81, 82, 83, 84, 85, 86] (by decide +kernel) (by decide +kernel)
set_option maxRecDepth 20000 in
theorem gX18_init_X14_init_n28 : GoodIn wsX18_init (wsX14_init) := ggX18_init_X14_init
theorem dX18_init_0 : decode cX18_init 0 = .ok (.aload_n 0, 1) := by decide +kernel
theorem dX18_init_1 : decode cX18_init 1 = .ok (.invokespecial 1, 3) := by decide +kernel
theorem dX18_init_4 : decode cX18_init 4 = .ok (.aload_n 0, 1) := by decide +kernel
theorem dX18_init_5 : decode cX18_init 5 = .ok (.bipush 24, 2) := by decide +kernel
theorem dX18_init_7 : decode cX18_init 7 = .ok (.newarray .int, 2) := by decide +kernel
theorem dX18_init_9 : decode cX18_init 9 = .ok (.putfield 9, 3) := by decide +kernel
theorem dX18_init_12 : decode cX18_init 12 = .ok (.aload_n 0, 1) := by decide +kernel
theorem dX18_init_13 : decode cX18_init 13 = .ok (.new 13, 3) := by decide +kernel
theorem dX18_init_16 : decode cX18_init 16 = .ok (.dup, 1) := by decide +kernel
theorem dX18_init_17 : decode cX18_init 17 = .ok (.invokespecial 15, 3) := by decide +kernel
theorem dX18_init_20 : decode cX18_init 20 = .ok (.putfield 16, 3) := by decide +kernel
theorem dX18_init_23 : decode cX18_init 23 = .ok (.aload_n 0, 1) := by decide +kernel
theorem dX18_init_24 : decode cX18_init 24 = .ok (.new 13, 3) := by decide +kernel
theorem dX18_init_27 : decode cX18_init 27 = .ok (.dup, 1) := by decide +kernel
theorem dX18_init_28 : decode cX18_init 28 = .ok (.invokespecial 15, 3) := by decide +kernel
theorem dX18_init_31 : decode cX18_init 31 = .ok (.putfield 20, 3) := by decide +kernel
theorem dX18_init_34 : decode cX18_init 34 = .ok (.aload_n 0, 1) := by decide +kernel
theorem dX18_init_35 : decode cX18_init 35 = .ok (.new 13, 3) := by decide +kernel
theorem dX18_init_38 : decode cX18_init 38 = .ok (.dup, 1) := by decide +kernel
theorem dX18_init_39 : decode cX18_init 39 = .ok (.invokespecial 15, 3) := by decide +kernel
theorem dX18_init_42 : decode cX18_init 42 = .ok (.putfield 23, 3) := by decide +kernel
theorem dX18_init_45 : decode cX18_init 45 = .ok (.aload_n 0, 1) := by decide +kernel
theorem dX18_init_46 : decode cX18_init 46 = .ok (.new 26, 3) := by decide +kernel
theorem dX18_init_49 : decode cX18_init 49 = .ok (.dup, 1) := by decide +kernel
theorem dX18_init_50 : decode cX18_init 50 = .ok (.invokespecial 28, 3) := by decide +kernel
theorem dX18_init_53 : decode cX18_init 53 = .ok (.putfield 29, 3) := by decide +kernel
theorem dX18_init_56 : decode cX18_init 56 = .ok (.aload_n 0, 1) := by decide +kernel
theorem dX18_init_57 : decode cX18_init 57 = .ok (.bipush 24, 2) := by decide +kernel
theorem dX18_init_59 : decode cX18_init 59 = .ok (.newarray .int, 2) := by decide +kernel
theorem dX18_init_61 : decode cX18_init 61 = .ok (.putfield 33, 3) := by decide +kernel
theorem dX18_init_64 : decode cX18_init 64 = .ok (.aload_n 0, 1) := by decide +kernel
theorem dX18_init_65 : decode cX18_init 65 = .ok (.sipush 256, 3) := by decide +kernel
theorem dX18_init_68 : decode cX18_init 68 = .ok (.newarray .boolean, 2) := by decide +kernel
theorem dX18_init_70 : decode cX18_init 70 = .ok (.putfield 36, 3) := by decide +kernel
theorem dX18_init_73 : decode cX18_init 73 = .ok (.aload_n 0, 1) := by decide +kernel
theorem dX18_init_74 : decode cX18_init 74 = .ok (.sipush 256, 3) := by decide +kernel
theorem dX18_init_77 : decode cX18_init 77 = .ok (.newarray .int, 2) := by decide +kernel
theorem dX18_init_79 : decode cX18_init 79 = .ok (.putfield 40, 3) := by decide +kernel
theorem dX18_init_82 : decode cX18_init 82 = .ok (.aload_n 0, 1) := by decide +kernel
theorem dX18_init_83 : decode cX18_init 83 = .ok (.sipush 256, 3) := by decide +kernel
theorem dX18_init_86 : decode cX18_init 86 = .ok (.newarray .int, 2) := by decide +kernel
theorem dX18_init_88 : decode cX18_init 88 = .ok (.putfield 43, 3) := by decide +kernel
theorem dX18_init_91 : decode cX18_init 91 = .ok (.aload_n 0, 1) := by decide +kernel
theorem dX18_init_92 : decode cX18_init 92 = .ok (.new 26, 3) := by decide +kernel
theorem dX18_init_95 : decode cX18_init 95 = .ok (.dup, 1) := by decide +kernel
theorem dX18_init_96 : decode cX18_init 96 = .ok (.invokespecial 28, 3) := by decide +kernel
theorem dX18_init_99 : decode cX18_init 99 = .ok (.putfield 46, 3) := by decide +kernel
theorem dX18_init_102 : decode cX18_init 102 = .ok (.aload_n 0, 1) := by decide +kernel
theorem dX18_init_103 : decode cX18_init 103 = .ok (.new 26, 3) := by decide +kernel
theorem dX18_init_106 : decode cX18_init 106 = .ok (.dup, 1) := by decide +kernel
theorem dX18_init_107 : decode cX18_init 107 = .ok (.invokespecial 28, 3) := by decide +kernel
theorem dX18_init_110 : decode cX18_init 110 = .ok (.putfield 49, 3) := by decide +kernel
theorem dX18_init_113 : decode cX18_init 113 = .ok (.aload_n 0, 1) := by decide +kernel
theorem dX18_init_114 : decode cX18_init 114 = .ok (.bipush 64, 2) := by decide +kernel
theorem dX18_init_116 : decode cX18_init 116 = .ok (.newarray .int, 2) := by decide +kernel
theorem dX18_init_118 : decode cX18_init 118 = .ok (.putfield 52, 3) := by decide +kernel
theorem dX18_init_121 : decode cX18_init 121 = .ok (.aload_n 0, 1) := by decide +kernel
theorem dX18_init_122 : decode cX18_init 122 = .ok (.bipush 64, 2) := by decide +kernel
theorem dX18_init_124 : decode cX18_init 124 = .ok (.newarray .int, 2) := by decide +kernel
theorem dX18_init_126 : decode cX18_init 126 = .ok (.putfield 55, 3) := by decide +kernel
theorem dX18_init_129 : decode cX18_init 129 = .ok (.aload_n 0, 1) := by decide +kernel
theorem dX18_init_130 : decode cX18_init 130 = .ok (.bipush 40, 2) := by decide +kernel
theorem dX18_init_132 : decode cX18_init 132 = .ok (.newarray .int, 2) := by decide +kernel
theorem dX18_init_134 : decode cX18_init 134 = .ok (.putfield 58, 3) := by decide +kernel
theorem dX18_init_137 : decode cX18_init 137 = .ok (.aload_n 0, 1) := by decide +kernel
theorem dX18_init_138 : decode cX18_init 138 = .ok (.sipush 320, 3) := by decide +kernel
theorem dX18_init_141 : decode cX18_init 141 = .ok (.newarray .int, 2) := by decide +kernel
theorem dX18_init_143 : decode cX18_init 143 = .ok (.putfield 61, 3) := by decide +kernel
theorem dX18_init_146 : decode cX18_init 146 = .ok (.aload_n 0, 1) := by decide +kernel
theorem dX18_init_147 : decode cX18_init 147 = .ok (.sipush 320, 3) := by decide +kernel
theorem dX18_init_150 : decode cX18_init 150 = .ok (.newarray .int, 2) := by decide +kernel
theorem dX18_init_152 : decode cX18_init 152 = .ok (.putfield 64, 3) := by decide +kernel
theorem dX18_init_155 : decode cX18_init 155 = .ok (.aload_n 0, 1) := by decide +kernel
theorem dX18_init_156 : decode cX18_init 156 = .ok (.sipush 256, 3) := by decide +kernel
theorem dX18_init_159 : decode cX18_init 159 = .ok (.newarray .int, 2) := by decide +kernel
theorem dX18_init_161 : decode cX18_init 161 = .ok (.putfield 67, 3) := by decide +kernel
theorem dX18_init_164 : decode cX18_init 164 = .ok (.aload_n 0, 1) := by decide +kernel
theorem dX18_init_165 : decode cX18_init 165 = .ok (.sipush 256, 3) := by decide +kernel
theorem dX18_init_168 : decode cX18_init 168 = .ok (.newarray .int, 2) := by decide +kernel
theorem dX18_init_170 : decode cX18_init 170 = .ok (.putfield 70, 3) := by decide +kernel
theorem dX18_init_173 : decode cX18_init 173 = .ok (.return_, 1) := by decide +kernel
theorem dX18_thrown_0 : decode cX18_thrown 0 = .ok (.aload_n 0, 1) := by decide +kernel
theorem dX18_thrown_1 : decode cX18_thrown 1 = .ok (.getfield 73, 3) := by decide +kernel
theorem dX18_thrown_4 : decode cX18_thrown 4 = .ok (.ireturn, 1) := by decide +kernel
theorem dX18_fails_0 : decode cX18_fails 0 = .ok (.aload_n 0, 1) := by decide +kernel
theorem dX18_fails_1 : decode cX18_fails 1 = .ok (.iload_n 1, 1) := by decide +kernel
theorem dX18_fails_2 : decode cX18_fails 2 = .ok (.putfield 73, 3) := by decide +kernel
theorem dX18_fails_5 : decode cX18_fails 5 = .ok (.iload_n 1, 1) := by decide +kernel
theorem dX18_fails_6 : decode cX18_fails 6 = .ok (.ifCond .le 7, 3) := by decide +kernel
theorem dX18_fails_9 : decode cX18_fails 9 = .ok (.iconst 1, 1) := by decide +kernel
theorem dX18_fails_10 : decode cX18_fails 10 = .ok (.goto 4, 3) := by decide +kernel
theorem dX18_fails_13 : decode cX18_fails 13 = .ok (.iconst 0, 1) := by decide +kernel
theorem dX18_fails_14 : decode cX18_fails 14 = .ok (.ireturn, 1) := by decide +kernel
theorem dX18_in_0 : decode cX18_in 0 = .ok (.iload_n 0, 1) := by decide +kernel
theorem dX18_in_1 : decode cX18_in 1 = .ok (.iload_n 1, 1) := by decide +kernel
theorem dX18_in_2 : decode cX18_in 2 = .ok (.if_icmp .lt 12, 3) := by decide +kernel
theorem dX18_in_5 : decode cX18_in 5 = .ok (.iload_n 0, 1) := by decide +kernel
theorem dX18_in_6 : decode cX18_in 6 = .ok (.iload_n 2, 1) := by decide +kernel
theorem dX18_in_7 : decode cX18_in 7 = .ok (.if_icmp .gt 7, 3) := by decide +kernel
theorem dX18_in_10 : decode cX18_in 10 = .ok (.iconst 1, 1) := by decide +kernel
theorem dX18_in_11 : decode cX18_in 11 = .ok (.goto 4, 3) := by decide +kernel
theorem dX18_in_14 : decode cX18_in 14 = .ok (.iconst 0, 1) := by decide +kernel
theorem dX18_in_15 : decode cX18_in 15 = .ok (.ireturn, 1) := by decide +kernel
set_option maxRecDepth 20000 in
theorem ggX18_type_X18_in : GoodIn wsX18_type wsX18_in := goodIn_r _ [6] (by decide +kernel) (by decide +kernel)
set_option maxRecDepth 20000 in
theorem gX18_type_X18_in : GoodIn wsX18_type (va_wsS RX18 77 yX18_in wsX18_in) := goodIn_app (goodIn_of _ (by decide +kernel)) ggX18_type_X18_in
set_option maxRecDepth 20000 in
theorem ggX18_type_X18_fails : GoodIn wsX18_type wsX18_fails := goodIn_r _ [10, 11, 12, 13, 14, 15, 16, 17, 18, 19, 20, 21, 22, 23, 24, 25, 26, 27, 28, 29, 30, 31, 32, 33, 34, 35, 36, 37, 38, 39] (by decide +kernel) (by decide +kernel)
set_option maxRecDepth 20000 in
theorem gX18_type_X18_fails : GoodIn wsX18_type (wsV RX18 84 RX18 yX18_fails wsX18_fails) := goodIn_app (goodIn_of _ (by decide +kernel)) ggX18_type_X18_fails
theorem dX18_type_0 : decode cX18_type 0 = .ok (.aload_n 0, 1) := by decide +kernel
theorem dX18_type_1 : decode cX18_type 1 = .ok (.iload_n 1, 1) := by decide +kernel
theorem dX18_type_2 : decode cX18_type 2 = .ok (.iconst 0, 1) := by decide +kernel
theorem dX18_type_3 : decode cX18_type 3 = .ok (.bipush 99, 2) := by decide +kernel
theorem dX18_type_5 : decode cX18_type 5 = .ok (.invokestatic 77, 3) := by decide +kernel
theorem dX18_type_8 : decode cX18_type 8 = .ok (.ifCond .ne 7, 3) := by decide +kernel
theorem dX18_type_11 : decode cX18_type 11 = .ok (.iconst 1, 1) := by decide +kernel
theorem dX18_type_12 : decode cX18_type 12 = .ok (.goto 17, 3) := by decide +kernel
theorem dX18_type_15 : decode cX18_type 15 = .ok (.aload_n 0, 1) := by decide +kernel
theorem dX18_type_16 : decode cX18_type 16 = .ok (.getfield 81, 3) := by decide +kernel
theorem dX18_type_19 : decode cX18_type 19 = .ok (.bipush 24, 2) := by decide +kernel
theorem dX18_type_21 : decode cX18_type 21 = .ok (.if_icmp .ne 7, 3) := by decide +kernel
theorem dX18_type_24 : decode cX18_type 24 = .ok (.iconst 2, 1) := by decide +kernel
theorem dX18_type_25 : decode cX18_type 25 = .ok (.goto 4, 3) := by decide +kernel
theorem dX18_type_28 : decode cX18_type 28 = .ok (.iconst 0, 1) := by decide +kernel
theorem dX18_type_29 : decode cX18_type 29 = .ok (.invokevirtual 84, 3) := by decide +kernel
theorem dX18_type_32 : decode cX18_type 32 = .ok (.ifCond .eq 5, 3) := by decide +kernel
theorem dX18_type_35 : decode cX18_type 35 = .ok (.iconst 0, 1) := by decide +kernel
theorem dX18_type_36 : decode cX18_type 36 = .ok (.ireturn, 1) := by decide +kernel
theorem dX18_type_37 : decode cX18_type 37 = .ok (.aload_n 0, 1) := by decide +kernel
theorem dX18_type_38 : decode cX18_type 38 = .ok (.getfield 9, 3) := by decide +kernel
theorem dX18_type_41 : decode cX18_type 41 = .ok (.aload_n 0, 1) := by decide +kernel
theorem dX18_type_42 : decode cX18_type 42 = .ok (.getfield 81, 3) := by decide +kernel
theorem dX18_type_45 : decode cX18_type 45 = .ok (.iload_n 1, 1) := by decide +kernel
theorem dX18_type_46 : decode cX18_type 46 = .ok (.iastore, 1) := by decide +kernel
theorem dX18_type_47 : decode cX18_type 47 = .ok (.aload_n 0, 1) := by decide +kernel
theorem dX18_type_48 : decode cX18_type 48 = .ok (.dup, 1) := by decide +kernel
theorem dX18_type_49 : decode cX18_type 49 = .ok (.getfield 81, 3) := by decide +kernel
theorem dX18_type_52 : decode cX18_type 52 = .ok (.iconst 1, 1) := by decide +kernel
theorem dX18_type_53 : decode cX18_type 53 = .ok (.iadd, 1) := by decide +kernel
theorem dX18_type_54 : decode cX18_type 54 = .ok (.putfield 81, 3) := by decide +kernel
theorem dX18_type_57 : decode cX18_type 57 = .ok (.aload_n 0, 1) := by decide +kernel
theorem dX18_type_58 : decode cX18_type 58 = .ok (.getfield 81, 3) := by decide +kernel
theorem dX18_type_61 : decode cX18_type 61 = .ok (.ireturn, 1) := by decide +kernel
theorem dX18_erase_0 : decode cX18_erase 0 = .ok (.aload_n 0, 1) := by decide +kernel
theorem dX18_erase_1 : decode cX18_erase 1 = .ok (.iconst 0, 1) := by decide +kernel
theorem dX18_erase_2 : decode cX18_erase 2 = .ok (.putfield 73, 3) := by decide +kernel
theorem dX18_erase_5 : decode cX18_erase 5 = .ok (.aload_n 0, 1) := by decide +kernel
theorem dX18_erase_6 : decode cX18_erase 6 = .ok (.getfield 81, 3) := by decide +kernel
theorem dX18_erase_9 : decode cX18_erase 9 = .ok (.istore_n 1, 1) := by decide +kernel
theorem dX18_erase_10 : decode cX18_erase 10 = .ok (.aload_n 0, 1) := by decide +kernel
theorem dX18_erase_11 : decode cX18_erase 11 = .ok (.iconst 0, 1) := by decide +kernel
theorem dX18_erase_12 : decode cX18_erase 12 = .ok (.putfield 81, 3) := by decide +kernel
theorem dX18_erase_15 : decode cX18_erase 15 = .ok (.iload_n 1, 1) := by decide +kernel
theorem dX18_erase_16 : decode cX18_erase 16 = .ok (.ireturn, 1) := by decide +kernel
theorem dX18_word_0 : decode cX18_word 0 = .ok (.aload_n 0, 1) := by decide +kernel
theorem dX18_word_1 : decode cX18_word 1 = .ok (.getfield 88, 3) := by decide +kernel
theorem dX18_word_4 : decode cX18_word 4 = .ok (.aload_n 0, 1) := by decide +kernel
theorem dX18_word_5 : decode cX18_word 5 = .ok (.getfield 81, 3) := by decide +kernel
theorem dX18_word_8 : decode cX18_word 8 = .ok (.if_icmp .ge 15, 3) := by decide +kernel
theorem dX18_word_11 : decode cX18_word 11 = .ok (.aload_n 0, 1) := by decide +kernel
theorem dX18_word_12 : decode cX18_word 12 = .ok (.getfield 9, 3) := by decide +kernel
theorem dX18_word_15 : decode cX18_word 15 = .ok (.aload_n 0, 1) := by decide +kernel
theorem dX18_word_16 : decode cX18_word 16 = .ok (.getfield 88, 3) := by decide +kernel
theorem dX18_word_19 : decode cX18_word 19 = .ok (.iaload, 1) := by decide +kernel
theorem dX18_word_20 : decode cX18_word 20 = .ok (.goto 4, 3) := by decide +kernel
theorem dX18_word_23 : decode cX18_word 23 = .ok (.iconst (-1), 1) := by decide +kernel
theorem dX18_word_24 : decode cX18_word 24 = .ok (.ireturn, 1) := by decide +kernel
set_option maxRecDepth 20000 in
theorem ggX18_takes_X18_word : GoodIn wsX18_takes wsX18_word := goodIn_ca (goodIn_r _ [8, 2, 9, 3, 13, 14, 15, 16, 17, 18, 19, 20, 21, 22, 23, 24, 25, 26, 27, 28, 29, 30, 31, 32, 33, 34, 35, 36, 37, 38, 39, 40] (by decide +kernel) (by decide +kernel)) (goodIn_sub (fun _ h => List.mem_cons_of_mem _ (List.mem_append_right _ h)) (by decide +kernel))
set_option maxRecDepth 20000 in
theorem gX18_takes_X18_word : GoodIn wsX18_takes (wsV RX18 94 RX18 yX18_word wsX18_word) := goodIn_app (goodIn_of _ (by decide +kernel)) ggX18_takes_X18_word
set_option maxRecDepth 20000 in
theorem ggX18_takes_X18_in : GoodIn wsX18_takes wsX18_in := goodIn_r _ [12] (by decide +kernel) (by decide +kernel)
set_option maxRecDepth 20000 in
theorem gX18_takes_X18_in : GoodIn wsX18_takes (va_wsS RX18 77 yX18_in wsX18_in) := goodIn_app (goodIn_of _ (by decide +kernel)) ggX18_takes_X18_in
theorem dX18_takes_0 : decode cX18_takes 0 = .ok (.aload_n 0, 1) := by decide +kernel
theorem dX18_takes_1 : decode cX18_takes 1 = .ok (.getfield 91, 3) := by decide +kernel
theorem dX18_takes_4 : decode cX18_takes 4 = .ok (.ifCond .ge 37, 3) := by decide +kernel
theorem dX18_takes_7 : decode cX18_takes 7 = .ok (.aload_n 0, 1) := by decide +kernel
theorem dX18_takes_8 : decode cX18_takes 8 = .ok (.invokevirtual 94, 3) := by decide +kernel
theorem dX18_takes_11 : decode cX18_takes 11 = .ok (.iload_n 1, 1) := by decide +kernel
theorem dX18_takes_12 : decode cX18_takes 12 = .ok (.iload_n 2, 1) := by decide +kernel
theorem dX18_takes_13 : decode cX18_takes 13 = .ok (.invokestatic 77, 3) := by decide +kernel
theorem dX18_takes_16 : decode cX18_takes 16 = .ok (.ifCond .eq 25, 3) := by decide +kernel
theorem dX18_takes_19 : decode cX18_takes 19 = .ok (.aload_n 0, 1) := by decide +kernel
theorem dX18_takes_20 : decode cX18_takes 20 = .ok (.dup, 1) := by decide +kernel
theorem dX18_takes_21 : decode cX18_takes 21 = .ok (.getfield 88, 3) := by decide +kernel
theorem dX18_takes_24 : decode cX18_takes 24 = .ok (.iconst 1, 1) := by decide +kernel
theorem dX18_takes_25 : decode cX18_takes 25 = .ok (.iadd, 1) := by decide +kernel
theorem dX18_takes_26 : decode cX18_takes 26 = .ok (.putfield 88, 3) := by decide +kernel
theorem dX18_takes_29 : decode cX18_takes 29 = .ok (.aload_n 0, 1) := by decide +kernel
theorem dX18_takes_30 : decode cX18_takes 30 = .ok (.getfield 9, 3) := by decide +kernel
theorem dX18_takes_33 : decode cX18_takes 33 = .ok (.aload_n 0, 1) := by decide +kernel
theorem dX18_takes_34 : decode cX18_takes 34 = .ok (.getfield 88, 3) := by decide +kernel
theorem dX18_takes_37 : decode cX18_takes 37 = .ok (.iconst 1, 1) := by decide +kernel
theorem dX18_takes_38 : decode cX18_takes 38 = .ok (.isub, 1) := by decide +kernel
theorem dX18_takes_39 : decode cX18_takes 39 = .ok (.iaload, 1) := by decide +kernel
theorem dX18_takes_40 : decode cX18_takes 40 = .ok (.ireturn, 1) := by decide +kernel
theorem dX18_takes_41 : decode cX18_takes 41 = .ok (.aload_n 0, 1) := by decide +kernel
theorem dX18_takes_42 : decode cX18_takes 42 = .ok (.aload_n 0, 1) := by decide +kernel
theorem dX18_takes_43 : decode cX18_takes 43 = .ok (.getfield 91, 3) := by decide +kernel
theorem dX18_takes_46 : decode cX18_takes 46 = .ok (.ifCond .ge 10, 3) := by decide +kernel
theorem dX18_takes_49 : decode cX18_takes 49 = .ok (.aload_n 0, 1) := by decide +kernel
theorem dX18_takes_50 : decode cX18_takes 50 = .ok (.getfield 88, 3) := by decide +kernel
theorem dX18_takes_53 : decode cX18_takes 53 = .ok (.goto 7, 3) := by decide +kernel
theorem dX18_takes_56 : decode cX18_takes 56 = .ok (.aload_n 0, 1) := by decide +kernel
theorem dX18_takes_57 : decode cX18_takes 57 = .ok (.getfield 91, 3) := by decide +kernel
theorem dX18_takes_60 : decode cX18_takes 60 = .ok (.putfield 91, 3) := by decide +kernel
theorem dX18_takes_63 : decode cX18_takes 63 = .ok (.iconst 0, 1) := by decide +kernel
theorem dX18_takes_64 : decode cX18_takes 64 = .ok (.ireturn, 1) := by decide +kernel
set_option maxRecDepth 20000 in
theorem ggX18_may_X18_word : GoodIn wsX18_may wsX18_word := goodIn_ca (goodIn_r _ [6, 7, 8, 9, 17, 18, 19, 20, 21, 22, 23, 24, 25, 26, 27, 28, 29, 30, 31, 32, 33, 34, 35, 36, 37, 38, 39, 40, 41, 42, 43, 44] (by decide +kernel) (by decide +kernel)) (goodIn_sub (fun _ h => List.mem_cons_of_mem _ (List.mem_append_right _ h)) (by decide +kernel))
set_option maxRecDepth 20000 in
theorem gX18_may_X18_word : GoodIn wsX18_may (wsV RX18 94 RX18 yX18_word wsX18_word) := goodIn_app (goodIn_of _ (by decide +kernel)) ggX18_may_X18_word
set_option maxRecDepth 20000 in
theorem ggX18_may_X18_in : GoodIn wsX18_may wsX18_in := goodIn_r _ [12] (by decide +kernel) (by decide +kernel)
set_option maxRecDepth 20000 in
theorem gX18_may_X18_in : GoodIn wsX18_may (va_wsS RX18 77 yX18_in wsX18_in) := goodIn_app (goodIn_of _ (by decide +kernel)) ggX18_may_X18_in
set_option maxRecDepth 20000 in
theorem ggX18_may_X18_takes : GoodIn wsX18_may wsX18_takes := goodIn_ca (goodIn_r _ [16, 1, 7, 9, 2, 3, 4, 5, 6, 8, 10, 11, 12, 17, 18, 19, 20, 21, 22, 23, 24, 25, 26, 27, 28, 29, 30, 31, 32, 33, 34, 35, 36, 37, 38, 39, 40, 41, 42, 43, 44] (by decide +kernel) (by decide +kernel)) (goodIn_sub (fun _ h => List.mem_cons_of_mem _ (List.mem_append_right _ h)) (by decide +kernel))
set_option maxRecDepth 20000 in
theorem gX18_may_X18_takes : GoodIn wsX18_may (wsV RX18 98 RX18 yX18_takes wsX18_takes) := goodIn_app (goodIn_of _ (by decide +kernel)) ggX18_may_X18_takes
theorem dX18_may_0 : decode cX18_may 0 = .ok (.aload_n 0, 1) := by decide +kernel
theorem dX18_may_1 : decode cX18_may 1 = .ok (.getfield 91, 3) := by decide +kernel
theorem dX18_may_4 : decode cX18_may 4 = .ok (.ifCond .ge 24, 3) := by decide +kernel
theorem dX18_may_7 : decode cX18_may 7 = .ok (.aload_n 0, 1) := by decide +kernel
theorem dX18_may_8 : decode cX18_may 8 = .ok (.invokevirtual 94, 3) := by decide +kernel
theorem dX18_may_11 : decode cX18_may 11 = .ok (.iload_n 1, 1) := by decide +kernel
theorem dX18_may_12 : decode cX18_may 12 = .ok (.iload_n 2, 1) := by decide +kernel
theorem dX18_may_13 : decode cX18_may 13 = .ok (.invokestatic 77, 3) := by decide +kernel
theorem dX18_may_16 : decode cX18_may 16 = .ok (.ifCond .eq 12, 3) := by decide +kernel
theorem dX18_may_19 : decode cX18_may 19 = .ok (.aload_n 0, 1) := by decide +kernel
theorem dX18_may_20 : decode cX18_may 20 = .ok (.iload_n 1, 1) := by decide +kernel
theorem dX18_may_21 : decode cX18_may 21 = .ok (.iload_n 2, 1) := by decide +kernel
theorem dX18_may_22 : decode cX18_may 22 = .ok (.invokevirtual 98, 3) := by decide +kernel
theorem dX18_may_25 : decode cX18_may 25 = .ok (.goto 4, 3) := by decide +kernel
theorem dX18_may_28 : decode cX18_may 28 = .ok (.iconst 0, 1) := by decide +kernel
theorem dX18_may_29 : decode cX18_may 29 = .ok (.ireturn, 1) := by decide +kernel
set_option maxRecDepth 20000 in
theorem ggX18_tincture_X18_word : GoodIn wsX18_tincture wsX18_word := goodIn_ca (goodIn_r _ [10, 3, 11, 12, 16, 17, 18, 19, 20, 21, 22, 23, 24, 25, 26, 27, 28, 29, 30, 31, 32, 33, 34, 35, 36, 37, 38, 39, 40, 41, 42, 43] (by decide +kernel) (by decide +kernel)) (goodIn_sub (fun _ h => List.mem_cons_of_mem _ (List.mem_append_right _ h)) (by decide +kernel))
set_option maxRecDepth 20000 in
theorem gX18_tincture_X18_word : GoodIn wsX18_tincture (wsV RX18 94 RX18 yX18_word wsX18_word) := goodIn_app (goodIn_of _ (by decide +kernel)) ggX18_tincture_X18_word
set_option maxRecDepth 20000 in
theorem ggX18_tincture_X18_in : GoodIn wsX18_tincture wsX18_in := goodIn_r _ [15] (by decide +kernel) (by decide +kernel)
set_option maxRecDepth 20000 in
theorem gX18_tincture_X18_in : GoodIn wsX18_tincture (va_wsS RX18 77 yX18_in wsX18_in) := goodIn_app (goodIn_of _ (by decide +kernel)) ggX18_tincture_X18_in
theorem dX18_tincture_0 : decode cX18_tincture 0 = .ok (.aload_n 0, 1) := by decide +kernel
theorem dX18_tincture_1 : decode cX18_tincture 1 = .ok (.getfield 91, 3) := by decide +kernel
theorem dX18_tincture_4 : decode cX18_tincture 4 = .ok (.ifCond .lt 5, 3) := by decide +kernel
theorem dX18_tincture_7 : decode cX18_tincture 7 = .ok (.iconst 0, 1) := by decide +kernel
theorem dX18_tincture_8 : decode cX18_tincture 8 = .ok (.ireturn, 1) := by decide +kernel
theorem dX18_tincture_9 : decode cX18_tincture 9 = .ok (.aload_n 0, 1) := by decide +kernel
theorem dX18_tincture_10 : decode cX18_tincture 10 = .ok (.invokevirtual 94, 3) := by decide +kernel
theorem dX18_tincture_13 : decode cX18_tincture 13 = .ok (.istore_n 2, 1) := by decide +kernel
theorem dX18_tincture_14 : decode cX18_tincture 14 = .ok (.aload_n 0, 1) := by decide +kernel
theorem dX18_tincture_15 : decode cX18_tincture 15 = .ok (.getfield 29, 3) := by decide +kernel
theorem dX18_tincture_18 : decode cX18_tincture 18 = .ok (.getfield 102, 3) := by decide +kernel
theorem dX18_tincture_21 : decode cX18_tincture 21 = .ok (.ifCond .le 7, 3) := by decide +kernel
theorem dX18_tincture_24 : decode cX18_tincture 24 = .ok (.iconst 1, 1) := by decide +kernel
theorem dX18_tincture_25 : decode cX18_tincture 25 = .ok (.goto 4, 3) := by decide +kernel
theorem dX18_tincture_28 : decode cX18_tincture 28 = .ok (.iconst 0, 1) := by decide +kernel
theorem dX18_tincture_29 : decode cX18_tincture 29 = .ok (.istore_n 3, 1) := by decide +kernel
theorem dX18_tincture_30 : decode cX18_tincture 30 = .ok (.iload_n 2, 1) := by decide +kernel
theorem dX18_tincture_31 : decode cX18_tincture 31 = .ok (.iconst 1, 1) := by decide +kernel
theorem dX18_tincture_32 : decode cX18_tincture 32 = .ok (.bipush 8, 2) := by decide +kernel
theorem dX18_tincture_34 : decode cX18_tincture 34 = .ok (.invokestatic 77, 3) := by decide +kernel
theorem dX18_tincture_37 : decode cX18_tincture 37 = .ok (.ifCond .ne 59, 3) := by decide +kernel
theorem dX18_tincture_40 : decode cX18_tincture 40 = .ok (.iload_n 1, 1) := by decide +kernel
theorem dX18_tincture_41 : decode cX18_tincture 41 = .ok (.bipush 102, 2) := by decide +kernel
theorem dX18_tincture_43 : decode cX18_tincture 43 = .ok (.if_icmp .eq 15, 3) := by decide +kernel
theorem dX18_tincture_46 : decode cX18_tincture 46 = .ok (.iload_n 2, 1) := by decide +kernel
theorem dX18_tincture_47 : decode cX18_tincture 47 = .ok (.bipush 31, 2) := by decide +kernel
theorem dX18_tincture_49 : decode cX18_tincture 49 = .ok (.if_icmp .eq 47, 3) := by decide +kernel
theorem dX18_tincture_52 : decode cX18_tincture 52 = .ok (.iload_n 2, 1) := by decide +kernel
theorem dX18_tincture_53 : decode cX18_tincture 53 = .ok (.bipush 32, 2) := by decide +kernel
theorem dX18_tincture_55 : decode cX18_tincture 55 = .ok (.if_icmp .eq 41, 3) := by decide +kernel
theorem dX18_tincture_58 : decode cX18_tincture 58 = .ok (.iload_n 1, 1) := by decide +kernel
theorem dX18_tincture_59 : decode cX18_tincture 59 = .ok (.bipush 103, 2) := by decide +kernel
theorem dX18_tincture_61 : decode cX18_tincture 61 = .ok (.if_icmp .eq 9, 3) := by decide +kernel
theorem dX18_tincture_64 : decode cX18_tincture 64 = .ok (.iload_n 1, 1) := by decide +kernel
theorem dX18_tincture_65 : decode cX18_tincture 65 = .ok (.bipush 110, 2) := by decide +kernel
theorem dX18_tincture_67 : decode cX18_tincture 67 = .ok (.if_icmp .ne 13, 3) := by decide +kernel
theorem dX18_tincture_70 : decode cX18_tincture 70 = .ok (.iload_n 3, 1) := by decide +kernel
theorem dX18_tincture_71 : decode cX18_tincture 71 = .ok (.ifCond .eq 9, 3) := by decide +kernel
theorem dX18_tincture_74 : decode cX18_tincture 74 = .ok (.iload_n 2, 1) := by decide +kernel
theorem dX18_tincture_75 : decode cX18_tincture 75 = .ok (.bipush 33, 2) := by decide +kernel
theorem dX18_tincture_77 : decode cX18_tincture 77 = .ok (.if_icmp .eq 19, 3) := by decide +kernel
theorem dX18_tincture_80 : decode cX18_tincture 80 = .ok (.iload_n 1, 1) := by decide +kernel
theorem dX18_tincture_81 : decode cX18_tincture 81 = .ok (.bipush 103, 2) := by decide +kernel
theorem dX18_tincture_83 : decode cX18_tincture 83 = .ok (.if_icmp .ne 17, 3) := by decide +kernel
theorem dX18_tincture_86 : decode cX18_tincture 86 = .ok (.iload_n 3, 1) := by decide +kernel
theorem dX18_tincture_87 : decode cX18_tincture 87 = .ok (.ifCond .eq 13, 3) := by decide +kernel
theorem dX18_tincture_90 : decode cX18_tincture 90 = .ok (.iload_n 2, 1) := by decide +kernel
theorem dX18_tincture_91 : decode cX18_tincture 91 = .ok (.bipush 35, 2) := by decide +kernel
theorem dX18_tincture_93 : decode cX18_tincture 93 = .ok (.if_icmp .ne 7, 3) := by decide +kernel
theorem dX18_tincture_96 : decode cX18_tincture 96 = .ok (.iconst 1, 1) := by decide +kernel
theorem dX18_tincture_97 : decode cX18_tincture 97 = .ok (.goto 4, 3) := by decide +kernel
theorem dX18_tincture_100 : decode cX18_tincture 100 = .ok (.iconst 0, 1) := by decide +kernel
theorem dX18_tincture_101 : decode cX18_tincture 101 = .ok (.istore 4, 2) := by decide +kernel
theorem dX18_tincture_103 : decode cX18_tincture 103 = .ok (.iload 4, 2) := by decide +kernel
theorem dX18_tincture_105 : decode cX18_tincture 105 = .ok (.ifCond .ne 13, 3) := by decide +kernel
theorem dX18_tincture_108 : decode cX18_tincture 108 = .ok (.aload_n 0, 1) := by decide +kernel
theorem dX18_tincture_109 : decode cX18_tincture 109 = .ok (.aload_n 0, 1) := by decide +kernel
theorem dX18_tincture_110 : decode cX18_tincture 110 = .ok (.getfield 88, 3) := by decide +kernel
theorem dX18_tincture_113 : decode cX18_tincture 113 = .ok (.putfield 91, 3) := by decide +kernel
theorem dX18_tincture_116 : decode cX18_tincture 116 = .ok (.iconst 0, 1) := by decide +kernel
theorem dX18_tincture_117 : decode cX18_tincture 117 = .ok (.ireturn, 1) := by decide +kernel
theorem dX18_tincture_118 : decode cX18_tincture 118 = .ok (.iload_n 2, 1) := by decide +kernel
theorem dX18_tincture_119 : decode cX18_tincture 119 = .ok (.bipush 31, 2) := by decide +kernel
theorem dX18_tincture_121 : decode cX18_tincture 121 = .ok (.if_icmp .ne 10, 3) := by decide +kernel
theorem dX18_tincture_124 : decode cX18_tincture 124 = .ok (.aload_n 0, 1) := by decide +kernel
theorem dX18_tincture_125 : decode cX18_tincture 125 = .ok (.getfield 105, 3) := by decide +kernel
theorem dX18_tincture_128 : decode cX18_tincture 128 = .ok (.goto 36, 3) := by decide +kernel
theorem dX18_tincture_131 : decode cX18_tincture 131 = .ok (.iload_n 2, 1) := by decide +kernel
theorem dX18_tincture_132 : decode cX18_tincture 132 = .ok (.bipush 32, 2) := by decide +kernel
theorem dX18_tincture_134 : decode cX18_tincture 134 = .ok (.if_icmp .ne 13, 3) := by decide +kernel
theorem dX18_tincture_137 : decode cX18_tincture 137 = .ok (.aload_n 0, 1) := by decide +kernel
theorem dX18_tincture_138 : decode cX18_tincture 138 = .ok (.getfield 29, 3) := by decide +kernel
theorem dX18_tincture_141 : decode cX18_tincture 141 = .ok (.getfield 108, 3) := by decide +kernel
theorem dX18_tincture_144 : decode cX18_tincture 144 = .ok (.goto 20, 3) := by decide +kernel
theorem dX18_tincture_147 : decode cX18_tincture 147 = .ok (.iload_n 2, 1) := by decide +kernel
theorem dX18_tincture_148 : decode cX18_tincture 148 = .ok (.bipush 33, 2) := by decide +kernel
theorem dX18_tincture_150 : decode cX18_tincture 150 = .ok (.if_icmp .ne 13, 3) := by decide +kernel
theorem dX18_tincture_153 : decode cX18_tincture 153 = .ok (.aload_n 0, 1) := by decide +kernel
theorem dX18_tincture_154 : decode cX18_tincture 154 = .ok (.getfield 29, 3) := by decide +kernel
theorem dX18_tincture_157 : decode cX18_tincture 157 = .ok (.getfield 111, 3) := by decide +kernel
theorem dX18_tincture_160 : decode cX18_tincture 160 = .ok (.goto 4, 3) := by decide +kernel
theorem dX18_tincture_163 : decode cX18_tincture 163 = .ok (.iload_n 2, 1) := by decide +kernel
theorem dX18_tincture_164 : decode cX18_tincture 164 = .ok (.istore 5, 2) := by decide +kernel
theorem dX18_tincture_166 : decode cX18_tincture 166 = .ok (.iload_n 1, 1) := by decide +kernel
theorem dX18_tincture_167 : decode cX18_tincture 167 = .ok (.bipush 110, 2) := by decide +kernel
theorem dX18_tincture_169 : decode cX18_tincture 169 = .ok (.if_icmp .ne 20, 3) := by decide +kernel
theorem dX18_tincture_172 : decode cX18_tincture 172 = .ok (.iload 5, 2) := by decide +kernel
theorem dX18_tincture_174 : decode cX18_tincture 174 = .ok (.bipush 35, 2) := by decide +kernel
theorem dX18_tincture_176 : decode cX18_tincture 176 = .ok (.if_icmp .ne 13, 3) := by decide +kernel
theorem dX18_tincture_179 : decode cX18_tincture 179 = .ok (.aload_n 0, 1) := by decide +kernel
theorem dX18_tincture_180 : decode cX18_tincture 180 = .ok (.getfield 29, 3) := by decide +kernel
theorem dX18_tincture_183 : decode cX18_tincture 183 = .ok (.getfield 108, 3) := by decide +kernel
theorem dX18_tincture_186 : decode cX18_tincture 186 = .ok (.goto 5, 3) := by decide +kernel
theorem dX18_tincture_189 : decode cX18_tincture 189 = .ok (.iload 5, 2) := by decide +kernel
theorem dX18_tincture_191 : decode cX18_tincture 191 = .ok (.istore 5, 2) := by decide +kernel
theorem dX18_tincture_193 : decode cX18_tincture 193 = .ok (.aload_n 0, 1) := by decide +kernel
theorem dX18_tincture_194 : decode cX18_tincture 194 = .ok (.getfield 33, 3) := by decide +kernel
theorem dX18_tincture_197 : decode cX18_tincture 197 = .ok (.aload_n 0, 1) := by decide +kernel
theorem dX18_tincture_198 : decode cX18_tincture 198 = .ok (.getfield 88, 3) := by decide +kernel
theorem dX18_tincture_201 : decode cX18_tincture 201 = .ok (.iload 5, 2) := by decide +kernel
theorem dX18_tincture_203 : decode cX18_tincture 203 = .ok (.iastore, 1) := by decide +kernel
theorem dX18_tincture_204 : decode cX18_tincture 204 = .ok (.aload_n 0, 1) := by decide +kernel
theorem dX18_tincture_205 : decode cX18_tincture 205 = .ok (.iload 5, 2) := by decide +kernel
theorem dX18_tincture_207 : decode cX18_tincture 207 = .ok (.putfield 105, 3) := by decide +kernel
theorem dX18_tincture_210 : decode cX18_tincture 210 = .ok (.aload_n 0, 1) := by decide +kernel
theorem dX18_tincture_211 : decode cX18_tincture 211 = .ok (.dup, 1) := by decide +kernel
theorem dX18_tincture_212 : decode cX18_tincture 212 = .ok (.getfield 88, 3) := by decide +kernel
theorem dX18_tincture_215 : decode cX18_tincture 215 = .ok (.iconst 1, 1) := by decide +kernel
theorem dX18_tincture_216 : decode cX18_tincture 216 = .ok (.iadd, 1) := by decide +kernel
theorem dX18_tincture_217 : decode cX18_tincture 217 = .ok (.putfield 88, 3) := by decide +kernel
theorem dX18_tincture_220 : decode cX18_tincture 220 = .ok (.iload 5, 2) := by decide +kernel
theorem dX18_tincture_222 : decode cX18_tincture 222 = .ok (.ireturn, 1) := by decide +kernel
set_option maxRecDepth 20000 in
theorem ggX18_readCharges_X18_takes : GoodIn wsX18_readCharges wsX18_takes := goodIn_ca (goodIn_r _ [5, 6, 7, 8, 9, 10, 11, 4, 12, 13, 14, 15, 16, 36, 37, 38, 39, 40, 41, 42, 43, 44, 45, 46, 47, 48, 49, 50, 51, 52, 53, 54, 55, 56, 57, 58, 59, 60, 61, 62, 63] (by decide +kernel) (by decide +kernel)) (goodIn_sub (fun _ h => List.mem_cons_of_mem _ (List.mem_append_right _ h)) (by decide +kernel))
set_option maxRecDepth 20000 in
theorem gX18_readCharges_X18_takes : GoodIn wsX18_readCharges (wsV RX18 98 RX18 yX18_takes wsX18_takes) := goodIn_app (goodIn_of _ (by decide +kernel)) ggX18_readCharges_X18_takes
set_option maxRecDepth 20000 in
theorem ggX18_readCharges_X18_may : GoodIn wsX18_readCharges wsX18_may := goodIn_ca (goodIn_r _ [20, 6, 9, 10, 11, 4, 12, 7, 13, 8, 14, 15, 16, 1, 2, 3, 5, 36, 37, 38, 39, 40, 41, 42, 43, 44, 45, 46, 47, 48, 49, 50, 51, 52, 53, 54, 55, 56, 57, 58, 59, 60, 61, 62, 63] (by decide +kernel) (by decide +kernel)) (goodIn_sub (fun _ h => List.mem_cons_of_mem _ (List.mem_append_right _ h)) (by decide +kernel))
set_option maxRecDepth 20000 in
theorem gX18_readCharges_X18_may : GoodIn wsX18_readCharges (wsV RX18 122 RX18 yX18_may wsX18_may) := goodIn_app (goodIn_of _ (by decide +kernel)) ggX18_readCharges_X18_may
theorem dX18_readCharges_0 : decode cX18_readCharges 0 = .ok (.aload_n 1, 1) := by decide +kernel
theorem dX18_readCharges_1 : decode cX18_readCharges 1 = .ok (.aload_n 0, 1) := by decide +kernel
theorem dX18_readCharges_2 : decode cX18_readCharges 2 = .ok (.bipush 61, 2) := by decide +kernel
theorem dX18_readCharges_4 : decode cX18_readCharges 4 = .ok (.bipush 69, 2) := by decide +kernel
theorem dX18_readCharges_6 : decode cX18_readCharges 6 = .ok (.invokevirtual 98, 3) := by decide +kernel
theorem dX18_readCharges_9 : decode cX18_readCharges 9 = .ok (.bipush 60, 2) := by decide +kernel
theorem dX18_readCharges_11 : decode cX18_readCharges 11 = .ok (.isub, 1) := by decide +kernel
theorem dX18_readCharges_12 : decode cX18_readCharges 12 = .ok (.putfield 114, 3) := by decide +kernel
theorem dX18_readCharges_15 : decode cX18_readCharges 15 = .ok (.aload_n 1, 1) := by decide +kernel
theorem dX18_readCharges_16 : decode cX18_readCharges 16 = .ok (.aload_n 0, 1) := by decide +kernel
theorem dX18_readCharges_17 : decode cX18_readCharges 17 = .ok (.bipush 51, 2) := by decide +kernel
theorem dX18_readCharges_19 : decode cX18_readCharges 19 = .ok (.bipush 58, 2) := by decide +kernel
theorem dX18_readCharges_21 : decode cX18_readCharges 21 = .ok (.invokevirtual 98, 3) := by decide +kernel
theorem dX18_readCharges_24 : decode cX18_readCharges 24 = .ok (.putfield 119, 3) := by decide +kernel
theorem dX18_readCharges_27 : decode cX18_readCharges 27 = .ok (.aload_n 1, 1) := by decide +kernel
theorem dX18_readCharges_28 : decode cX18_readCharges 28 = .ok (.aload_n 0, 1) := by decide +kernel
theorem dX18_readCharges_29 : decode cX18_readCharges 29 = .ok (.bipush 45, 2) := by decide +kernel
theorem dX18_readCharges_31 : decode cX18_readCharges 31 = .ok (.bipush 46, 2) := by decide +kernel
theorem dX18_readCharges_33 : decode cX18_readCharges 33 = .ok (.invokevirtual 122, 3) := by decide +kernel
theorem dX18_readCharges_36 : decode cX18_readCharges 36 = .ok (.putfield 125, 3) := by decide +kernel
theorem dX18_readCharges_39 : decode cX18_readCharges 39 = .ok (.return_, 1) := by decide +kernel
set_option maxRecDepth 20000 in
theorem ggX18_readGroup_X14_group : GoodIn wsX18_readGroup wsX14_group := goodIn_r _ [7, 8, 9, 10, 11, 12, 13, 14, 15, 16, 17, 90, 91, 92, 93, 94, 95, 75, 76, 77, 78, 79, 80, 81, 82, 83, 84, 85, 86, 87, 88, 89] (by decide +kernel) (by decide +kernel)
set_option maxRecDepth 20000 in
theorem gX18_readGroup_X14_group : GoodIn wsX18_readGroup (wsV RX18 128 RX14 yX14_group wsX14_group) := goodIn_app (goodIn_of _ (by decide +kernel)) ggX18_readGroup_X14_group
set_option maxRecDepth 20000 in
theorem ggX18_readGroup_X18_word : GoodIn wsX18_readGroup wsX18_word := goodIn_ca (goodIn_r _ [22, 2, 23, 24, 47, 48, 49, 50, 51, 52, 53, 54, 55, 56, 57, 58, 59, 60, 61, 62, 63, 64, 65, 66, 67, 68, 69, 70, 71, 72, 73, 74] (by decide +kernel) (by decide +kernel)) (goodIn_sub (fun _ h => List.mem_cons_of_mem _ (List.mem_append_right _ h)) (by decide +kernel))
set_option maxRecDepth 20000 in
theorem gX18_readGroup_X18_word : GoodIn wsX18_readGroup (wsV RX18 94 RX18 yX18_word wsX18_word) := goodIn_app (goodIn_of _ (by decide +kernel)) ggX18_readGroup_X18_word
set_option maxRecDepth 20000 in
theorem ggX18_readGroup_X18_in : GoodIn wsX18_readGroup wsX18_in := goodIn_r _ [27] (by decide +kernel) (by decide +kernel)
set_option maxRecDepth 20000 in
theorem gX18_readGroup_X18_in : GoodIn wsX18_readGroup (va_wsS RX18 77 yX18_in wsX18_in) := goodIn_app (goodIn_of _ (by decide +kernel)) ggX18_readGroup_X18_in
set_option maxRecDepth 20000 in
theorem ggX18_readGroup_X18_takes : GoodIn wsX18_readGroup wsX18_takes := goodIn_ca (goodIn_r _ [31, 32, 2, 24, 18, 19, 20, 21, 22, 23, 25, 26, 27, 47, 48, 49, 50, 51, 52, 53, 54, 55, 56, 57, 58, 59, 60, 61, 62, 63, 64, 65, 66, 67, 68, 69, 70, 71, 72, 73, 74] (by decide +kernel) (by decide +kernel)) (goodIn_sub (fun _ h => List.mem_cons_of_mem _ (List.mem_append_right _ h)) (by decide +kernel))
set_option maxRecDepth 20000 in
theorem gX18_readGroup_X18_takes : GoodIn wsX18_readGroup (wsV RX18 98 RX18 yX18_takes wsX18_takes) := goodIn_app (goodIn_of _ (by decide +kernel)) ggX18_readGroup_X18_takes
set_option maxRecDepth 20000 in
theorem ggX18_readGroup_X18_may : GoodIn wsX18_readGroup wsX18_may := goodIn_ca (goodIn_r _ [36, 32, 18, 19, 20, 21, 22, 2, 23, 24, 25, 26, 27, 28, 29, 30, 31, 47, 48, 49, 50, 51, 52, 53, 54, 55, 56, 57, 58, 59, 60, 61, 62, 63, 64, 65, 66, 67, 68, 69, 70, 71, 72, 73, 74] (by decide +kernel) (by decide +kernel)) (goodIn_sub (fun _ h => List.mem_cons_of_mem _ (List.mem_append_right _ h)) (by decide +kernel))
set_option maxRecDepth 20000 in
theorem gX18_readGroup_X18_may : GoodIn wsX18_readGroup (wsV RX18 122 RX18 yX18_may wsX18_may) := goodIn_app (goodIn_of _ (by decide +kernel)) ggX18_readGroup_X18_may
set_option maxRecDepth 20000 in
theorem ggX18_readGroup_X18_tincture : GoodIn wsX18_readGroup wsX18_tincture := goodIn_ca (goodIn_r _ [40, 32, 1, 2, 41, 42, 18, 19, 20, 21, 22, 23, 24, 25, 26, 27, 47, 48, 49, 50, 51, 52, 53, 54, 55, 56, 57, 58, 59, 60, 61, 62, 63, 64, 65, 66, 67, 68, 69, 70, 71, 72, 73, 74, 90, 91, 92, 93, 94, 95] (by decide +kernel) (by decide +kernel)) (goodIn_sub (fun _ h => List.mem_cons_of_mem _ (List.mem_append_right _ h)) (by decide +kernel))
set_option maxRecDepth 20000 in
theorem gX18_readGroup_X18_tincture : GoodIn wsX18_readGroup (wsV RX18 149 RX18 yX18_tincture wsX18_tincture) := goodIn_app (goodIn_of _ (by decide +kernel)) ggX18_readGroup_X18_tincture
set_option maxRecDepth 20000 in
theorem ggX18_readGroup_X18_readCharges : GoodIn wsX18_readGroup wsX18_readCharges := goodIn_ca (goodIn_r _ [46, 28, 29, 30, 21, 31, 32, 2, 24, 18, 19, 20, 22, 23, 25, 26, 27, 33, 34, 35, 36, 75, 76, 77, 78, 79, 80, 81, 82, 83, 84, 85, 86, 87, 88, 89, 47, 48, 49, 50, 51, 52, 53, 54, 55, 56, 57, 58, 59, 60, 61, 62, 63, 64, 65, 66, 67, 68, 69, 70, 71, 72, 73, 74] (by decide +kernel) (by decide +kernel)) (goodIn_sub (fun _ h => List.mem_cons_of_mem _ (List.mem_append_right _ h)) (by decide +kernel))
set_option maxRecDepth 20000 in
theorem gX18_readGroup_X18_readCharges : GoodIn wsX18_readGroup (wsV RX18 167 RX18 yX18_readCharges wsX18_readCharges) := goodIn_app (goodIn_of _ (by decide +kernel)) ggX18_readGroup_X18_readCharges
theorem dX18_readGroup_0 : decode cX18_readGroup 0 = .ok (.aload_n 0, 1) := by decide +kernel
theorem dX18_readGroup_1 : decode cX18_readGroup 1 = .ok (.getfield 29, 3) := by decide +kernel
theorem dX18_readGroup_4 : decode cX18_readGroup 4 = .ok (.invokevirtual 128, 3) := by decide +kernel
theorem dX18_readGroup_7 : decode cX18_readGroup 7 = .ok (.astore_n 1, 1) := by decide +kernel
theorem dX18_readGroup_8 : decode cX18_readGroup 8 = .ok (.aload_n 1, 1) := by decide +kernel
theorem dX18_readGroup_9 : decode cX18_readGroup 9 = .ok (.iconst 0, 1) := by decide +kernel
theorem dX18_readGroup_10 : decode cX18_readGroup 10 = .ok (.putfield 132, 3) := by decide +kernel
theorem dX18_readGroup_13 : decode cX18_readGroup 13 = .ok (.aload_n 1, 1) := by decide +kernel
theorem dX18_readGroup_14 : decode cX18_readGroup 14 = .ok (.iconst 0, 1) := by decide +kernel
theorem dX18_readGroup_15 : decode cX18_readGroup 15 = .ok (.putfield 135, 3) := by decide +kernel
theorem dX18_readGroup_18 : decode cX18_readGroup 18 = .ok (.aload_n 1, 1) := by decide +kernel
theorem dX18_readGroup_19 : decode cX18_readGroup 19 = .ok (.iconst 0, 1) := by decide +kernel
theorem dX18_readGroup_20 : decode cX18_readGroup 20 = .ok (.putfield 139, 3) := by decide +kernel
theorem dX18_readGroup_23 : decode cX18_readGroup 23 = .ok (.aload_n 0, 1) := by decide +kernel
theorem dX18_readGroup_24 : decode cX18_readGroup 24 = .ok (.invokevirtual 94, 3) := by decide +kernel
theorem dX18_readGroup_27 : decode cX18_readGroup 27 = .ok (.istore_n 2, 1) := by decide +kernel
theorem dX18_readGroup_28 : decode cX18_readGroup 28 = .ok (.iload_n 2, 1) := by decide +kernel
theorem dX18_readGroup_29 : decode cX18_readGroup 29 = .ok (.bipush 21, 2) := by decide +kernel
theorem dX18_readGroup_31 : decode cX18_readGroup 31 = .ok (.bipush 28, 2) := by decide +kernel
theorem dX18_readGroup_33 : decode cX18_readGroup 33 = .ok (.invokestatic 77, 3) := by decide +kernel
theorem dX18_readGroup_36 : decode cX18_readGroup 36 = .ok (.ifCond .eq 133, 3) := by decide +kernel
theorem dX18_readGroup_39 : decode cX18_readGroup 39 = .ok (.aload_n 1, 1) := by decide +kernel
theorem dX18_readGroup_40 : decode cX18_readGroup 40 = .ok (.bipush 111, 2) := by decide +kernel
theorem dX18_readGroup_42 : decode cX18_readGroup 42 = .ok (.putfield 142, 3) := by decide +kernel
theorem dX18_readGroup_45 : decode cX18_readGroup 45 = .ok (.aload_n 1, 1) := by decide +kernel
theorem dX18_readGroup_46 : decode cX18_readGroup 46 = .ok (.aload_n 0, 1) := by decide +kernel
theorem dX18_readGroup_47 : decode cX18_readGroup 47 = .ok (.bipush 21, 2) := by decide +kernel
theorem dX18_readGroup_49 : decode cX18_readGroup 49 = .ok (.bipush 28, 2) := by decide +kernel
theorem dX18_readGroup_51 : decode cX18_readGroup 51 = .ok (.invokevirtual 98, 3) := by decide +kernel
theorem dX18_readGroup_54 : decode cX18_readGroup 54 = .ok (.putfield 146, 3) := by decide +kernel
theorem dX18_readGroup_57 : decode cX18_readGroup 57 = .ok (.aload_n 1, 1) := by decide +kernel
theorem dX18_readGroup_58 : decode cX18_readGroup 58 = .ok (.iload_n 2, 1) := by decide +kernel
theorem dX18_readGroup_59 : decode cX18_readGroup 59 = .ok (.bipush 25, 2) := by decide +kernel
theorem dX18_readGroup_61 : decode cX18_readGroup 61 = .ok (.if_icmp .eq 15, 3) := by decide +kernel
theorem dX18_readGroup_64 : decode cX18_readGroup 64 = .ok (.iload_n 2, 1) := by decide +kernel
theorem dX18_readGroup_65 : decode cX18_readGroup 65 = .ok (.bipush 26, 2) := by decide +kernel
theorem dX18_readGroup_67 : decode cX18_readGroup 67 = .ok (.if_icmp .eq 9, 3) := by decide +kernel
theorem dX18_readGroup_70 : decode cX18_readGroup 70 = .ok (.iload_n 2, 1) := by decide +kernel
theorem dX18_readGroup_71 : decode cX18_readGroup 71 = .ok (.bipush 28, 2) := by decide +kernel
theorem dX18_readGroup_73 : decode cX18_readGroup 73 = .ok (.if_icmp .ne 7, 3) := by decide +kernel
theorem dX18_readGroup_76 : decode cX18_readGroup 76 = .ok (.iconst 0, 1) := by decide +kernel
theorem dX18_readGroup_77 : decode cX18_readGroup 77 = .ok (.goto 11, 3) := by decide +kernel
theorem dX18_readGroup_80 : decode cX18_readGroup 80 = .ok (.aload_n 0, 1) := by decide +kernel
theorem dX18_readGroup_81 : decode cX18_readGroup 81 = .ok (.bipush 9, 2) := by decide +kernel
theorem dX18_readGroup_83 : decode cX18_readGroup 83 = .ok (.bipush 10, 2) := by decide +kernel
theorem dX18_readGroup_85 : decode cX18_readGroup 85 = .ok (.invokevirtual 122, 3) := by decide +kernel
theorem dX18_readGroup_88 : decode cX18_readGroup 88 = .ok (.putfield 132, 3) := by decide +kernel
theorem dX18_readGroup_91 : decode cX18_readGroup 91 = .ok (.aload_n 1, 1) := by decide +kernel
theorem dX18_readGroup_92 : decode cX18_readGroup 92 = .ok (.aload_n 0, 1) := by decide +kernel
theorem dX18_readGroup_93 : decode cX18_readGroup 93 = .ok (.bipush 103, 2) := by decide +kernel
theorem dX18_readGroup_95 : decode cX18_readGroup 95 = .ok (.invokevirtual 149, 3) := by decide +kernel
theorem dX18_readGroup_98 : decode cX18_readGroup 98 = .ok (.putfield 153, 3) := by decide +kernel
theorem dX18_readGroup_101 : decode cX18_readGroup 101 = .ok (.aload_n 0, 1) := by decide +kernel
theorem dX18_readGroup_102 : decode cX18_readGroup 102 = .ok (.bipush 36, 2) := by decide +kernel
theorem dX18_readGroup_104 : decode cX18_readGroup 104 = .ok (.bipush 36, 2) := by decide +kernel
theorem dX18_readGroup_106 : decode cX18_readGroup 106 = .ok (.invokevirtual 122, 3) := by decide +kernel
theorem dX18_readGroup_109 : decode cX18_readGroup 109 = .ok (.ifCond .le 152, 3) := by decide +kernel
theorem dX18_readGroup_112 : decode cX18_readGroup 112 = .ok (.aload_n 1, 1) := by decide +kernel
theorem dX18_readGroup_113 : decode cX18_readGroup 113 = .ok (.iconst 1, 1) := by decide +kernel
theorem dX18_readGroup_114 : decode cX18_readGroup 114 = .ok (.putfield 135, 3) := by decide +kernel
theorem dX18_readGroup_117 : decode cX18_readGroup 117 = .ok (.aload_n 1, 1) := by decide +kernel
theorem dX18_readGroup_118 : decode cX18_readGroup 118 = .ok (.aload_n 0, 1) := by decide +kernel
theorem dX18_readGroup_119 : decode cX18_readGroup 119 = .ok (.bipush 61, 2) := by decide +kernel
theorem dX18_readGroup_121 : decode cX18_readGroup 121 = .ok (.bipush 69, 2) := by decide +kernel
theorem dX18_readGroup_123 : decode cX18_readGroup 123 = .ok (.invokevirtual 98, 3) := by decide +kernel
theorem dX18_readGroup_126 : decode cX18_readGroup 126 = .ok (.bipush 60, 2) := by decide +kernel
theorem dX18_readGroup_128 : decode cX18_readGroup 128 = .ok (.isub, 1) := by decide +kernel
theorem dX18_readGroup_129 : decode cX18_readGroup 129 = .ok (.putfield 155, 3) := by decide +kernel
theorem dX18_readGroup_132 : decode cX18_readGroup 132 = .ok (.aload_n 1, 1) := by decide +kernel
theorem dX18_readGroup_133 : decode cX18_readGroup 133 = .ok (.aload_n 0, 1) := by decide +kernel
theorem dX18_readGroup_134 : decode cX18_readGroup 134 = .ok (.bipush 51, 2) := by decide +kernel
theorem dX18_readGroup_136 : decode cX18_readGroup 136 = .ok (.bipush 58, 2) := by decide +kernel
theorem dX18_readGroup_138 : decode cX18_readGroup 138 = .ok (.invokevirtual 98, 3) := by decide +kernel
theorem dX18_readGroup_141 : decode cX18_readGroup 141 = .ok (.putfield 158, 3) := by decide +kernel
theorem dX18_readGroup_144 : decode cX18_readGroup 144 = .ok (.aload_n 1, 1) := by decide +kernel
theorem dX18_readGroup_145 : decode cX18_readGroup 145 = .ok (.aload_n 0, 1) := by decide +kernel
theorem dX18_readGroup_146 : decode cX18_readGroup 146 = .ok (.bipush 45, 2) := by decide +kernel
theorem dX18_readGroup_148 : decode cX18_readGroup 148 = .ok (.bipush 46, 2) := by decide +kernel
theorem dX18_readGroup_150 : decode cX18_readGroup 150 = .ok (.invokevirtual 122, 3) := by decide +kernel
theorem dX18_readGroup_153 : decode cX18_readGroup 153 = .ok (.putfield 161, 3) := by decide +kernel
theorem dX18_readGroup_156 : decode cX18_readGroup 156 = .ok (.aload_n 1, 1) := by decide +kernel
theorem dX18_readGroup_157 : decode cX18_readGroup 157 = .ok (.aload_n 0, 1) := by decide +kernel
theorem dX18_readGroup_158 : decode cX18_readGroup 158 = .ok (.bipush 110, 2) := by decide +kernel
theorem dX18_readGroup_160 : decode cX18_readGroup 160 = .ok (.invokevirtual 149, 3) := by decide +kernel
theorem dX18_readGroup_163 : decode cX18_readGroup 163 = .ok (.putfield 164, 3) := by decide +kernel
theorem dX18_readGroup_166 : decode cX18_readGroup 166 = .ok (.goto 95, 3) := by decide +kernel
theorem dX18_readGroup_169 : decode cX18_readGroup 169 = .ok (.iload_n 2, 1) := by decide +kernel
theorem dX18_readGroup_170 : decode cX18_readGroup 170 = .ok (.bipush 39, 2) := by decide +kernel
theorem dX18_readGroup_172 : decode cX18_readGroup 172 = .ok (.if_icmp .ne 56, 3) := by decide +kernel
theorem dX18_readGroup_175 : decode cX18_readGroup 175 = .ok (.aload_n 1, 1) := by decide +kernel
theorem dX18_readGroup_176 : decode cX18_readGroup 176 = .ok (.bipush 115, 2) := by decide +kernel
theorem dX18_readGroup_178 : decode cX18_readGroup 178 = .ok (.putfield 142, 3) := by decide +kernel
theorem dX18_readGroup_181 : decode cX18_readGroup 181 = .ok (.aload_n 0, 1) := by decide +kernel
theorem dX18_readGroup_182 : decode cX18_readGroup 182 = .ok (.dup, 1) := by decide +kernel
theorem dX18_readGroup_183 : decode cX18_readGroup 183 = .ok (.getfield 88, 3) := by decide +kernel
theorem dX18_readGroup_186 : decode cX18_readGroup 186 = .ok (.iconst 1, 1) := by decide +kernel
theorem dX18_readGroup_187 : decode cX18_readGroup 187 = .ok (.iadd, 1) := by decide +kernel
theorem dX18_readGroup_188 : decode cX18_readGroup 188 = .ok (.putfield 88, 3) := by decide +kernel
theorem dX18_readGroup_191 : decode cX18_readGroup 191 = .ok (.aload_n 1, 1) := by decide +kernel
theorem dX18_readGroup_192 : decode cX18_readGroup 192 = .ok (.aload_n 0, 1) := by decide +kernel
theorem dX18_readGroup_193 : decode cX18_readGroup 193 = .ok (.bipush 51, 2) := by decide +kernel
theorem dX18_readGroup_195 : decode cX18_readGroup 195 = .ok (.bipush 58, 2) := by decide +kernel
theorem dX18_readGroup_197 : decode cX18_readGroup 197 = .ok (.invokevirtual 98, 3) := by decide +kernel
theorem dX18_readGroup_200 : decode cX18_readGroup 200 = .ok (.putfield 119, 3) := by decide +kernel
theorem dX18_readGroup_203 : decode cX18_readGroup 203 = .ok (.aload_n 1, 1) := by decide +kernel
theorem dX18_readGroup_204 : decode cX18_readGroup 204 = .ok (.aload_n 0, 1) := by decide +kernel
theorem dX18_readGroup_205 : decode cX18_readGroup 205 = .ok (.bipush 45, 2) := by decide +kernel
theorem dX18_readGroup_207 : decode cX18_readGroup 207 = .ok (.bipush 46, 2) := by decide +kernel
theorem dX18_readGroup_209 : decode cX18_readGroup 209 = .ok (.invokevirtual 122, 3) := by decide +kernel
theorem dX18_readGroup_212 : decode cX18_readGroup 212 = .ok (.putfield 125, 3) := by decide +kernel
theorem dX18_readGroup_215 : decode cX18_readGroup 215 = .ok (.aload_n 1, 1) := by decide +kernel
theorem dX18_readGroup_216 : decode cX18_readGroup 216 = .ok (.aload_n 0, 1) := by decide +kernel
theorem dX18_readGroup_217 : decode cX18_readGroup 217 = .ok (.bipush 103, 2) := by decide +kernel
theorem dX18_readGroup_219 : decode cX18_readGroup 219 = .ok (.invokevirtual 149, 3) := by decide +kernel
theorem dX18_readGroup_222 : decode cX18_readGroup 222 = .ok (.putfield 153, 3) := by decide +kernel
theorem dX18_readGroup_225 : decode cX18_readGroup 225 = .ok (.goto 36, 3) := by decide +kernel
theorem dX18_readGroup_228 : decode cX18_readGroup 228 = .ok (.aload_n 1, 1) := by decide +kernel
theorem dX18_readGroup_229 : decode cX18_readGroup 229 = .ok (.bipush 99, 2) := by decide +kernel
theorem dX18_readGroup_231 : decode cX18_readGroup 231 = .ok (.putfield 142, 3) := by decide +kernel
theorem dX18_readGroup_234 : decode cX18_readGroup 234 = .ok (.aload_n 0, 1) := by decide +kernel
theorem dX18_readGroup_235 : decode cX18_readGroup 235 = .ok (.aload_n 1, 1) := by decide +kernel
theorem dX18_readGroup_236 : decode cX18_readGroup 236 = .ok (.invokevirtual 167, 3) := by decide +kernel
theorem dX18_readGroup_239 : decode cX18_readGroup 239 = .ok (.aload_n 1, 1) := by decide +kernel
theorem dX18_readGroup_240 : decode cX18_readGroup 240 = .ok (.aload_n 0, 1) := by decide +kernel
theorem dX18_readGroup_241 : decode cX18_readGroup 241 = .ok (.bipush 41, 2) := by decide +kernel
theorem dX18_readGroup_243 : decode cX18_readGroup 243 = .ok (.bipush 44, 2) := by decide +kernel
theorem dX18_readGroup_245 : decode cX18_readGroup 245 = .ok (.invokevirtual 122, 3) := by decide +kernel
theorem dX18_readGroup_248 : decode cX18_readGroup 248 = .ok (.putfield 139, 3) := by decide +kernel
theorem dX18_readGroup_251 : decode cX18_readGroup 251 = .ok (.aload_n 1, 1) := by decide +kernel
theorem dX18_readGroup_252 : decode cX18_readGroup 252 = .ok (.aload_n 0, 1) := by decide +kernel
theorem dX18_readGroup_253 : decode cX18_readGroup 253 = .ok (.bipush 103, 2) := by decide +kernel
theorem dX18_readGroup_255 : decode cX18_readGroup 255 = .ok (.invokevirtual 149, 3) := by decide +kernel
theorem dX18_readGroup_258 : decode cX18_readGroup 258 = .ok (.putfield 153, 3) := by decide +kernel
theorem dX18_readGroup_261 : decode cX18_readGroup 261 = .ok (.return_, 1) := by decide +kernel
set_option maxRecDepth 20000 in
theorem ggX18_read_X14_init : GoodIn wsX18_read wsX14_init := goodIn_r _ [10, 11, 12, 13, 14, 15, 56, 57, 58, 59, 60, 61] (by decide +kernel) (by decide +kernel)
set_option maxRecDepth 20000 in
theorem gX18_read_X14_init_n28 : GoodIn wsX18_read (wsX14_init) := ggX18_read_X14_init
set_option maxRecDepth 20000 in
theorem ggX18_read_X18_may : GoodIn wsX18_read wsX18_may := goodIn_ca (goodIn_r _ [20, 5, 21, 22, 23, 19, 24, 6, 8, 25, 26, 27, 28, 29, 30, 31, 32, 62, 63, 64, 65, 66, 67, 68, 69, 70, 71, 72, 73, 74, 75, 76, 77, 78, 79, 80, 81, 82, 83, 84, 85, 86, 87, 88, 89] (by decide +kernel) (by decide +kernel)) (goodIn_sub (fun _ h => List.mem_cons_of_mem _ (List.mem_append_right _ h)) (by decide +kernel))
set_option maxRecDepth 20000 in
theorem gX18_read_X18_may : GoodIn wsX18_read (wsV RX18 122 RX18 yX18_may wsX18_may) := goodIn_app (goodIn_of _ (by decide +kernel)) ggX18_read_X18_may
set_option maxRecDepth 20000 in
theorem ggX18_read_X18_in : GoodIn wsX18_read wsX18_in := goodIn_r _ [28] (by decide +kernel) (by decide +kernel)
set_option maxRecDepth 20000 in
theorem gX18_read_X18_in : GoodIn wsX18_read (va_wsS RX18 77 yX18_in wsX18_in) := goodIn_app (goodIn_of _ (by decide +kernel)) ggX18_read_X18_in
set_option maxRecDepth 20000 in
theorem ggX18_read_X18_tincture : GoodIn wsX18_read wsX18_tincture := goodIn_ca (goodIn_r _ [36, 5, 4, 6, 37, 7, 21, 22, 23, 19, 24, 8, 25, 26, 27, 28, 62, 63, 64, 65, 66, 67, 68, 69, 70, 71, 72, 73, 74, 75, 76, 77, 78, 79, 80, 81, 82, 83, 84, 85, 86, 87, 88, 89, 56, 57, 58, 59, 60, 61] (by decide +kernel) (by decide +kernel)) (goodIn_sub (fun _ h => List.mem_cons_of_mem _ (List.mem_append_right _ h)) (by decide +kernel))
set_option maxRecDepth 20000 in
theorem gX18_read_X18_tincture : GoodIn wsX18_read (wsV RX18 149 RX18 yX18_tincture wsX18_tincture) := goodIn_app (goodIn_of _ (by decide +kernel)) ggX18_read_X18_tincture
set_option maxRecDepth 20000 in
theorem ggX18_read_X18_takes : GoodIn wsX18_read wsX18_takes := goodIn_ca (goodIn_r _ [32, 5, 6, 25, 21, 22, 23, 19, 24, 8, 26, 27, 28, 62, 63, 64, 65, 66, 67, 68, 69, 70, 71, 72, 73, 74, 75, 76, 77, 78, 79, 80, 81, 82, 83, 84, 85, 86, 87, 88, 89] (by decide +kernel) (by decide +kernel)) (goodIn_sub (fun _ h => List.mem_cons_of_mem _ (List.mem_append_right _ h)) (by decide +kernel))
set_option maxRecDepth 20000 in
theorem gX18_read_X18_takes : GoodIn wsX18_read (wsV RX18 98 RX18 yX18_takes wsX18_takes) := goodIn_app (goodIn_of _ (by decide +kernel)) ggX18_read_X18_takes
set_option maxRecDepth 20000 in
theorem ggX18_read_X18_word : GoodIn wsX18_read wsX18_word := goodIn_ca (goodIn_r _ [24, 6, 8, 25, 62, 63, 64, 65, 66, 67, 68, 69, 70, 71, 72, 73, 74, 75, 76, 77, 78, 79, 80, 81, 82, 83, 84, 85, 86, 87, 88, 89] (by decide +kernel) (by decide +kernel)) (goodIn_sub (fun _ h => List.mem_cons_of_mem _ (List.mem_append_right _ h)) (by decide +kernel))
set_option maxRecDepth 20000 in
theorem gX18_read_X18_word : GoodIn wsX18_read (wsV RX18 94 RX18 yX18_word wsX18_word) := goodIn_app (goodIn_of _ (by decide +kernel)) ggX18_read_X18_word
set_option maxRecDepth 20000 in
theorem ggX18_read_X18_readGroup : GoodIn wsX18_read wsX18_readGroup := goodIn_ca (goodIn_r _ [41, 4, 6, 42, 43, 44, 3, 45, 15, 46, 14, 47, 48, 49, 50, 51, 12, 13, 21, 22, 23, 19, 24, 8, 25, 26, 27, 28, 29, 30, 31, 32, 5, 16, 17, 18, 20, 33, 34, 35, 36, 37, 7, 52, 53, 54, 55, 62, 63, 64, 65, 66, 67, 68, 69, 70, 71, 72, 73, 74, 75, 76, 77, 78, 79, 80, 81, 82, 83, 84, 85, 86, 87, 88, 89, 90, 91, 92, 93, 94, 95, 96, 97, 98, 99, 100, 101, 102, 103, 104, 56, 57, 58, 59, 60, 61] (by decide +kernel) (by decide +kernel)) (goodIn_sub (fun _ h => List.mem_cons_of_mem _ (List.mem_append_right _ h)) (by decide +kernel))
set_option maxRecDepth 20000 in
theorem gX18_read_X18_readGroup : GoodIn wsX18_read (wsV RX18 173 RX18 yX18_readGroup wsX18_readGroup) := goodIn_app (goodIn_of _ (by decide +kernel)) ggX18_read_X18_readGroup
theorem dX18_read_0 : decode cX18_read 0 = .ok (.aload_n 0, 1) := by decide +kernel
theorem dX18_read_1 : decode cX18_read 1 = .ok (.new 26, 3) := by decide +kernel
theorem dX18_read_4 : decode cX18_read 4 = .ok (.dup, 1) := by decide +kernel
theorem dX18_read_5 : decode cX18_read 5 = .ok (.invokespecial 28, 3) := by decide +kernel
theorem dX18_read_8 : decode cX18_read 8 = .ok (.putfield 29, 3) := by decide +kernel
theorem dX18_read_11 : decode cX18_read 11 = .ok (.aload_n 0, 1) := by decide +kernel
theorem dX18_read_12 : decode cX18_read 12 = .ok (.iconst (-1), 1) := by decide +kernel
theorem dX18_read_13 : decode cX18_read 13 = .ok (.putfield 91, 3) := by decide +kernel
theorem dX18_read_16 : decode cX18_read 16 = .ok (.aload_n 0, 1) := by decide +kernel
theorem dX18_read_17 : decode cX18_read 17 = .ok (.iconst 0, 1) := by decide +kernel
theorem dX18_read_18 : decode cX18_read 18 = .ok (.putfield 88, 3) := by decide +kernel
theorem dX18_read_21 : decode cX18_read 21 = .ok (.iconst 0, 1) := by decide +kernel
theorem dX18_read_22 : decode cX18_read 22 = .ok (.istore_n 1, 1) := by decide +kernel
theorem dX18_read_23 : decode cX18_read 23 = .ok (.iload_n 1, 1) := by decide +kernel
theorem dX18_read_24 : decode cX18_read 24 = .ok (.bipush 24, 2) := by decide +kernel
theorem dX18_read_26 : decode cX18_read 26 = .ok (.if_icmp .ge 16, 3) := by decide +kernel
theorem dX18_read_29 : decode cX18_read 29 = .ok (.aload_n 0, 1) := by decide +kernel
theorem dX18_read_30 : decode cX18_read 30 = .ok (.getfield 33, 3) := by decide +kernel
theorem dX18_read_33 : decode cX18_read 33 = .ok (.iload_n 1, 1) := by decide +kernel
theorem dX18_read_34 : decode cX18_read 34 = .ok (.iconst 0, 1) := by decide +kernel
theorem dX18_read_35 : decode cX18_read 35 = .ok (.iastore, 1) := by decide +kernel
theorem dX18_read_36 : decode cX18_read 36 = .ok (.iinc 1 1, 3) := by decide +kernel
theorem dX18_read_39 : decode cX18_read 39 = .ok (.goto (-16), 3) := by decide +kernel
theorem dX18_read_42 : decode cX18_read 42 = .ok (.aload_n 0, 1) := by decide +kernel
theorem dX18_read_43 : decode cX18_read 43 = .ok (.getfield 29, 3) := by decide +kernel
theorem dX18_read_46 : decode cX18_read 46 = .ok (.aload_n 0, 1) := by decide +kernel
theorem dX18_read_47 : decode cX18_read 47 = .ok (.bipush 11, 2) := by decide +kernel
theorem dX18_read_49 : decode cX18_read 49 = .ok (.bipush 15, 2) := by decide +kernel
theorem dX18_read_51 : decode cX18_read 51 = .ok (.invokevirtual 122, 3) := by decide +kernel
theorem dX18_read_54 : decode cX18_read 54 = .ok (.putfield 102, 3) := by decide +kernel
theorem dX18_read_57 : decode cX18_read 57 = .ok (.aload_n 0, 1) := by decide +kernel
theorem dX18_read_58 : decode cX18_read 58 = .ok (.getfield 29, 3) := by decide +kernel
theorem dX18_read_61 : decode cX18_read 61 = .ok (.aload_n 0, 1) := by decide +kernel
theorem dX18_read_62 : decode cX18_read 62 = .ok (.getfield 29, 3) := by decide +kernel
theorem dX18_read_65 : decode cX18_read 65 = .ok (.getfield 102, 3) := by decide +kernel
theorem dX18_read_68 : decode cX18_read 68 = .ok (.bipush 11, 2) := by decide +kernel
theorem dX18_read_70 : decode cX18_read 70 = .ok (.bipush 13, 2) := by decide +kernel
theorem dX18_read_72 : decode cX18_read 72 = .ok (.invokestatic 77, 3) := by decide +kernel
theorem dX18_read_75 : decode cX18_read 75 = .ok (.ifCond .eq 14, 3) := by decide +kernel
theorem dX18_read_78 : decode cX18_read 78 = .ok (.aload_n 0, 1) := by decide +kernel
theorem dX18_read_79 : decode cX18_read 79 = .ok (.bipush 9, 2) := by decide +kernel
theorem dX18_read_81 : decode cX18_read 81 = .ok (.bipush 10, 2) := by decide +kernel
theorem dX18_read_83 : decode cX18_read 83 = .ok (.invokevirtual 122, 3) := by decide +kernel
theorem dX18_read_86 : decode cX18_read 86 = .ok (.goto 4, 3) := by decide +kernel
theorem dX18_read_89 : decode cX18_read 89 = .ok (.iconst 0, 1) := by decide +kernel
theorem dX18_read_90 : decode cX18_read 90 = .ok (.putfield 171, 3) := by decide +kernel
theorem dX18_read_93 : decode cX18_read 93 = .ok (.aload_n 0, 1) := by decide +kernel
theorem dX18_read_94 : decode cX18_read 94 = .ok (.getfield 29, 3) := by decide +kernel
theorem dX18_read_97 : decode cX18_read 97 = .ok (.aload_n 0, 1) := by decide +kernel
theorem dX18_read_98 : decode cX18_read 98 = .ok (.bipush 102, 2) := by decide +kernel
theorem dX18_read_100 : decode cX18_read 100 = .ok (.invokevirtual 149, 3) := by decide +kernel
theorem dX18_read_103 : decode cX18_read 103 = .ok (.putfield 108, 3) := by decide +kernel
theorem dX18_read_106 : decode cX18_read 106 = .ok (.aload_n 0, 1) := by decide +kernel
theorem dX18_read_107 : decode cX18_read 107 = .ok (.getfield 29, 3) := by decide +kernel
theorem dX18_read_110 : decode cX18_read 110 = .ok (.getfield 102, 3) := by decide +kernel
theorem dX18_read_113 : decode cX18_read 113 = .ok (.ifCond .le 25, 3) := by decide +kernel
theorem dX18_read_116 : decode cX18_read 116 = .ok (.aload_n 0, 1) := by decide +kernel
theorem dX18_read_117 : decode cX18_read 117 = .ok (.bipush 16, 2) := by decide +kernel
theorem dX18_read_119 : decode cX18_read 119 = .ok (.bipush 16, 2) := by decide +kernel
theorem dX18_read_121 : decode cX18_read 121 = .ok (.invokevirtual 98, 3) := by decide +kernel
theorem dX18_read_124 : decode cX18_read 124 = .ok (.istore_n 1, 1) := by decide +kernel
theorem dX18_read_125 : decode cX18_read 125 = .ok (.aload_n 0, 1) := by decide +kernel
theorem dX18_read_126 : decode cX18_read 126 = .ok (.getfield 29, 3) := by decide +kernel
theorem dX18_read_129 : decode cX18_read 129 = .ok (.aload_n 0, 1) := by decide +kernel
theorem dX18_read_130 : decode cX18_read 130 = .ok (.bipush 115, 2) := by decide +kernel
theorem dX18_read_132 : decode cX18_read 132 = .ok (.invokevirtual 149, 3) := by decide +kernel
theorem dX18_read_135 : decode cX18_read 135 = .ok (.putfield 111, 3) := by decide +kernel
theorem dX18_read_138 : decode cX18_read 138 = .ok (.aload_n 0, 1) := by decide +kernel
theorem dX18_read_139 : decode cX18_read 139 = .ok (.getfield 91, 3) := by decide +kernel
theorem dX18_read_142 : decode cX18_read 142 = .ok (.ifCond .ge 76, 3) := by decide +kernel
theorem dX18_read_145 : decode cX18_read 145 = .ok (.aload_n 0, 1) := by decide +kernel
theorem dX18_read_146 : decode cX18_read 146 = .ok (.getfield 88, 3) := by decide +kernel
theorem dX18_read_149 : decode cX18_read 149 = .ok (.aload_n 0, 1) := by decide +kernel
theorem dX18_read_150 : decode cX18_read 150 = .ok (.getfield 81, 3) := by decide +kernel
theorem dX18_read_153 : decode cX18_read 153 = .ok (.if_icmp .ge 65, 3) := by decide +kernel
theorem dX18_read_156 : decode cX18_read 156 = .ok (.aload_n 0, 1) := by decide +kernel
theorem dX18_read_157 : decode cX18_read 157 = .ok (.getfield 29, 3) := by decide +kernel
theorem dX18_read_160 : decode cX18_read 160 = .ok (.getfield 172, 3) := by decide +kernel
theorem dX18_read_163 : decode cX18_read 163 = .ok (.iconst 4, 1) := by decide +kernel
theorem dX18_read_164 : decode cX18_read 164 = .ok (.if_icmp .ge 54, 3) := by decide +kernel
theorem dX18_read_167 : decode cX18_read 167 = .ok (.aload_n 0, 1) := by decide +kernel
theorem dX18_read_168 : decode cX18_read 168 = .ok (.invokevirtual 94, 3) := by decide +kernel
theorem dX18_read_171 : decode cX18_read 171 = .ok (.istore_n 1, 1) := by decide +kernel
theorem dX18_read_172 : decode cX18_read 172 = .ok (.iload_n 1, 1) := by decide +kernel
theorem dX18_read_173 : decode cX18_read 173 = .ok (.bipush 21, 2) := by decide +kernel
theorem dX18_read_175 : decode cX18_read 175 = .ok (.bipush 28, 2) := by decide +kernel
theorem dX18_read_177 : decode cX18_read 177 = .ok (.invokestatic 77, 3) := by decide +kernel
theorem dX18_read_180 : decode cX18_read 180 = .ok (.ifCond .ne 31, 3) := by decide +kernel
theorem dX18_read_183 : decode cX18_read 183 = .ok (.iload_n 1, 1) := by decide +kernel
theorem dX18_read_184 : decode cX18_read 184 = .ok (.bipush 39, 2) := by decide +kernel
theorem dX18_read_186 : decode cX18_read 186 = .ok (.if_icmp .eq 25, 3) := by decide +kernel
theorem dX18_read_189 : decode cX18_read 189 = .ok (.iload_n 1, 1) := by decide +kernel
theorem dX18_read_190 : decode cX18_read 190 = .ok (.bipush 61, 2) := by decide +kernel
theorem dX18_read_192 : decode cX18_read 192 = .ok (.bipush 69, 2) := by decide +kernel
theorem dX18_read_194 : decode cX18_read 194 = .ok (.invokestatic 77, 3) := by decide +kernel
theorem dX18_read_197 : decode cX18_read 197 = .ok (.ifCond .ne 14, 3) := by decide +kernel
theorem dX18_read_200 : decode cX18_read 200 = .ok (.aload_n 0, 1) := by decide +kernel
theorem dX18_read_201 : decode cX18_read 201 = .ok (.aload_n 0, 1) := by decide +kernel
theorem dX18_read_202 : decode cX18_read 202 = .ok (.getfield 88, 3) := by decide +kernel
theorem dX18_read_205 : decode cX18_read 205 = .ok (.putfield 91, 3) := by decide +kernel
theorem dX18_read_208 : decode cX18_read 208 = .ok (.goto 7, 3) := by decide +kernel
theorem dX18_read_211 : decode cX18_read 211 = .ok (.aload_n 0, 1) := by decide +kernel
theorem dX18_read_212 : decode cX18_read 212 = .ok (.invokevirtual 173, 3) := by decide +kernel
theorem dX18_read_215 : decode cX18_read 215 = .ok (.goto (-77), 3) := by decide +kernel
theorem dX18_read_218 : decode cX18_read 218 = .ok (.aload_n 0, 1) := by decide +kernel
theorem dX18_read_219 : decode cX18_read 219 = .ok (.getfield 91, 3) := by decide +kernel
theorem dX18_read_222 : decode cX18_read 222 = .ok (.ifCond .ge 22, 3) := by decide +kernel
theorem dX18_read_225 : decode cX18_read 225 = .ok (.aload_n 0, 1) := by decide +kernel
theorem dX18_read_226 : decode cX18_read 226 = .ok (.getfield 88, 3) := by decide +kernel
theorem dX18_read_229 : decode cX18_read 229 = .ok (.aload_n 0, 1) := by decide +kernel
theorem dX18_read_230 : decode cX18_read 230 = .ok (.getfield 81, 3) := by decide +kernel
theorem dX18_read_233 : decode cX18_read 233 = .ok (.if_icmp .ge 11, 3) := by decide +kernel
theorem dX18_read_236 : decode cX18_read 236 = .ok (.aload_n 0, 1) := by decide +kernel
theorem dX18_read_237 : decode cX18_read 237 = .ok (.aload_n 0, 1) := by decide +kernel
theorem dX18_read_238 : decode cX18_read 238 = .ok (.getfield 88, 3) := by decide +kernel
theorem dX18_read_241 : decode cX18_read 241 = .ok (.putfield 91, 3) := by decide +kernel
theorem dX18_read_244 : decode cX18_read 244 = .ok (.return_, 1) := by decide +kernel
set_option maxRecDepth 20000 in
theorem ggX18_wrongAt_X18_read : GoodIn wsX18_wrongAt wsX18_read := goodIn_ca (goodIn_r _ [7, 8, 9, 10, 11, 2, 12, 13, 14, 15, 16, 17, 18, 19, 20, 21, 22, 23, 24, 6, 25, 26, 27, 28, 29, 30, 31, 32, 33, 34, 35, 36, 37, 38, 39, 40, 41, 42, 43, 44, 45, 46, 47, 48, 49, 50, 51, 52, 53, 54, 55, 56, 57, 58, 59, 60, 89, 90, 91, 92, 93, 94, 61, 62, 63, 64, 65, 66, 67, 68, 69, 70, 71, 72, 73, 74, 75, 76, 77, 78, 79, 80, 81, 82, 83, 84, 85, 86, 87, 88, 95, 96, 97, 98, 99, 100, 101, 102, 103, 104, 105, 106, 107, 108, 109] (by decide +kernel) (by decide +kernel)) (goodIn_sub (fun _ h => List.mem_cons_of_mem _ (List.mem_append_right _ h)) (by decide +kernel))
set_option maxRecDepth 20000 in
theorem gX18_wrongAt_X18_read : GoodIn wsX18_wrongAt (wsV RX18 176 RX18 yX18_read wsX18_read) := goodIn_app (goodIn_of _ (by decide +kernel)) ggX18_wrongAt_X18_read
theorem dX18_wrongAt_0 : decode cX18_wrongAt 0 = .ok (.aload_n 0, 1) := by decide +kernel
theorem dX18_wrongAt_1 : decode cX18_wrongAt 1 = .ok (.iconst 0, 1) := by decide +kernel
theorem dX18_wrongAt_2 : decode cX18_wrongAt 2 = .ok (.putfield 73, 3) := by decide +kernel
theorem dX18_wrongAt_5 : decode cX18_wrongAt 5 = .ok (.aload_n 0, 1) := by decide +kernel
theorem dX18_wrongAt_6 : decode cX18_wrongAt 6 = .ok (.invokevirtual 176, 3) := by decide +kernel
theorem dX18_wrongAt_9 : decode cX18_wrongAt 9 = .ok (.aload_n 0, 1) := by decide +kernel
theorem dX18_wrongAt_10 : decode cX18_wrongAt 10 = .ok (.getfield 91, 3) := by decide +kernel
theorem dX18_wrongAt_13 : decode cX18_wrongAt 13 = .ok (.ireturn, 1) := by decide +kernel
set_option maxRecDepth 20000 in
theorem ggX18_failsRow_X18_read : GoodIn wsX18_failsRow wsX18_read := goodIn_ca (goodIn_r _ [6, 7, 8, 9, 10, 1, 11, 12, 13, 14, 15, 16, 17, 18, 19, 20, 21, 22, 23, 5, 24, 25, 26, 27, 28, 29, 30, 31, 32, 33, 34, 35, 36, 37, 38, 39, 40, 41, 42, 43, 44, 45, 46, 47, 48, 49, 50, 51, 52, 53, 54, 55, 56, 57, 58, 59, 93, 94, 95, 96, 97, 98, 65, 66, 67, 68, 69, 70, 71, 72, 73, 74, 75, 76, 77, 78, 79, 80, 81, 82, 83, 84, 85, 86, 87, 88, 89, 90, 91, 92, 99, 100, 101, 102, 103, 104, 105, 106, 107, 108, 109, 110, 111, 112, 113] (by decide +kernel) (by decide +kernel)) (goodIn_sub (fun _ h => List.mem_cons_of_mem _ (List.mem_append_right _ h)) (by decide +kernel))
set_option maxRecDepth 20000 in
theorem gX18_failsRow_X18_read : GoodIn wsX18_failsRow (wsV RX18 176 RX18 yX18_read wsX18_read) := goodIn_app (goodIn_of _ (by decide +kernel)) ggX18_failsRow_X18_read
set_option maxRecDepth 20000 in
theorem ggX18_failsRow_X18_fails : GoodIn wsX18_failsRow wsX18_fails := goodIn_r _ [63, 64, 65, 66, 67, 68, 69, 70, 71, 72, 73, 74, 75, 76, 77, 78, 79, 80, 81, 82, 83, 84, 85, 86, 87, 88, 89, 90, 91, 92] (by decide +kernel) (by decide +kernel)
set_option maxRecDepth 20000 in
theorem gX18_failsRow_X18_fails : GoodIn wsX18_failsRow (wsV RX18 84 RX18 yX18_fails wsX18_fails) := goodIn_app (goodIn_of _ (by decide +kernel)) ggX18_failsRow_X18_fails
theorem dX18_failsRow_0 : decode cX18_failsRow 0 = .ok (.aload_n 0, 1) := by decide +kernel
theorem dX18_failsRow_1 : decode cX18_failsRow 1 = .ok (.invokevirtual 176, 3) := by decide +kernel
theorem dX18_failsRow_4 : decode cX18_failsRow 4 = .ok (.aload_n 0, 1) := by decide +kernel
theorem dX18_failsRow_5 : decode cX18_failsRow 5 = .ok (.aload_n 0, 1) := by decide +kernel
theorem dX18_failsRow_6 : decode cX18_failsRow 6 = .ok (.getfield 91, 3) := by decide +kernel
theorem dX18_failsRow_9 : decode cX18_failsRow 9 = .ok (.ifCond .lt 7, 3) := by decide +kernel
theorem dX18_failsRow_12 : decode cX18_failsRow 12 = .ok (.iload_n 1, 1) := by decide +kernel
theorem dX18_failsRow_13 : decode cX18_failsRow 13 = .ok (.goto 4, 3) := by decide +kernel
theorem dX18_failsRow_16 : decode cX18_failsRow 16 = .ok (.iconst 0, 1) := by decide +kernel
theorem dX18_failsRow_17 : decode cX18_failsRow 17 = .ok (.invokevirtual 84, 3) := by decide +kernel
theorem dX18_failsRow_20 : decode cX18_failsRow 20 = .ok (.ireturn, 1) := by decide +kernel
theorem dX18_shift_0 : decode cX18_shift 0 = .ok (.iload_n 1, 1) := by decide +kernel
theorem dX18_shift_1 : decode cX18_shift 1 = .ok (.iconst 4, 1) := by decide +kernel
theorem dX18_shift_2 : decode cX18_shift 2 = .ok (.irem, 1) := by decide +kernel
theorem dX18_shift_3 : decode cX18_shift 3 = .ok (.iconst 2, 1) := by decide +kernel
theorem dX18_shift_4 : decode cX18_shift 4 = .ok (.if_icmp .lt 7, 3) := by decide +kernel
theorem dX18_shift_7 : decode cX18_shift 7 = .ok (.iconst 1, 1) := by decide +kernel
theorem dX18_shift_8 : decode cX18_shift 8 = .ok (.goto 4, 3) := by decide +kernel
theorem dX18_shift_11 : decode cX18_shift 11 = .ok (.iconst 0, 1) := by decide +kernel
theorem dX18_shift_12 : decode cX18_shift 12 = .ok (.istore_n 2, 1) := by decide +kernel
theorem dX18_shift_13 : decode cX18_shift 13 = .ok (.iload_n 0, 1) := by decide +kernel
theorem dX18_shift_14 : decode cX18_shift 14 = .ok (.bipush 9, 2) := by decide +kernel
theorem dX18_shift_16 : decode cX18_shift 16 = .ok (.if_icmp .ne 15, 3) := by decide +kernel
theorem dX18_shift_19 : decode cX18_shift 19 = .ok (.iload_n 2, 1) := by decide +kernel
theorem dX18_shift_20 : decode cX18_shift 20 = .ok (.ifCond .eq 7, 3) := by decide +kernel
theorem dX18_shift_23 : decode cX18_shift 23 = .ok (.iconst 1, 1) := by decide +kernel
theorem dX18_shift_24 : decode cX18_shift 24 = .ok (.goto 22, 3) := by decide +kernel
theorem dX18_shift_27 : decode cX18_shift 27 = .ok (.iconst 0, 1) := by decide +kernel
theorem dX18_shift_28 : decode cX18_shift 28 = .ok (.goto 18, 3) := by decide +kernel
theorem dX18_shift_31 : decode cX18_shift 31 = .ok (.iload_n 0, 1) := by decide +kernel
theorem dX18_shift_32 : decode cX18_shift 32 = .ok (.bipush 10, 2) := by decide +kernel
theorem dX18_shift_34 : decode cX18_shift 34 = .ok (.if_icmp .ne 11, 3) := by decide +kernel
theorem dX18_shift_37 : decode cX18_shift 37 = .ok (.iload_n 2, 1) := by decide +kernel
theorem dX18_shift_38 : decode cX18_shift 38 = .ok (.ifCond .eq 7, 3) := by decide +kernel
theorem dX18_shift_41 : decode cX18_shift 41 = .ok (.iconst 2, 1) := by decide +kernel
theorem dX18_shift_42 : decode cX18_shift 42 = .ok (.goto 4, 3) := by decide +kernel
theorem dX18_shift_45 : decode cX18_shift 45 = .ok (.iconst 0, 1) := by decide +kernel
theorem dX18_shift_46 : decode cX18_shift 46 = .ok (.ireturn, 1) := by decide +kernel
set_option maxRecDepth 20000 in
theorem ggX18_isSecond_X18_shift : GoodIn wsX18_isSecond wsX18_shift := goodIn_r _ [8] (by decide +kernel) (by decide +kernel)
set_option maxRecDepth 20000 in
theorem gX18_isSecond_X18_shift : GoodIn wsX18_isSecond (va_wsS RX18 178 yX18_shift wsX18_shift) := goodIn_app (goodIn_of _ (by decide +kernel)) ggX18_isSecond_X18_shift
theorem dX18_isSecond_0 : decode cX18_isSecond 0 = .ok (.aload_n 0, 1) := by decide +kernel
theorem dX18_isSecond_1 : decode cX18_isSecond 1 = .ok (.getfield 102, 3) := by decide +kernel
theorem dX18_isSecond_4 : decode cX18_isSecond 4 = .ok (.tableswitch 156 11 15 #[36, 57, 78, 98, 125], 36) := by decide +kernel
theorem dX18_isSecond_40 : decode cX18_isSecond 40 = .ok (.iload_n 1, 1) := by decide +kernel
theorem dX18_isSecond_41 : decode cX18_isSecond 41 = .ok (.aload_n 0, 1) := by decide +kernel
theorem dX18_isSecond_42 : decode cX18_isSecond 42 = .ok (.getfield 171, 3) := by decide +kernel
theorem dX18_isSecond_45 : decode cX18_isSecond 45 = .ok (.iload_n 2, 1) := by decide +kernel
theorem dX18_isSecond_46 : decode cX18_isSecond 46 = .ok (.invokestatic 178, 3) := by decide +kernel
theorem dX18_isSecond_49 : decode cX18_isSecond 49 = .ok (.iadd, 1) := by decide +kernel
theorem dX18_isSecond_50 : decode cX18_isSecond 50 = .ok (.bipush 8, 2) := by decide +kernel
theorem dX18_isSecond_52 : decode cX18_isSecond 52 = .ok (.if_icmp .lt 7, 3) := by decide +kernel
theorem dX18_isSecond_55 : decode cX18_isSecond 55 = .ok (.iconst 1, 1) := by decide +kernel
theorem dX18_isSecond_56 : decode cX18_isSecond 56 = .ok (.goto 4, 3) := by decide +kernel
theorem dX18_isSecond_59 : decode cX18_isSecond 59 = .ok (.iconst 0, 1) := by decide +kernel
theorem dX18_isSecond_60 : decode cX18_isSecond 60 = .ok (.ireturn, 1) := by decide +kernel
theorem dX18_isSecond_61 : decode cX18_isSecond 61 = .ok (.iload_n 2, 1) := by decide +kernel
theorem dX18_isSecond_62 : decode cX18_isSecond 62 = .ok (.aload_n 0, 1) := by decide +kernel
theorem dX18_isSecond_63 : decode cX18_isSecond 63 = .ok (.getfield 171, 3) := by decide +kernel
theorem dX18_isSecond_66 : decode cX18_isSecond 66 = .ok (.iload_n 1, 1) := by decide +kernel
theorem dX18_isSecond_67 : decode cX18_isSecond 67 = .ok (.invokestatic 178, 3) := by decide +kernel
theorem dX18_isSecond_70 : decode cX18_isSecond 70 = .ok (.iadd, 1) := by decide +kernel
theorem dX18_isSecond_71 : decode cX18_isSecond 71 = .ok (.bipush 8, 2) := by decide +kernel
theorem dX18_isSecond_73 : decode cX18_isSecond 73 = .ok (.if_icmp .lt 7, 3) := by decide +kernel
theorem dX18_isSecond_76 : decode cX18_isSecond 76 = .ok (.iconst 1, 1) := by decide +kernel
theorem dX18_isSecond_77 : decode cX18_isSecond 77 = .ok (.goto 4, 3) := by decide +kernel
theorem dX18_isSecond_80 : decode cX18_isSecond 80 = .ok (.iconst 0, 1) := by decide +kernel
theorem dX18_isSecond_81 : decode cX18_isSecond 81 = .ok (.ireturn, 1) := by decide +kernel
theorem dX18_isSecond_82 : decode cX18_isSecond 82 = .ok (.iload_n 2, 1) := by decide +kernel
theorem dX18_isSecond_83 : decode cX18_isSecond 83 = .ok (.aload_n 0, 1) := by decide +kernel
theorem dX18_isSecond_84 : decode cX18_isSecond 84 = .ok (.getfield 171, 3) := by decide +kernel
theorem dX18_isSecond_87 : decode cX18_isSecond 87 = .ok (.iload_n 1, 1) := by decide +kernel
theorem dX18_isSecond_88 : decode cX18_isSecond 88 = .ok (.invokestatic 178, 3) := by decide +kernel
theorem dX18_isSecond_91 : decode cX18_isSecond 91 = .ok (.iadd, 1) := by decide +kernel
theorem dX18_isSecond_92 : decode cX18_isSecond 92 = .ok (.iload_n 1, 1) := by decide +kernel
theorem dX18_isSecond_93 : decode cX18_isSecond 93 = .ok (.if_icmp .le 7, 3) := by decide +kernel
theorem dX18_isSecond_96 : decode cX18_isSecond 96 = .ok (.iconst 1, 1) := by decide +kernel
theorem dX18_isSecond_97 : decode cX18_isSecond 97 = .ok (.goto 4, 3) := by decide +kernel
theorem dX18_isSecond_100 : decode cX18_isSecond 100 = .ok (.iconst 0, 1) := by decide +kernel
theorem dX18_isSecond_101 : decode cX18_isSecond 101 = .ok (.ireturn, 1) := by decide +kernel
theorem dX18_isSecond_102 : decode cX18_isSecond 102 = .ok (.iconst 2, 1) := by decide +kernel
theorem dX18_isSecond_103 : decode cX18_isSecond 103 = .ok (.iload_n 1, 1) := by decide +kernel
theorem dX18_isSecond_104 : decode cX18_isSecond 104 = .ok (.imul, 1) := by decide +kernel
theorem dX18_isSecond_105 : decode cX18_isSecond 105 = .ok (.bipush 15, 2) := by decide +kernel
theorem dX18_isSecond_107 : decode cX18_isSecond 107 = .ok (.isub, 1) := by decide +kernel
theorem dX18_isSecond_108 : decode cX18_isSecond 108 = .ok (.invokestatic 181, 3) := by decide +kernel
theorem dX18_isSecond_111 : decode cX18_isSecond 111 = .ok (.iconst 2, 1) := by decide +kernel
theorem dX18_isSecond_112 : decode cX18_isSecond 112 = .ok (.iload_n 2, 1) := by decide +kernel
theorem dX18_isSecond_113 : decode cX18_isSecond 113 = .ok (.imul, 1) := by decide +kernel
theorem dX18_isSecond_114 : decode cX18_isSecond 114 = .ok (.bipush 15, 2) := by decide +kernel
theorem dX18_isSecond_116 : decode cX18_isSecond 116 = .ok (.isub, 1) := by decide +kernel
theorem dX18_isSecond_117 : decode cX18_isSecond 117 = .ok (.invokestatic 181, 3) := by decide +kernel
theorem dX18_isSecond_120 : decode cX18_isSecond 120 = .ok (.if_icmp .le 7, 3) := by decide +kernel
theorem dX18_isSecond_123 : decode cX18_isSecond 123 = .ok (.iconst 1, 1) := by decide +kernel
theorem dX18_isSecond_124 : decode cX18_isSecond 124 = .ok (.goto 4, 3) := by decide +kernel
theorem dX18_isSecond_127 : decode cX18_isSecond 127 = .ok (.iconst 0, 1) := by decide +kernel
theorem dX18_isSecond_128 : decode cX18_isSecond 128 = .ok (.ireturn, 1) := by decide +kernel
theorem dX18_isSecond_129 : decode cX18_isSecond 129 = .ok (.iload_n 1, 1) := by decide +kernel
theorem dX18_isSecond_130 : decode cX18_isSecond 130 = .ok (.bipush 8, 2) := by decide +kernel
theorem dX18_isSecond_132 : decode cX18_isSecond 132 = .ok (.if_icmp .lt 7, 3) := by decide +kernel
theorem dX18_isSecond_135 : decode cX18_isSecond 135 = .ok (.iconst 1, 1) := by decide +kernel
theorem dX18_isSecond_136 : decode cX18_isSecond 136 = .ok (.goto 4, 3) := by decide +kernel
theorem dX18_isSecond_139 : decode cX18_isSecond 139 = .ok (.iconst 0, 1) := by decide +kernel
theorem dX18_isSecond_140 : decode cX18_isSecond 140 = .ok (.iload_n 2, 1) := by decide +kernel
theorem dX18_isSecond_141 : decode cX18_isSecond 141 = .ok (.bipush 8, 2) := by decide +kernel
theorem dX18_isSecond_143 : decode cX18_isSecond 143 = .ok (.if_icmp .lt 7, 3) := by decide +kernel
theorem dX18_isSecond_146 : decode cX18_isSecond 146 = .ok (.iconst 1, 1) := by decide +kernel
theorem dX18_isSecond_147 : decode cX18_isSecond 147 = .ok (.goto 4, 3) := by decide +kernel
theorem dX18_isSecond_150 : decode cX18_isSecond 150 = .ok (.iconst 0, 1) := by decide +kernel
theorem dX18_isSecond_151 : decode cX18_isSecond 151 = .ok (.if_icmp .eq 7, 3) := by decide +kernel
theorem dX18_isSecond_154 : decode cX18_isSecond 154 = .ok (.iconst 1, 1) := by decide +kernel
theorem dX18_isSecond_155 : decode cX18_isSecond 155 = .ok (.goto 4, 3) := by decide +kernel
theorem dX18_isSecond_158 : decode cX18_isSecond 158 = .ok (.iconst 0, 1) := by decide +kernel
theorem dX18_isSecond_159 : decode cX18_isSecond 159 = .ok (.ireturn, 1) := by decide +kernel
theorem dX18_isSecond_160 : decode cX18_isSecond 160 = .ok (.iconst 0, 1) := by decide +kernel
theorem dX18_isSecond_161 : decode cX18_isSecond 161 = .ok (.ireturn, 1) := by decide +kernel
set_option maxRecDepth 20000 in
theorem ggX18_isOf_X18_shift : GoodIn wsX18_isOf wsX18_shift := goodIn_r _ [8] (by decide +kernel) (by decide +kernel)
set_option maxRecDepth 20000 in
theorem gX18_isOf_X18_shift : GoodIn wsX18_isOf (va_wsS RX18 178 yX18_shift wsX18_shift) := goodIn_app (goodIn_of _ (by decide +kernel)) ggX18_isOf_X18_shift
set_option maxRecDepth 20000 in
theorem ggX18_isOf_X18_in : GoodIn wsX18_isOf wsX18_in := goodIn_r _ [11] (by decide +kernel) (by decide +kernel)
set_option maxRecDepth 20000 in
theorem gX18_isOf_X18_in : GoodIn wsX18_isOf (va_wsS RX18 77 yX18_in wsX18_in) := goodIn_app (goodIn_of _ (by decide +kernel)) ggX18_isOf_X18_in
theorem dX18_isOf_0 : decode cX18_isOf 0 = .ok (.iload_n 3, 1) := by decide +kernel
theorem dX18_isOf_1 : decode cX18_isOf 1 = .ok (.iload_n 1, 1) := by decide +kernel
theorem dX18_isOf_2 : decode cX18_isOf 2 = .ok (.iload_n 2, 1) := by decide +kernel
theorem dX18_isOf_3 : decode cX18_isOf 3 = .ok (.invokestatic 178, 3) := by decide +kernel
theorem dX18_isOf_6 : decode cX18_isOf 6 = .ok (.iadd, 1) := by decide +kernel
theorem dX18_isOf_7 : decode cX18_isOf 7 = .ok (.istore 4, 2) := by decide +kernel
theorem dX18_isOf_9 : decode cX18_isOf 9 = .ok (.iload_n 0, 1) := by decide +kernel
theorem dX18_isOf_10 : decode cX18_isOf 10 = .ok (.tableswitch 170 21 27 #[42, 57, 67, 78, 90, 118, 149], 42) := by decide +kernel
theorem dX18_isOf_52 : decode cX18_isOf 52 = .ok (.iload_n 2, 1) := by decide +kernel
theorem dX18_isOf_53 : decode cX18_isOf 53 = .ok (.iload_n 1, 1) := by decide +kernel
theorem dX18_isOf_54 : decode cX18_isOf 54 = .ok (.iload_n 3, 1) := by decide +kernel
theorem dX18_isOf_55 : decode cX18_isOf 55 = .ok (.invokestatic 178, 3) := by decide +kernel
theorem dX18_isOf_58 : decode cX18_isOf 58 = .ok (.iadd, 1) := by decide +kernel
theorem dX18_isOf_59 : decode cX18_isOf 59 = .ok (.bipush 6, 2) := by decide +kernel
theorem dX18_isOf_61 : decode cX18_isOf 61 = .ok (.bipush 9, 2) := by decide +kernel
theorem dX18_isOf_63 : decode cX18_isOf 63 = .ok (.invokestatic 77, 3) := by decide +kernel
theorem dX18_isOf_66 : decode cX18_isOf 66 = .ok (.ireturn, 1) := by decide +kernel
theorem dX18_isOf_67 : decode cX18_isOf 67 = .ok (.iload 4, 2) := by decide +kernel
theorem dX18_isOf_69 : decode cX18_isOf 69 = .ok (.bipush 6, 2) := by decide +kernel
theorem dX18_isOf_71 : decode cX18_isOf 71 = .ok (.bipush 9, 2) := by decide +kernel
theorem dX18_isOf_73 : decode cX18_isOf 73 = .ok (.invokestatic 77, 3) := by decide +kernel
theorem dX18_isOf_76 : decode cX18_isOf 76 = .ok (.ireturn, 1) := by decide +kernel
theorem dX18_isOf_77 : decode cX18_isOf 77 = .ok (.iload 4, 2) := by decide +kernel
theorem dX18_isOf_79 : decode cX18_isOf 79 = .ok (.iload_n 2, 1) := by decide +kernel
theorem dX18_isOf_80 : decode cX18_isOf 80 = .ok (.isub, 1) := by decide +kernel
theorem dX18_isOf_81 : decode cX18_isOf 81 = .ok (.bipush (-2), 2) := by decide +kernel
theorem dX18_isOf_83 : decode cX18_isOf 83 = .ok (.iconst 2, 1) := by decide +kernel
theorem dX18_isOf_84 : decode cX18_isOf 84 = .ok (.invokestatic 77, 3) := by decide +kernel
theorem dX18_isOf_87 : decode cX18_isOf 87 = .ok (.ireturn, 1) := by decide +kernel
theorem dX18_isOf_88 : decode cX18_isOf 88 = .ok (.iload 4, 2) := by decide +kernel
theorem dX18_isOf_90 : decode cX18_isOf 90 = .ok (.iconst 4, 1) := by decide +kernel
theorem dX18_isOf_91 : decode cX18_isOf 91 = .ok (.if_icmp .gt 7, 3) := by decide +kernel
theorem dX18_isOf_94 : decode cX18_isOf 94 = .ok (.iconst 1, 1) := by decide +kernel
theorem dX18_isOf_95 : decode cX18_isOf 95 = .ok (.goto 4, 3) := by decide +kernel
theorem dX18_isOf_98 : decode cX18_isOf 98 = .ok (.iconst 0, 1) := by decide +kernel
theorem dX18_isOf_99 : decode cX18_isOf 99 = .ok (.ireturn, 1) := by decide +kernel
theorem dX18_isOf_100 : decode cX18_isOf 100 = .ok (.iload_n 2, 1) := by decide +kernel
theorem dX18_isOf_101 : decode cX18_isOf 101 = .ok (.bipush 7, 2) := by decide +kernel
theorem dX18_isOf_103 : decode cX18_isOf 103 = .ok (.bipush 8, 2) := by decide +kernel
theorem dX18_isOf_105 : decode cX18_isOf 105 = .ok (.invokestatic 77, 3) := by decide +kernel
theorem dX18_isOf_108 : decode cX18_isOf 108 = .ok (.ifCond .ne 14, 3) := by decide +kernel
theorem dX18_isOf_111 : decode cX18_isOf 111 = .ok (.iload_n 3, 1) := by decide +kernel
theorem dX18_isOf_112 : decode cX18_isOf 112 = .ok (.bipush 7, 2) := by decide +kernel
theorem dX18_isOf_114 : decode cX18_isOf 114 = .ok (.bipush 8, 2) := by decide +kernel
theorem dX18_isOf_116 : decode cX18_isOf 116 = .ok (.invokestatic 77, 3) := by decide +kernel
theorem dX18_isOf_119 : decode cX18_isOf 119 = .ok (.ifCond .eq 7, 3) := by decide +kernel
theorem dX18_isOf_122 : decode cX18_isOf 122 = .ok (.iconst 1, 1) := by decide +kernel
theorem dX18_isOf_123 : decode cX18_isOf 123 = .ok (.goto 4, 3) := by decide +kernel
theorem dX18_isOf_126 : decode cX18_isOf 126 = .ok (.iconst 0, 1) := by decide +kernel
theorem dX18_isOf_127 : decode cX18_isOf 127 = .ok (.ireturn, 1) := by decide +kernel
theorem dX18_isOf_128 : decode cX18_isOf 128 = .ok (.iload_n 2, 1) := by decide +kernel
theorem dX18_isOf_129 : decode cX18_isOf 129 = .ok (.iload_n 3, 1) := by decide +kernel
theorem dX18_isOf_130 : decode cX18_isOf 130 = .ok (.isub, 1) := by decide +kernel
theorem dX18_isOf_131 : decode cX18_isOf 131 = .ok (.iconst (-1), 1) := by decide +kernel
theorem dX18_isOf_132 : decode cX18_isOf 132 = .ok (.iconst 1, 1) := by decide +kernel
theorem dX18_isOf_133 : decode cX18_isOf 133 = .ok (.invokestatic 77, 3) := by decide +kernel
theorem dX18_isOf_136 : decode cX18_isOf 136 = .ok (.ifCond .ne 17, 3) := by decide +kernel
theorem dX18_isOf_139 : decode cX18_isOf 139 = .ok (.iload_n 2, 1) := by decide +kernel
theorem dX18_isOf_140 : decode cX18_isOf 140 = .ok (.iload_n 3, 1) := by decide +kernel
theorem dX18_isOf_141 : decode cX18_isOf 141 = .ok (.iadd, 1) := by decide +kernel
theorem dX18_isOf_142 : decode cX18_isOf 142 = .ok (.bipush 15, 2) := by decide +kernel
theorem dX18_isOf_144 : decode cX18_isOf 144 = .ok (.isub, 1) := by decide +kernel
theorem dX18_isOf_145 : decode cX18_isOf 145 = .ok (.iconst (-1), 1) := by decide +kernel
theorem dX18_isOf_146 : decode cX18_isOf 146 = .ok (.iconst 1, 1) := by decide +kernel
theorem dX18_isOf_147 : decode cX18_isOf 147 = .ok (.invokestatic 77, 3) := by decide +kernel
theorem dX18_isOf_150 : decode cX18_isOf 150 = .ok (.ifCond .eq 7, 3) := by decide +kernel
theorem dX18_isOf_153 : decode cX18_isOf 153 = .ok (.iconst 1, 1) := by decide +kernel
theorem dX18_isOf_154 : decode cX18_isOf 154 = .ok (.goto 4, 3) := by decide +kernel
theorem dX18_isOf_157 : decode cX18_isOf 157 = .ok (.iconst 0, 1) := by decide +kernel
theorem dX18_isOf_158 : decode cX18_isOf 158 = .ok (.ireturn, 1) := by decide +kernel
theorem dX18_isOf_159 : decode cX18_isOf 159 = .ok (.iload 4, 2) := by decide +kernel
theorem dX18_isOf_161 : decode cX18_isOf 161 = .ok (.iconst 2, 1) := by decide +kernel
theorem dX18_isOf_162 : decode cX18_isOf 162 = .ok (.iload_n 2, 1) := by decide +kernel
theorem dX18_isOf_163 : decode cX18_isOf 163 = .ok (.imul, 1) := by decide +kernel
theorem dX18_isOf_164 : decode cX18_isOf 164 = .ok (.bipush 15, 2) := by decide +kernel
theorem dX18_isOf_166 : decode cX18_isOf 166 = .ok (.isub, 1) := by decide +kernel
theorem dX18_isOf_167 : decode cX18_isOf 167 = .ok (.invokestatic 181, 3) := by decide +kernel
theorem dX18_isOf_170 : decode cX18_isOf 170 = .ok (.iconst 2, 1) := by decide +kernel
theorem dX18_isOf_171 : decode cX18_isOf 171 = .ok (.idiv, 1) := by decide +kernel
theorem dX18_isOf_172 : decode cX18_isOf 172 = .ok (.isub, 1) := by decide +kernel
theorem dX18_isOf_173 : decode cX18_isOf 173 = .ok (.iconst 3, 1) := by decide +kernel
theorem dX18_isOf_174 : decode cX18_isOf 174 = .ok (.bipush 6, 2) := by decide +kernel
theorem dX18_isOf_176 : decode cX18_isOf 176 = .ok (.invokestatic 77, 3) := by decide +kernel
theorem dX18_isOf_179 : decode cX18_isOf 179 = .ok (.ireturn, 1) := by decide +kernel
theorem dX18_isOf_180 : decode cX18_isOf 180 = .ok (.iload_n 2, 1) := by decide +kernel
theorem dX18_isOf_181 : decode cX18_isOf 181 = .ok (.iconst 2, 1) := by decide +kernel
theorem dX18_isOf_182 : decode cX18_isOf 182 = .ok (.if_icmp .lt 20, 3) := by decide +kernel
theorem dX18_isOf_185 : decode cX18_isOf 185 = .ok (.iload_n 2, 1) := by decide +kernel
theorem dX18_isOf_186 : decode cX18_isOf 186 = .ok (.bipush 13, 2) := by decide +kernel
theorem dX18_isOf_188 : decode cX18_isOf 188 = .ok (.if_icmp .gt 14, 3) := by decide +kernel
theorem dX18_isOf_191 : decode cX18_isOf 191 = .ok (.iload_n 3, 1) := by decide +kernel
theorem dX18_isOf_192 : decode cX18_isOf 192 = .ok (.iconst 2, 1) := by decide +kernel
theorem dX18_isOf_193 : decode cX18_isOf 193 = .ok (.if_icmp .lt 9, 3) := by decide +kernel
theorem dX18_isOf_196 : decode cX18_isOf 196 = .ok (.iload_n 3, 1) := by decide +kernel
theorem dX18_isOf_197 : decode cX18_isOf 197 = .ok (.bipush 13, 2) := by decide +kernel
theorem dX18_isOf_199 : decode cX18_isOf 199 = .ok (.if_icmp .le 7, 3) := by decide +kernel
theorem dX18_isOf_202 : decode cX18_isOf 202 = .ok (.iconst 1, 1) := by decide +kernel
theorem dX18_isOf_203 : decode cX18_isOf 203 = .ok (.goto 4, 3) := by decide +kernel
theorem dX18_isOf_206 : decode cX18_isOf 206 = .ok (.iconst 0, 1) := by decide +kernel
theorem dX18_isOf_207 : decode cX18_isOf 207 = .ok (.ireturn, 1) := by decide +kernel
theorem dX18_bits_0 : decode cX18_bits 0 = .ok (.iload_n 0, 1) := by decide +kernel
theorem dX18_bits_1 : decode cX18_bits 1 = .ok (.tableswitch 70 51 57 #[43, 47, 51, 55, 58, 62, 66], 43) := by decide +kernel
theorem dX18_bits_44 : decode cX18_bits 44 = .ok (.sipush 186, 3) := by decide +kernel
theorem dX18_bits_47 : decode cX18_bits 47 = .ok (.ireturn, 1) := by decide +kernel
theorem dX18_bits_48 : decode cX18_bits 48 = .ok (.sipush 341, 3) := by decide +kernel
theorem dX18_bits_51 : decode cX18_bits 51 = .ok (.ireturn, 1) := by decide +kernel
theorem dX18_bits_52 : decode cX18_bits 52 = .ok (.sipush 146, 3) := by decide +kernel
theorem dX18_bits_55 : decode cX18_bits 55 = .ok (.ireturn, 1) := by decide +kernel
theorem dX18_bits_56 : decode cX18_bits 56 = .ok (.bipush 56, 2) := by decide +kernel
theorem dX18_bits_58 : decode cX18_bits 58 = .ok (.ireturn, 1) := by decide +kernel
theorem dX18_bits_59 : decode cX18_bits 59 = .ok (.sipush 495, 3) := by decide +kernel
theorem dX18_bits_62 : decode cX18_bits 62 = .ok (.ireturn, 1) := by decide +kernel
theorem dX18_bits_63 : decode cX18_bits 63 = .ok (.sipush 511, 3) := by decide +kernel
theorem dX18_bits_66 : decode cX18_bits 66 = .ok (.ireturn, 1) := by decide +kernel
theorem dX18_bits_67 : decode cX18_bits 67 = .ok (.sipush 434, 3) := by decide +kernel
theorem dX18_bits_70 : decode cX18_bits 70 = .ok (.ireturn, 1) := by decide +kernel
theorem dX18_bits_71 : decode cX18_bits 71 = .ok (.sipush 244, 3) := by decide +kernel
theorem dX18_bits_74 : decode cX18_bits 74 = .ok (.ireturn, 1) := by decide +kernel
set_option maxRecDepth 20000 in
theorem ggX18_has_X18_bits : GoodIn wsX18_has wsX18_bits := goodIn_r _ [4] (by decide +kernel) (by decide +kernel)
set_option maxRecDepth 20000 in
theorem gX18_has_X18_bits : GoodIn wsX18_has (va_wsS RX18 187 yX18_bits wsX18_bits) := goodIn_app (goodIn_of _ (by decide +kernel)) ggX18_has_X18_bits
theorem dX18_has_0 : decode cX18_has 0 = .ok (.iload_n 1, 1) := by decide +kernel
theorem dX18_has_1 : decode cX18_has 1 = .ok (.bipush 45, 2) := by decide +kernel
theorem dX18_has_3 : decode cX18_has 3 = .ok (.if_icmp .ne 11, 3) := by decide +kernel
theorem dX18_has_6 : decode cX18_has 6 = .ok (.iconst 2, 1) := by decide +kernel
theorem dX18_has_7 : decode cX18_has 7 = .ok (.iload_n 2, 1) := by decide +kernel
theorem dX18_has_8 : decode cX18_has 8 = .ok (.iconst 3, 1) := by decide +kernel
theorem dX18_has_9 : decode cX18_has 9 = .ok (.irem, 1) := by decide +kernel
theorem dX18_has_10 : decode cX18_has 10 = .ok (.isub, 1) := by decide +kernel
theorem dX18_has_11 : decode cX18_has 11 = .ok (.goto 6, 3) := by decide +kernel
theorem dX18_has_14 : decode cX18_has 14 = .ok (.iload_n 2, 1) := by decide +kernel
theorem dX18_has_15 : decode cX18_has 15 = .ok (.iconst 3, 1) := by decide +kernel
theorem dX18_has_16 : decode cX18_has 16 = .ok (.irem, 1) := by decide +kernel
theorem dX18_has_17 : decode cX18_has 17 = .ok (.istore_n 3, 1) := by decide +kernel
theorem dX18_has_18 : decode cX18_has 18 = .ok (.iload_n 1, 1) := by decide +kernel
theorem dX18_has_19 : decode cX18_has 19 = .ok (.bipush 46, 2) := by decide +kernel
theorem dX18_has_21 : decode cX18_has 21 = .ok (.if_icmp .ne 11, 3) := by decide +kernel
theorem dX18_has_24 : decode cX18_has 24 = .ok (.iconst 2, 1) := by decide +kernel
theorem dX18_has_25 : decode cX18_has 25 = .ok (.iload_n 2, 1) := by decide +kernel
theorem dX18_has_26 : decode cX18_has 26 = .ok (.iconst 3, 1) := by decide +kernel
theorem dX18_has_27 : decode cX18_has 27 = .ok (.idiv, 1) := by decide +kernel
theorem dX18_has_28 : decode cX18_has 28 = .ok (.isub, 1) := by decide +kernel
theorem dX18_has_29 : decode cX18_has 29 = .ok (.goto 6, 3) := by decide +kernel
theorem dX18_has_32 : decode cX18_has 32 = .ok (.iload_n 2, 1) := by decide +kernel
theorem dX18_has_33 : decode cX18_has 33 = .ok (.iconst 3, 1) := by decide +kernel
theorem dX18_has_34 : decode cX18_has 34 = .ok (.idiv, 1) := by decide +kernel
theorem dX18_has_35 : decode cX18_has 35 = .ok (.istore 4, 2) := by decide +kernel
theorem dX18_has_37 : decode cX18_has 37 = .ok (.iload_n 0, 1) := by decide +kernel
theorem dX18_has_38 : decode cX18_has 38 = .ok (.invokestatic 187, 3) := by decide +kernel
theorem dX18_has_41 : decode cX18_has 41 = .ok (.bipush 8, 2) := by decide +kernel
theorem dX18_has_43 : decode cX18_has 43 = .ok (.iconst 3, 1) := by decide +kernel
theorem dX18_has_44 : decode cX18_has 44 = .ok (.iload 4, 2) := by decide +kernel
theorem dX18_has_46 : decode cX18_has 46 = .ok (.imul, 1) := by decide +kernel
theorem dX18_has_47 : decode cX18_has 47 = .ok (.isub, 1) := by decide +kernel
theorem dX18_has_48 : decode cX18_has 48 = .ok (.iload_n 3, 1) := by decide +kernel
theorem dX18_has_49 : decode cX18_has 49 = .ok (.isub, 1) := by decide +kernel
theorem dX18_has_50 : decode cX18_has 50 = .ok (.ishr, 1) := by decide +kernel
theorem dX18_has_51 : decode cX18_has 51 = .ok (.iconst 1, 1) := by decide +kernel
theorem dX18_has_52 : decode cX18_has 52 = .ok (.iand, 1) := by decide +kernel
theorem dX18_has_53 : decode cX18_has 53 = .ok (.iconst 1, 1) := by decide +kernel
theorem dX18_has_54 : decode cX18_has 54 = .ok (.if_icmp .ne 7, 3) := by decide +kernel
theorem dX18_has_57 : decode cX18_has 57 = .ok (.iconst 1, 1) := by decide +kernel
theorem dX18_has_58 : decode cX18_has 58 = .ok (.goto 4, 3) := by decide +kernel
theorem dX18_has_61 : decode cX18_has 61 = .ok (.iconst 0, 1) := by decide +kernel
theorem dX18_has_62 : decode cX18_has 62 = .ok (.ireturn, 1) := by decide +kernel
theorem dX18_pointOf_0 : decode cX18_pointOf 0 = .ok (.bipush 16, 2) := by decide +kernel
theorem dX18_pointOf_2 : decode cX18_pointOf 2 = .ok (.iload_n 0, 1) := by decide +kernel
theorem dX18_pointOf_3 : decode cX18_pointOf 3 = .ok (.iconst 4, 1) := by decide +kernel
theorem dX18_pointOf_4 : decode cX18_pointOf 4 = .ok (.idiv, 1) := by decide +kernel
theorem dX18_pointOf_5 : decode cX18_pointOf 5 = .ok (.iconst 4, 1) := by decide +kernel
theorem dX18_pointOf_6 : decode cX18_pointOf 6 = .ok (.imul, 1) := by decide +kernel
theorem dX18_pointOf_7 : decode cX18_pointOf 7 = .ok (.iload_n 1, 1) := by decide +kernel
theorem dX18_pointOf_8 : decode cX18_pointOf 8 = .ok (.iconst 3, 1) := by decide +kernel
theorem dX18_pointOf_9 : decode cX18_pointOf 9 = .ok (.idiv, 1) := by decide +kernel
theorem dX18_pointOf_10 : decode cX18_pointOf 10 = .ok (.iadd, 1) := by decide +kernel
theorem dX18_pointOf_11 : decode cX18_pointOf 11 = .ok (.imul, 1) := by decide +kernel
theorem dX18_pointOf_12 : decode cX18_pointOf 12 = .ok (.iload_n 0, 1) := by decide +kernel
theorem dX18_pointOf_13 : decode cX18_pointOf 13 = .ok (.iconst 4, 1) := by decide +kernel
theorem dX18_pointOf_14 : decode cX18_pointOf 14 = .ok (.irem, 1) := by decide +kernel
theorem dX18_pointOf_15 : decode cX18_pointOf 15 = .ok (.iconst 4, 1) := by decide +kernel
theorem dX18_pointOf_16 : decode cX18_pointOf 16 = .ok (.imul, 1) := by decide +kernel
theorem dX18_pointOf_17 : decode cX18_pointOf 17 = .ok (.iadd, 1) := by decide +kernel
theorem dX18_pointOf_18 : decode cX18_pointOf 18 = .ok (.iload_n 1, 1) := by decide +kernel
theorem dX18_pointOf_19 : decode cX18_pointOf 19 = .ok (.iconst 3, 1) := by decide +kernel
theorem dX18_pointOf_20 : decode cX18_pointOf 20 = .ok (.irem, 1) := by decide +kernel
theorem dX18_pointOf_21 : decode cX18_pointOf 21 = .ok (.iadd, 1) := by decide +kernel
theorem dX18_pointOf_22 : decode cX18_pointOf 22 = .ok (.ireturn, 1) := by decide +kernel
set_option maxRecDepth 20000 in
theorem ggX18_colour_X18_isSecond : GoodIn wsX18_colour wsX18_isSecond := goodIn_r _ [4, 5, 6, 7, 8, 9, 10, 3, 11, 12, 13, 14, 15, 16, 17] (by decide +kernel) (by decide +kernel)
set_option maxRecDepth 20000 in
theorem gX18_colour_X18_isSecond : GoodIn wsX18_colour (va_wsS RX18 190 yX18_isSecond wsX18_isSecond) := goodIn_app (goodIn_of _ (by decide +kernel)) ggX18_colour_X18_isSecond
theorem dX18_colour_0 : decode cX18_colour 0 = .ok (.iload_n 1, 1) := by decide +kernel
theorem dX18_colour_1 : decode cX18_colour 1 = .ok (.bipush 35, 2) := by decide +kernel
theorem dX18_colour_3 : decode cX18_colour 3 = .ok (.if_icmp .eq 7, 3) := by decide +kernel
theorem dX18_colour_6 : decode cX18_colour 6 = .ok (.iload_n 1, 1) := by decide +kernel
theorem dX18_colour_7 : decode cX18_colour 7 = .ok (.goto 29, 3) := by decide +kernel
theorem dX18_colour_10 : decode cX18_colour 10 = .ok (.aload_n 0, 1) := by decide +kernel
theorem dX18_colour_11 : decode cX18_colour 11 = .ok (.iload_n 2, 1) := by decide +kernel
theorem dX18_colour_12 : decode cX18_colour 12 = .ok (.bipush 16, 2) := by decide +kernel
theorem dX18_colour_14 : decode cX18_colour 14 = .ok (.irem, 1) := by decide +kernel
theorem dX18_colour_15 : decode cX18_colour 15 = .ok (.iload_n 2, 1) := by decide +kernel
theorem dX18_colour_16 : decode cX18_colour 16 = .ok (.bipush 16, 2) := by decide +kernel
theorem dX18_colour_18 : decode cX18_colour 18 = .ok (.idiv, 1) := by decide +kernel
theorem dX18_colour_19 : decode cX18_colour 19 = .ok (.invokestatic 190, 3) := by decide +kernel
theorem dX18_colour_22 : decode cX18_colour 22 = .ok (.ifCond .eq 10, 3) := by decide +kernel
theorem dX18_colour_25 : decode cX18_colour 25 = .ok (.aload_n 0, 1) := by decide +kernel
theorem dX18_colour_26 : decode cX18_colour 26 = .ok (.getfield 108, 3) := by decide +kernel
theorem dX18_colour_29 : decode cX18_colour 29 = .ok (.goto 7, 3) := by decide +kernel
theorem dX18_colour_32 : decode cX18_colour 32 = .ok (.aload_n 0, 1) := by decide +kernel
theorem dX18_colour_33 : decode cX18_colour 33 = .ok (.getfield 111, 3) := by decide +kernel
theorem dX18_colour_36 : decode cX18_colour 36 = .ok (.ireturn, 1) := by decide +kernel
theorem dX18_isPlace_0 : decode cX18_isPlace 0 = .ok (.iload_n 0, 1) := by decide +kernel
theorem dX18_isPlace_1 : decode cX18_isPlace 1 = .ok (.bipush 41, 2) := by decide +kernel
theorem dX18_isPlace_3 : decode cX18_isPlace 3 = .ok (.if_icmp .ne 18, 3) := by decide +kernel
theorem dX18_isPlace_6 : decode cX18_isPlace 6 = .ok (.iload_n 1, 1) := by decide +kernel
theorem dX18_isPlace_7 : decode cX18_isPlace 7 = .ok (.iconst 4, 1) := by decide +kernel
theorem dX18_isPlace_8 : decode cX18_isPlace 8 = .ok (.idiv, 1) := by decide +kernel
theorem dX18_isPlace_9 : decode cX18_isPlace 9 = .ok (.iconst 2, 1) := by decide +kernel
theorem dX18_isPlace_10 : decode cX18_isPlace 10 = .ok (.if_icmp .ge 7, 3) := by decide +kernel
theorem dX18_isPlace_13 : decode cX18_isPlace 13 = .ok (.iconst 1, 1) := by decide +kernel
theorem dX18_isPlace_14 : decode cX18_isPlace 14 = .ok (.goto 67, 3) := by decide +kernel
theorem dX18_isPlace_17 : decode cX18_isPlace 17 = .ok (.iconst 0, 1) := by decide +kernel
theorem dX18_isPlace_18 : decode cX18_isPlace 18 = .ok (.goto 63, 3) := by decide +kernel
theorem dX18_isPlace_21 : decode cX18_isPlace 21 = .ok (.iload_n 0, 1) := by decide +kernel
theorem dX18_isPlace_22 : decode cX18_isPlace 22 = .ok (.bipush 42, 2) := by decide +kernel
theorem dX18_isPlace_24 : decode cX18_isPlace 24 = .ok (.if_icmp .ne 18, 3) := by decide +kernel
theorem dX18_isPlace_27 : decode cX18_isPlace 27 = .ok (.iload_n 1, 1) := by decide +kernel
theorem dX18_isPlace_28 : decode cX18_isPlace 28 = .ok (.iconst 4, 1) := by decide +kernel
theorem dX18_isPlace_29 : decode cX18_isPlace 29 = .ok (.idiv, 1) := by decide +kernel
theorem dX18_isPlace_30 : decode cX18_isPlace 30 = .ok (.iconst 1, 1) := by decide +kernel
theorem dX18_isPlace_31 : decode cX18_isPlace 31 = .ok (.if_icmp .le 7, 3) := by decide +kernel
theorem dX18_isPlace_34 : decode cX18_isPlace 34 = .ok (.iconst 1, 1) := by decide +kernel
theorem dX18_isPlace_35 : decode cX18_isPlace 35 = .ok (.goto 46, 3) := by decide +kernel
theorem dX18_isPlace_38 : decode cX18_isPlace 38 = .ok (.iconst 0, 1) := by decide +kernel
theorem dX18_isPlace_39 : decode cX18_isPlace 39 = .ok (.goto 42, 3) := by decide +kernel
theorem dX18_isPlace_42 : decode cX18_isPlace 42 = .ok (.iload_n 0, 1) := by decide +kernel
theorem dX18_isPlace_43 : decode cX18_isPlace 43 = .ok (.bipush 43, 2) := by decide +kernel
theorem dX18_isPlace_45 : decode cX18_isPlace 45 = .ok (.if_icmp .ne 18, 3) := by decide +kernel
theorem dX18_isPlace_48 : decode cX18_isPlace 48 = .ok (.iload_n 1, 1) := by decide +kernel
theorem dX18_isPlace_49 : decode cX18_isPlace 49 = .ok (.iconst 4, 1) := by decide +kernel
theorem dX18_isPlace_50 : decode cX18_isPlace 50 = .ok (.irem, 1) := by decide +kernel
theorem dX18_isPlace_51 : decode cX18_isPlace 51 = .ok (.iconst 2, 1) := by decide +kernel
theorem dX18_isPlace_52 : decode cX18_isPlace 52 = .ok (.if_icmp .ge 7, 3) := by decide +kernel
theorem dX18_isPlace_55 : decode cX18_isPlace 55 = .ok (.iconst 1, 1) := by decide +kernel
theorem dX18_isPlace_56 : decode cX18_isPlace 56 = .ok (.goto 25, 3) := by decide +kernel
theorem dX18_isPlace_59 : decode cX18_isPlace 59 = .ok (.iconst 0, 1) := by decide +kernel
theorem dX18_isPlace_60 : decode cX18_isPlace 60 = .ok (.goto 21, 3) := by decide +kernel
theorem dX18_isPlace_63 : decode cX18_isPlace 63 = .ok (.iload_n 0, 1) := by decide +kernel
theorem dX18_isPlace_64 : decode cX18_isPlace 64 = .ok (.bipush 44, 2) := by decide +kernel
theorem dX18_isPlace_66 : decode cX18_isPlace 66 = .ok (.if_icmp .ne 10, 3) := by decide +kernel
theorem dX18_isPlace_69 : decode cX18_isPlace 69 = .ok (.iload_n 1, 1) := by decide +kernel
theorem dX18_isPlace_70 : decode cX18_isPlace 70 = .ok (.iconst 4, 1) := by decide +kernel
theorem dX18_isPlace_71 : decode cX18_isPlace 71 = .ok (.irem, 1) := by decide +kernel
theorem dX18_isPlace_72 : decode cX18_isPlace 72 = .ok (.iconst 1, 1) := by decide +kernel
theorem dX18_isPlace_73 : decode cX18_isPlace 73 = .ok (.if_icmp .le 7, 3) := by decide +kernel
theorem dX18_isPlace_76 : decode cX18_isPlace 76 = .ok (.iconst 1, 1) := by decide +kernel
theorem dX18_isPlace_77 : decode cX18_isPlace 77 = .ok (.goto 4, 3) := by decide +kernel
theorem dX18_isPlace_80 : decode cX18_isPlace 80 = .ok (.iconst 0, 1) := by decide +kernel
theorem dX18_isPlace_81 : decode cX18_isPlace 81 = .ok (.ireturn, 1) := by decide +kernel
set_option maxRecDepth 20000 in
theorem ggX18_drawOrdinary_X18_isOf : GoodIn wsX18_drawOrdinary wsX18_isOf := goodIn_r _ [5, 6, 7, 8, 9, 10, 11, 4, 12, 13, 14, 15] (by decide +kernel) (by decide +kernel)
set_option maxRecDepth 20000 in
theorem gX18_drawOrdinary_X18_isOf : GoodIn wsX18_drawOrdinary (va_wsS RX18 194 yX18_isOf wsX18_isOf) := goodIn_app (goodIn_of _ (by decide +kernel)) ggX18_drawOrdinary_X18_isOf
set_option maxRecDepth 20000 in
theorem ggX18_drawOrdinary_X18_colour : GoodIn wsX18_drawOrdinary wsX18_colour := goodIn_r _ [18, 19, 20, 4, 21, 6, 7, 8, 9, 10, 11, 12, 74, 75, 76, 77, 78, 79] (by decide +kernel) (by decide +kernel)
set_option maxRecDepth 20000 in
theorem gX18_drawOrdinary_X18_colour : GoodIn wsX18_drawOrdinary (va_wsS RX18 198 yX18_colour wsX18_colour) := goodIn_app (goodIn_of _ (by decide +kernel)) ggX18_drawOrdinary_X18_colour
set_option maxRecDepth 20000 in
theorem ggX18_drawOrdinary_X18_pointOf : GoodIn wsX18_drawOrdinary wsX18_pointOf := goodIn_r _ [24] (by decide +kernel) (by decide +kernel)
set_option maxRecDepth 20000 in
theorem gX18_drawOrdinary_X18_pointOf : GoodIn wsX18_drawOrdinary (va_wsS RX18 205 yX18_pointOf wsX18_pointOf) := goodIn_app (goodIn_of _ (by decide +kernel)) ggX18_drawOrdinary_X18_pointOf
set_option maxRecDepth 20000 in
theorem ggX18_drawOrdinary_X18_has : GoodIn wsX18_drawOrdinary wsX18_has := goodIn_r _ [27, 28, 29, 4, 30] (by decide +kernel) (by decide +kernel)
set_option maxRecDepth 20000 in
theorem gX18_drawOrdinary_X18_has : GoodIn wsX18_drawOrdinary (va_wsS RX18 208 yX18_has wsX18_has) := goodIn_app (goodIn_of _ (by decide +kernel)) ggX18_drawOrdinary_X18_has
theorem dX18_drawOrdinary_0 : decode cX18_drawOrdinary 0 = .ok (.iconst 0, 1) := by decide +kernel
theorem dX18_drawOrdinary_1 : decode cX18_drawOrdinary 1 = .ok (.istore 4, 2) := by decide +kernel
theorem dX18_drawOrdinary_3 : decode cX18_drawOrdinary 3 = .ok (.iload 4, 2) := by decide +kernel
theorem dX18_drawOrdinary_5 : decode cX18_drawOrdinary 5 = .ok (.sipush 256, 3) := by decide +kernel
theorem dX18_drawOrdinary_8 : decode cX18_drawOrdinary 8 = .ok (.if_icmp .ge 55, 3) := by decide +kernel
theorem dX18_drawOrdinary_11 : decode cX18_drawOrdinary 11 = .ok (.aload_n 2, 1) := by decide +kernel
theorem dX18_drawOrdinary_12 : decode cX18_drawOrdinary 12 = .ok (.getfield 146, 3) := by decide +kernel
theorem dX18_drawOrdinary_15 : decode cX18_drawOrdinary 15 = .ok (.aload_n 2, 1) := by decide +kernel
theorem dX18_drawOrdinary_16 : decode cX18_drawOrdinary 16 = .ok (.getfield 132, 3) := by decide +kernel
theorem dX18_drawOrdinary_19 : decode cX18_drawOrdinary 19 = .ok (.iload 4, 2) := by decide +kernel
theorem dX18_drawOrdinary_21 : decode cX18_drawOrdinary 21 = .ok (.bipush 16, 2) := by decide +kernel
theorem dX18_drawOrdinary_23 : decode cX18_drawOrdinary 23 = .ok (.irem, 1) := by decide +kernel
theorem dX18_drawOrdinary_24 : decode cX18_drawOrdinary 24 = .ok (.iload 4, 2) := by decide +kernel
theorem dX18_drawOrdinary_26 : decode cX18_drawOrdinary 26 = .ok (.bipush 16, 2) := by decide +kernel
theorem dX18_drawOrdinary_28 : decode cX18_drawOrdinary 28 = .ok (.idiv, 1) := by decide +kernel
theorem dX18_drawOrdinary_29 : decode cX18_drawOrdinary 29 = .ok (.invokestatic 194, 3) := by decide +kernel
theorem dX18_drawOrdinary_32 : decode cX18_drawOrdinary 32 = .ok (.ifCond .eq 25, 3) := by decide +kernel
theorem dX18_drawOrdinary_35 : decode cX18_drawOrdinary 35 = .ok (.aload_n 3, 1) := by decide +kernel
theorem dX18_drawOrdinary_36 : decode cX18_drawOrdinary 36 = .ok (.iload 4, 2) := by decide +kernel
theorem dX18_drawOrdinary_38 : decode cX18_drawOrdinary 38 = .ok (.aload_n 1, 1) := by decide +kernel
theorem dX18_drawOrdinary_39 : decode cX18_drawOrdinary 39 = .ok (.aload_n 2, 1) := by decide +kernel
theorem dX18_drawOrdinary_40 : decode cX18_drawOrdinary 40 = .ok (.getfield 153, 3) := by decide +kernel
theorem dX18_drawOrdinary_43 : decode cX18_drawOrdinary 43 = .ok (.iload 4, 2) := by decide +kernel
theorem dX18_drawOrdinary_45 : decode cX18_drawOrdinary 45 = .ok (.invokestatic 198, 3) := by decide +kernel
theorem dX18_drawOrdinary_48 : decode cX18_drawOrdinary 48 = .ok (.iastore, 1) := by decide +kernel
theorem dX18_drawOrdinary_49 : decode cX18_drawOrdinary 49 = .ok (.aload_n 0, 1) := by decide +kernel
theorem dX18_drawOrdinary_50 : decode cX18_drawOrdinary 50 = .ok (.getfield 36, 3) := by decide +kernel
theorem dX18_drawOrdinary_53 : decode cX18_drawOrdinary 53 = .ok (.iload 4, 2) := by decide +kernel
theorem dX18_drawOrdinary_55 : decode cX18_drawOrdinary 55 = .ok (.iconst 1, 1) := by decide +kernel
theorem dX18_drawOrdinary_56 : decode cX18_drawOrdinary 56 = .ok (.bastore, 1) := by decide +kernel
theorem dX18_drawOrdinary_57 : decode cX18_drawOrdinary 57 = .ok (.iinc 4 1, 3) := by decide +kernel
theorem dX18_drawOrdinary_60 : decode cX18_drawOrdinary 60 = .ok (.goto (-57), 3) := by decide +kernel
theorem dX18_drawOrdinary_63 : decode cX18_drawOrdinary 63 = .ok (.aload_n 2, 1) := by decide +kernel
theorem dX18_drawOrdinary_64 : decode cX18_drawOrdinary 64 = .ok (.iconst 0, 1) := by decide +kernel
theorem dX18_drawOrdinary_65 : decode cX18_drawOrdinary 65 = .ok (.putfield 202, 3) := by decide +kernel
theorem dX18_drawOrdinary_68 : decode cX18_drawOrdinary 68 = .ok (.iconst 0, 1) := by decide +kernel
theorem dX18_drawOrdinary_69 : decode cX18_drawOrdinary 69 = .ok (.istore 4, 2) := by decide +kernel
theorem dX18_drawOrdinary_71 : decode cX18_drawOrdinary 71 = .ok (.aload_n 2, 1) := by decide +kernel
theorem dX18_drawOrdinary_72 : decode cX18_drawOrdinary 72 = .ok (.getfield 135, 3) := by decide +kernel
theorem dX18_drawOrdinary_75 : decode cX18_drawOrdinary 75 = .ok (.ifCond .eq 178, 3) := by decide +kernel
theorem dX18_drawOrdinary_78 : decode cX18_drawOrdinary 78 = .ok (.iload 4, 2) := by decide +kernel
theorem dX18_drawOrdinary_80 : decode cX18_drawOrdinary 80 = .ok (.bipush 16, 2) := by decide +kernel
theorem dX18_drawOrdinary_82 : decode cX18_drawOrdinary 82 = .ok (.if_icmp .ge 171, 3) := by decide +kernel
theorem dX18_drawOrdinary_85 : decode cX18_drawOrdinary 85 = .ok (.aload_n 2, 1) := by decide +kernel
theorem dX18_drawOrdinary_86 : decode cX18_drawOrdinary 86 = .ok (.getfield 202, 3) := by decide +kernel
theorem dX18_drawOrdinary_89 : decode cX18_drawOrdinary 89 = .ok (.aload_n 2, 1) := by decide +kernel
theorem dX18_drawOrdinary_90 : decode cX18_drawOrdinary 90 = .ok (.getfield 155, 3) := by decide +kernel
theorem dX18_drawOrdinary_93 : decode cX18_drawOrdinary 93 = .ok (.if_icmp .ge 160, 3) := by decide +kernel
theorem dX18_drawOrdinary_96 : decode cX18_drawOrdinary 96 = .ok (.iconst 0, 1) := by decide +kernel
theorem dX18_drawOrdinary_97 : decode cX18_drawOrdinary 97 = .ok (.istore 5, 2) := by decide +kernel
theorem dX18_drawOrdinary_99 : decode cX18_drawOrdinary 99 = .ok (.iconst 0, 1) := by decide +kernel
theorem dX18_drawOrdinary_100 : decode cX18_drawOrdinary 100 = .ok (.istore 6, 2) := by decide +kernel
theorem dX18_drawOrdinary_102 : decode cX18_drawOrdinary 102 = .ok (.iload 6, 2) := by decide +kernel
theorem dX18_drawOrdinary_104 : decode cX18_drawOrdinary 104 = .ok (.bipush 9, 2) := by decide +kernel
theorem dX18_drawOrdinary_106 : decode cX18_drawOrdinary 106 = .ok (.if_icmp .ge 52, 3) := by decide +kernel
theorem dX18_drawOrdinary_109 : decode cX18_drawOrdinary 109 = .ok (.iload 4, 2) := by decide +kernel
theorem dX18_drawOrdinary_111 : decode cX18_drawOrdinary 111 = .ok (.iload 6, 2) := by decide +kernel
theorem dX18_drawOrdinary_113 : decode cX18_drawOrdinary 113 = .ok (.invokestatic 205, 3) := by decide +kernel
theorem dX18_drawOrdinary_116 : decode cX18_drawOrdinary 116 = .ok (.istore 7, 2) := by decide +kernel
theorem dX18_drawOrdinary_118 : decode cX18_drawOrdinary 118 = .ok (.iload 5, 2) := by decide +kernel
theorem dX18_drawOrdinary_120 : decode cX18_drawOrdinary 120 = .ok (.aload_n 2, 1) := by decide +kernel
theorem dX18_drawOrdinary_121 : decode cX18_drawOrdinary 121 = .ok (.getfield 146, 3) := by decide +kernel
theorem dX18_drawOrdinary_124 : decode cX18_drawOrdinary 124 = .ok (.aload_n 2, 1) := by decide +kernel
theorem dX18_drawOrdinary_125 : decode cX18_drawOrdinary 125 = .ok (.getfield 132, 3) := by decide +kernel
theorem dX18_drawOrdinary_128 : decode cX18_drawOrdinary 128 = .ok (.iload 7, 2) := by decide +kernel
theorem dX18_drawOrdinary_130 : decode cX18_drawOrdinary 130 = .ok (.bipush 16, 2) := by decide +kernel
theorem dX18_drawOrdinary_132 : decode cX18_drawOrdinary 132 = .ok (.irem, 1) := by decide +kernel
theorem dX18_drawOrdinary_133 : decode cX18_drawOrdinary 133 = .ok (.iload 7, 2) := by decide +kernel
theorem dX18_drawOrdinary_135 : decode cX18_drawOrdinary 135 = .ok (.bipush 16, 2) := by decide +kernel
theorem dX18_drawOrdinary_137 : decode cX18_drawOrdinary 137 = .ok (.idiv, 1) := by decide +kernel
theorem dX18_drawOrdinary_138 : decode cX18_drawOrdinary 138 = .ok (.invokestatic 194, 3) := by decide +kernel
theorem dX18_drawOrdinary_141 : decode cX18_drawOrdinary 141 = .ok (.ifCond .eq 7, 3) := by decide +kernel
theorem dX18_drawOrdinary_144 : decode cX18_drawOrdinary 144 = .ok (.iconst 1, 1) := by decide +kernel
theorem dX18_drawOrdinary_145 : decode cX18_drawOrdinary 145 = .ok (.goto 4, 3) := by decide +kernel
theorem dX18_drawOrdinary_148 : decode cX18_drawOrdinary 148 = .ok (.iconst 0, 1) := by decide +kernel
theorem dX18_drawOrdinary_149 : decode cX18_drawOrdinary 149 = .ok (.iadd, 1) := by decide +kernel
theorem dX18_drawOrdinary_150 : decode cX18_drawOrdinary 150 = .ok (.istore 5, 2) := by decide +kernel
theorem dX18_drawOrdinary_152 : decode cX18_drawOrdinary 152 = .ok (.iinc 6 1, 3) := by decide +kernel
theorem dX18_drawOrdinary_155 : decode cX18_drawOrdinary 155 = .ok (.goto (-53), 3) := by decide +kernel
theorem dX18_drawOrdinary_158 : decode cX18_drawOrdinary 158 = .ok (.iload 5, 2) := by decide +kernel
theorem dX18_drawOrdinary_160 : decode cX18_drawOrdinary 160 = .ok (.iconst 5, 1) := by decide +kernel
theorem dX18_drawOrdinary_161 : decode cX18_drawOrdinary 161 = .ok (.if_icmp .lt 86, 3) := by decide +kernel
theorem dX18_drawOrdinary_164 : decode cX18_drawOrdinary 164 = .ok (.aload_n 2, 1) := by decide +kernel
theorem dX18_drawOrdinary_165 : decode cX18_drawOrdinary 165 = .ok (.dup, 1) := by decide +kernel
theorem dX18_drawOrdinary_166 : decode cX18_drawOrdinary 166 = .ok (.getfield 202, 3) := by decide +kernel
theorem dX18_drawOrdinary_169 : decode cX18_drawOrdinary 169 = .ok (.iconst 1, 1) := by decide +kernel
theorem dX18_drawOrdinary_170 : decode cX18_drawOrdinary 170 = .ok (.iadd, 1) := by decide +kernel
theorem dX18_drawOrdinary_171 : decode cX18_drawOrdinary 171 = .ok (.putfield 202, 3) := by decide +kernel
theorem dX18_drawOrdinary_174 : decode cX18_drawOrdinary 174 = .ok (.iconst 0, 1) := by decide +kernel
theorem dX18_drawOrdinary_175 : decode cX18_drawOrdinary 175 = .ok (.istore 6, 2) := by decide +kernel
theorem dX18_drawOrdinary_177 : decode cX18_drawOrdinary 177 = .ok (.iload 6, 2) := by decide +kernel
theorem dX18_drawOrdinary_179 : decode cX18_drawOrdinary 179 = .ok (.bipush 9, 2) := by decide +kernel
theorem dX18_drawOrdinary_181 : decode cX18_drawOrdinary 181 = .ok (.if_icmp .ge 66, 3) := by decide +kernel
theorem dX18_drawOrdinary_184 : decode cX18_drawOrdinary 184 = .ok (.iload 4, 2) := by decide +kernel
theorem dX18_drawOrdinary_186 : decode cX18_drawOrdinary 186 = .ok (.iload 6, 2) := by decide +kernel
theorem dX18_drawOrdinary_188 : decode cX18_drawOrdinary 188 = .ok (.invokestatic 205, 3) := by decide +kernel
theorem dX18_drawOrdinary_191 : decode cX18_drawOrdinary 191 = .ok (.istore 7, 2) := by decide +kernel
theorem dX18_drawOrdinary_193 : decode cX18_drawOrdinary 193 = .ok (.aload_n 2, 1) := by decide +kernel
theorem dX18_drawOrdinary_194 : decode cX18_drawOrdinary 194 = .ok (.getfield 158, 3) := by decide +kernel
theorem dX18_drawOrdinary_197 : decode cX18_drawOrdinary 197 = .ok (.aload_n 2, 1) := by decide +kernel
theorem dX18_drawOrdinary_198 : decode cX18_drawOrdinary 198 = .ok (.getfield 161, 3) := by decide +kernel
theorem dX18_drawOrdinary_201 : decode cX18_drawOrdinary 201 = .ok (.iload 6, 2) := by decide +kernel
theorem dX18_drawOrdinary_203 : decode cX18_drawOrdinary 203 = .ok (.invokestatic 208, 3) := by decide +kernel
theorem dX18_drawOrdinary_206 : decode cX18_drawOrdinary 206 = .ok (.ifCond .eq 35, 3) := by decide +kernel
theorem dX18_drawOrdinary_209 : decode cX18_drawOrdinary 209 = .ok (.aload_n 2, 1) := by decide +kernel
theorem dX18_drawOrdinary_210 : decode cX18_drawOrdinary 210 = .ok (.getfield 146, 3) := by decide +kernel
theorem dX18_drawOrdinary_213 : decode cX18_drawOrdinary 213 = .ok (.aload_n 2, 1) := by decide +kernel
theorem dX18_drawOrdinary_214 : decode cX18_drawOrdinary 214 = .ok (.getfield 132, 3) := by decide +kernel
theorem dX18_drawOrdinary_217 : decode cX18_drawOrdinary 217 = .ok (.iload 7, 2) := by decide +kernel
theorem dX18_drawOrdinary_219 : decode cX18_drawOrdinary 219 = .ok (.bipush 16, 2) := by decide +kernel
theorem dX18_drawOrdinary_221 : decode cX18_drawOrdinary 221 = .ok (.irem, 1) := by decide +kernel
theorem dX18_drawOrdinary_222 : decode cX18_drawOrdinary 222 = .ok (.iload 7, 2) := by decide +kernel
theorem dX18_drawOrdinary_224 : decode cX18_drawOrdinary 224 = .ok (.bipush 16, 2) := by decide +kernel
theorem dX18_drawOrdinary_226 : decode cX18_drawOrdinary 226 = .ok (.idiv, 1) := by decide +kernel
theorem dX18_drawOrdinary_227 : decode cX18_drawOrdinary 227 = .ok (.invokestatic 194, 3) := by decide +kernel
theorem dX18_drawOrdinary_230 : decode cX18_drawOrdinary 230 = .ok (.ifCond .eq 11, 3) := by decide +kernel
theorem dX18_drawOrdinary_233 : decode cX18_drawOrdinary 233 = .ok (.aload_n 3, 1) := by decide +kernel
theorem dX18_drawOrdinary_234 : decode cX18_drawOrdinary 234 = .ok (.iload 7, 2) := by decide +kernel
theorem dX18_drawOrdinary_236 : decode cX18_drawOrdinary 236 = .ok (.aload_n 2, 1) := by decide +kernel
theorem dX18_drawOrdinary_237 : decode cX18_drawOrdinary 237 = .ok (.getfield 164, 3) := by decide +kernel
theorem dX18_drawOrdinary_240 : decode cX18_drawOrdinary 240 = .ok (.iastore, 1) := by decide +kernel
theorem dX18_drawOrdinary_241 : decode cX18_drawOrdinary 241 = .ok (.iinc 6 1, 3) := by decide +kernel
theorem dX18_drawOrdinary_244 : decode cX18_drawOrdinary 244 = .ok (.goto (-67), 3) := by decide +kernel
theorem dX18_drawOrdinary_247 : decode cX18_drawOrdinary 247 = .ok (.iinc 4 1, 3) := by decide +kernel
theorem dX18_drawOrdinary_250 : decode cX18_drawOrdinary 250 = .ok (.goto (-179), 3) := by decide +kernel
theorem dX18_drawOrdinary_253 : decode cX18_drawOrdinary 253 = .ok (.return_, 1) := by decide +kernel
set_option maxRecDepth 20000 in
theorem ggX18_drawCharges_X18_isPlace : GoodIn wsX18_drawCharges wsX18_isPlace := goodIn_r _ [5] (by decide +kernel) (by decide +kernel)
set_option maxRecDepth 20000 in
theorem gX18_drawCharges_X18_isPlace : GoodIn wsX18_drawCharges (va_wsS RX18 214 yX18_isPlace wsX18_isPlace) := goodIn_app (goodIn_of _ (by decide +kernel)) ggX18_drawCharges_X18_isPlace
set_option maxRecDepth 20000 in
theorem ggX18_drawCharges_X18_pointOf : GoodIn wsX18_drawCharges wsX18_pointOf := goodIn_r _ [8] (by decide +kernel) (by decide +kernel)
set_option maxRecDepth 20000 in
theorem gX18_drawCharges_X18_pointOf : GoodIn wsX18_drawCharges (va_wsS RX18 205 yX18_pointOf wsX18_pointOf) := goodIn_app (goodIn_of _ (by decide +kernel)) ggX18_drawCharges_X18_pointOf
set_option maxRecDepth 20000 in
theorem ggX18_drawCharges_X18_has : GoodIn wsX18_drawCharges wsX18_has := goodIn_r _ [11, 12, 13, 4, 14] (by decide +kernel) (by decide +kernel)
set_option maxRecDepth 20000 in
theorem gX18_drawCharges_X18_has : GoodIn wsX18_drawCharges (va_wsS RX18 208 yX18_has wsX18_has) := goodIn_app (goodIn_of _ (by decide +kernel)) ggX18_drawCharges_X18_has
set_option maxRecDepth 20000 in
theorem ggX18_drawCharges_X18_colour : GoodIn wsX18_drawCharges wsX18_colour := goodIn_r _ [17, 18, 19, 4, 20, 21, 22, 23, 24, 25, 26, 27, 71, 72, 73, 74, 75, 76] (by decide +kernel) (by decide +kernel)
set_option maxRecDepth 20000 in
theorem gX18_drawCharges_X18_colour : GoodIn wsX18_drawCharges (va_wsS RX18 198 yX18_colour wsX18_colour) := goodIn_app (goodIn_of _ (by decide +kernel)) ggX18_drawCharges_X18_colour
theorem dX18_drawCharges_0 : decode cX18_drawCharges 0 = .ok (.aload_n 2, 1) := by decide +kernel
theorem dX18_drawCharges_1 : decode cX18_drawCharges 1 = .ok (.iconst 0, 1) := by decide +kernel
theorem dX18_drawCharges_2 : decode cX18_drawCharges 2 = .ok (.putfield 211, 3) := by decide +kernel
theorem dX18_drawCharges_5 : decode cX18_drawCharges 5 = .ok (.iconst 0, 1) := by decide +kernel
theorem dX18_drawCharges_6 : decode cX18_drawCharges 6 = .ok (.istore 4, 2) := by decide +kernel
theorem dX18_drawCharges_8 : decode cX18_drawCharges 8 = .ok (.iload 4, 2) := by decide +kernel
theorem dX18_drawCharges_10 : decode cX18_drawCharges 10 = .ok (.bipush 16, 2) := by decide +kernel
theorem dX18_drawCharges_12 : decode cX18_drawCharges 12 = .ok (.if_icmp .ge 178, 3) := by decide +kernel
theorem dX18_drawCharges_15 : decode cX18_drawCharges 15 = .ok (.aload_n 2, 1) := by decide +kernel
theorem dX18_drawCharges_16 : decode cX18_drawCharges 16 = .ok (.getfield 142, 3) := by decide +kernel
theorem dX18_drawCharges_19 : decode cX18_drawCharges 19 = .ok (.bipush 115, 2) := by decide +kernel
theorem dX18_drawCharges_21 : decode cX18_drawCharges 21 = .ok (.if_icmp .eq 14, 3) := by decide +kernel
theorem dX18_drawCharges_24 : decode cX18_drawCharges 24 = .ok (.aload_n 2, 1) := by decide +kernel
theorem dX18_drawCharges_25 : decode cX18_drawCharges 25 = .ok (.getfield 211, 3) := by decide +kernel
theorem dX18_drawCharges_28 : decode cX18_drawCharges 28 = .ok (.aload_n 2, 1) := by decide +kernel
theorem dX18_drawCharges_29 : decode cX18_drawCharges 29 = .ok (.getfield 114, 3) := by decide +kernel
theorem dX18_drawCharges_32 : decode cX18_drawCharges 32 = .ok (.if_icmp .ge 158, 3) := by decide +kernel
theorem dX18_drawCharges_35 : decode cX18_drawCharges 35 = .ok (.aload_n 2, 1) := by decide +kernel
theorem dX18_drawCharges_36 : decode cX18_drawCharges 36 = .ok (.getfield 142, 3) := by decide +kernel
theorem dX18_drawCharges_39 : decode cX18_drawCharges 39 = .ok (.bipush 115, 2) := by decide +kernel
theorem dX18_drawCharges_41 : decode cX18_drawCharges 41 = .ok (.if_icmp .eq 15, 3) := by decide +kernel
theorem dX18_drawCharges_44 : decode cX18_drawCharges 44 = .ok (.aload_n 2, 1) := by decide +kernel
theorem dX18_drawCharges_45 : decode cX18_drawCharges 45 = .ok (.getfield 139, 3) := by decide +kernel
theorem dX18_drawCharges_48 : decode cX18_drawCharges 48 = .ok (.iload 4, 2) := by decide +kernel
theorem dX18_drawCharges_50 : decode cX18_drawCharges 50 = .ok (.invokestatic 214, 3) := by decide +kernel
theorem dX18_drawCharges_53 : decode cX18_drawCharges 53 = .ok (.ifCond .eq 7, 3) := by decide +kernel
theorem dX18_drawCharges_56 : decode cX18_drawCharges 56 = .ok (.iconst 1, 1) := by decide +kernel
theorem dX18_drawCharges_57 : decode cX18_drawCharges 57 = .ok (.goto 4, 3) := by decide +kernel
theorem dX18_drawCharges_60 : decode cX18_drawCharges 60 = .ok (.iconst 0, 1) := by decide +kernel
theorem dX18_drawCharges_61 : decode cX18_drawCharges 61 = .ok (.istore 5, 2) := by decide +kernel
theorem dX18_drawCharges_63 : decode cX18_drawCharges 63 = .ok (.iconst 0, 1) := by decide +kernel
theorem dX18_drawCharges_64 : decode cX18_drawCharges 64 = .ok (.istore 6, 2) := by decide +kernel
theorem dX18_drawCharges_66 : decode cX18_drawCharges 66 = .ok (.iload 6, 2) := by decide +kernel
theorem dX18_drawCharges_68 : decode cX18_drawCharges 68 = .ok (.bipush 9, 2) := by decide +kernel
theorem dX18_drawCharges_70 : decode cX18_drawCharges 70 = .ok (.if_icmp .ge 36, 3) := by decide +kernel
theorem dX18_drawCharges_73 : decode cX18_drawCharges 73 = .ok (.iload 5, 2) := by decide +kernel
theorem dX18_drawCharges_75 : decode cX18_drawCharges 75 = .ok (.ifCond .eq 22, 3) := by decide +kernel
theorem dX18_drawCharges_78 : decode cX18_drawCharges 78 = .ok (.aload_n 0, 1) := by decide +kernel
theorem dX18_drawCharges_79 : decode cX18_drawCharges 79 = .ok (.getfield 36, 3) := by decide +kernel
theorem dX18_drawCharges_82 : decode cX18_drawCharges 82 = .ok (.iload 4, 2) := by decide +kernel
theorem dX18_drawCharges_84 : decode cX18_drawCharges 84 = .ok (.iload 6, 2) := by decide +kernel
theorem dX18_drawCharges_86 : decode cX18_drawCharges 86 = .ok (.invokestatic 205, 3) := by decide +kernel
theorem dX18_drawCharges_89 : decode cX18_drawCharges 89 = .ok (.baload, 1) := by decide +kernel
theorem dX18_drawCharges_90 : decode cX18_drawCharges 90 = .ok (.ifCond .ne 7, 3) := by decide +kernel
theorem dX18_drawCharges_93 : decode cX18_drawCharges 93 = .ok (.iconst 1, 1) := by decide +kernel
theorem dX18_drawCharges_94 : decode cX18_drawCharges 94 = .ok (.goto 4, 3) := by decide +kernel
theorem dX18_drawCharges_97 : decode cX18_drawCharges 97 = .ok (.iconst 0, 1) := by decide +kernel
theorem dX18_drawCharges_98 : decode cX18_drawCharges 98 = .ok (.istore 5, 2) := by decide +kernel
theorem dX18_drawCharges_100 : decode cX18_drawCharges 100 = .ok (.iinc 6 1, 3) := by decide +kernel
theorem dX18_drawCharges_103 : decode cX18_drawCharges 103 = .ok (.goto (-37), 3) := by decide +kernel
theorem dX18_drawCharges_106 : decode cX18_drawCharges 106 = .ok (.iload 5, 2) := by decide +kernel
theorem dX18_drawCharges_108 : decode cX18_drawCharges 108 = .ok (.ifCond .eq 76, 3) := by decide +kernel
theorem dX18_drawCharges_111 : decode cX18_drawCharges 111 = .ok (.aload_n 2, 1) := by decide +kernel
theorem dX18_drawCharges_112 : decode cX18_drawCharges 112 = .ok (.dup, 1) := by decide +kernel
theorem dX18_drawCharges_113 : decode cX18_drawCharges 113 = .ok (.getfield 211, 3) := by decide +kernel
theorem dX18_drawCharges_116 : decode cX18_drawCharges 116 = .ok (.iconst 1, 1) := by decide +kernel
theorem dX18_drawCharges_117 : decode cX18_drawCharges 117 = .ok (.iadd, 1) := by decide +kernel
theorem dX18_drawCharges_118 : decode cX18_drawCharges 118 = .ok (.putfield 211, 3) := by decide +kernel
theorem dX18_drawCharges_121 : decode cX18_drawCharges 121 = .ok (.iconst 0, 1) := by decide +kernel
theorem dX18_drawCharges_122 : decode cX18_drawCharges 122 = .ok (.istore 6, 2) := by decide +kernel
theorem dX18_drawCharges_124 : decode cX18_drawCharges 124 = .ok (.iload 6, 2) := by decide +kernel
theorem dX18_drawCharges_126 : decode cX18_drawCharges 126 = .ok (.bipush 9, 2) := by decide +kernel
theorem dX18_drawCharges_128 : decode cX18_drawCharges 128 = .ok (.if_icmp .ge 56, 3) := by decide +kernel
theorem dX18_drawCharges_131 : decode cX18_drawCharges 131 = .ok (.iload 4, 2) := by decide +kernel
theorem dX18_drawCharges_133 : decode cX18_drawCharges 133 = .ok (.iload 6, 2) := by decide +kernel
theorem dX18_drawCharges_135 : decode cX18_drawCharges 135 = .ok (.invokestatic 205, 3) := by decide +kernel
theorem dX18_drawCharges_138 : decode cX18_drawCharges 138 = .ok (.istore 7, 2) := by decide +kernel
theorem dX18_drawCharges_140 : decode cX18_drawCharges 140 = .ok (.aload_n 2, 1) := by decide +kernel
theorem dX18_drawCharges_141 : decode cX18_drawCharges 141 = .ok (.getfield 119, 3) := by decide +kernel
theorem dX18_drawCharges_144 : decode cX18_drawCharges 144 = .ok (.aload_n 2, 1) := by decide +kernel
theorem dX18_drawCharges_145 : decode cX18_drawCharges 145 = .ok (.getfield 125, 3) := by decide +kernel
theorem dX18_drawCharges_148 : decode cX18_drawCharges 148 = .ok (.iload 6, 2) := by decide +kernel
theorem dX18_drawCharges_150 : decode cX18_drawCharges 150 = .ok (.invokestatic 208, 3) := by decide +kernel
theorem dX18_drawCharges_153 : decode cX18_drawCharges 153 = .ok (.ifCond .eq 25, 3) := by decide +kernel
theorem dX18_drawCharges_156 : decode cX18_drawCharges 156 = .ok (.aload_n 3, 1) := by decide +kernel
theorem dX18_drawCharges_157 : decode cX18_drawCharges 157 = .ok (.iload 7, 2) := by decide +kernel
theorem dX18_drawCharges_159 : decode cX18_drawCharges 159 = .ok (.aload_n 1, 1) := by decide +kernel
theorem dX18_drawCharges_160 : decode cX18_drawCharges 160 = .ok (.aload_n 2, 1) := by decide +kernel
theorem dX18_drawCharges_161 : decode cX18_drawCharges 161 = .ok (.getfield 153, 3) := by decide +kernel
theorem dX18_drawCharges_164 : decode cX18_drawCharges 164 = .ok (.iload 7, 2) := by decide +kernel
theorem dX18_drawCharges_166 : decode cX18_drawCharges 166 = .ok (.invokestatic 198, 3) := by decide +kernel
theorem dX18_drawCharges_169 : decode cX18_drawCharges 169 = .ok (.iastore, 1) := by decide +kernel
theorem dX18_drawCharges_170 : decode cX18_drawCharges 170 = .ok (.aload_n 0, 1) := by decide +kernel
theorem dX18_drawCharges_171 : decode cX18_drawCharges 171 = .ok (.getfield 36, 3) := by decide +kernel
theorem dX18_drawCharges_174 : decode cX18_drawCharges 174 = .ok (.iload 7, 2) := by decide +kernel
theorem dX18_drawCharges_176 : decode cX18_drawCharges 176 = .ok (.iconst 1, 1) := by decide +kernel
theorem dX18_drawCharges_177 : decode cX18_drawCharges 177 = .ok (.bastore, 1) := by decide +kernel
theorem dX18_drawCharges_178 : decode cX18_drawCharges 178 = .ok (.iinc 6 1, 3) := by decide +kernel
theorem dX18_drawCharges_181 : decode cX18_drawCharges 181 = .ok (.goto (-57), 3) := by decide +kernel
theorem dX18_drawCharges_184 : decode cX18_drawCharges 184 = .ok (.iinc 4 1, 3) := by decide +kernel
theorem dX18_drawCharges_187 : decode cX18_drawCharges 187 = .ok (.goto (-179), 3) := by decide +kernel
theorem dX18_drawCharges_190 : decode cX18_drawCharges 190 = .ok (.return_, 1) := by decide +kernel
set_option maxRecDepth 20000 in
theorem ggX18_draw_X18_isSecond : GoodIn wsX18_draw wsX18_isSecond := goodIn_r _ [5, 6, 7, 8, 9, 10, 11, 4, 12, 42, 43, 44, 45, 46, 47] (by decide +kernel) (by decide +kernel)
set_option maxRecDepth 20000 in
theorem gX18_draw_X18_isSecond : GoodIn wsX18_draw (va_wsS RX18 190 yX18_isSecond wsX18_isSecond) := goodIn_app (goodIn_of _ (by decide +kernel)) ggX18_draw_X18_isSecond
set_option maxRecDepth 20000 in
theorem ggX18_draw_X18_drawOrdinary : GoodIn wsX18_draw wsX18_drawOrdinary := goodIn_ca (goodIn_r _ [16, 1, 17, 18, 4, 19, 6, 7, 8, 9, 10, 11, 12, 20, 21, 22, 23, 24, 25, 2, 3, 5, 26, 27, 28, 29, 30, 31, 32, 33, 34, 76, 77, 78, 79, 80, 81, 82, 83, 84, 85, 86, 87, 88, 89, 90, 48, 49, 50, 51, 52, 53, 54, 55, 56, 57, 58, 59, 60, 61, 62, 63, 64, 65, 66, 67, 68, 69, 70, 71, 72, 73, 74, 75, 42, 43, 44, 45, 46, 47] (by decide +kernel) (by decide +kernel)) (goodIn_sub (fun _ h => List.mem_cons_of_mem _ (List.mem_append_right _ h)) (by decide +kernel))
set_option maxRecDepth 20000 in
theorem gX18_draw_X18_drawOrdinary : GoodIn wsX18_draw (wsV RX18 222 RX18 yX18_drawOrdinary wsX18_drawOrdinary) := goodIn_app (goodIn_of _ (by decide +kernel)) ggX18_draw_X18_drawOrdinary
set_option maxRecDepth 20000 in
theorem ggX18_draw_X18_drawCharges : GoodIn wsX18_draw wsX18_drawCharges := goodIn_ca (goodIn_r _ [38, 1, 39, 40, 4, 41, 26, 27, 28, 29, 30, 31, 32, 33, 34, 23, 24, 25, 2, 3, 5, 6, 7, 8, 9, 10, 11, 12, 76, 77, 78, 79, 80, 81, 82, 83, 84, 85, 86, 87, 88, 89, 90, 48, 49, 50, 51, 52, 53, 54, 55, 56, 57, 58, 59, 60, 61, 62, 63, 64, 65, 66, 67, 68, 69, 70, 71, 72, 73, 74, 75, 42, 43, 44, 45, 46, 47] (by decide +kernel) (by decide +kernel)) (goodIn_sub (fun _ h => List.mem_cons_of_mem _ (List.mem_append_right _ h)) (by decide +kernel))
set_option maxRecDepth 20000 in
theorem gX18_draw_X18_drawCharges : GoodIn wsX18_draw (wsV RX18 226 RX18 yX18_drawCharges wsX18_drawCharges) := goodIn_app (goodIn_of _ (by decide +kernel)) ggX18_draw_X18_drawCharges
theorem dX18_draw_0 : decode cX18_draw 0 = .ok (.iconst 0, 1) := by decide +kernel
theorem dX18_draw_1 : decode cX18_draw 1 = .ok (.istore_n 3, 1) := by decide +kernel
theorem dX18_draw_2 : decode cX18_draw 2 = .ok (.iload_n 3, 1) := by decide +kernel
theorem dX18_draw_3 : decode cX18_draw 3 = .ok (.sipush 256, 3) := by decide +kernel
theorem dX18_draw_6 : decode cX18_draw 6 = .ok (.if_icmp .ge 45, 3) := by decide +kernel
theorem dX18_draw_9 : decode cX18_draw 9 = .ok (.aload_n 2, 1) := by decide +kernel
theorem dX18_draw_10 : decode cX18_draw 10 = .ok (.iload_n 3, 1) := by decide +kernel
theorem dX18_draw_11 : decode cX18_draw 11 = .ok (.aload_n 1, 1) := by decide +kernel
theorem dX18_draw_12 : decode cX18_draw 12 = .ok (.iload_n 3, 1) := by decide +kernel
theorem dX18_draw_13 : decode cX18_draw 13 = .ok (.bipush 16, 2) := by decide +kernel
theorem dX18_draw_15 : decode cX18_draw 15 = .ok (.irem, 1) := by decide +kernel
theorem dX18_draw_16 : decode cX18_draw 16 = .ok (.iload_n 3, 1) := by decide +kernel
theorem dX18_draw_17 : decode cX18_draw 17 = .ok (.bipush 16, 2) := by decide +kernel
theorem dX18_draw_19 : decode cX18_draw 19 = .ok (.idiv, 1) := by decide +kernel
theorem dX18_draw_20 : decode cX18_draw 20 = .ok (.invokestatic 190, 3) := by decide +kernel
theorem dX18_draw_23 : decode cX18_draw 23 = .ok (.ifCond .eq 10, 3) := by decide +kernel
theorem dX18_draw_26 : decode cX18_draw 26 = .ok (.aload_n 1, 1) := by decide +kernel
theorem dX18_draw_27 : decode cX18_draw 27 = .ok (.getfield 111, 3) := by decide +kernel
theorem dX18_draw_30 : decode cX18_draw 30 = .ok (.goto 7, 3) := by decide +kernel
theorem dX18_draw_33 : decode cX18_draw 33 = .ok (.aload_n 1, 1) := by decide +kernel
theorem dX18_draw_34 : decode cX18_draw 34 = .ok (.getfield 108, 3) := by decide +kernel
theorem dX18_draw_37 : decode cX18_draw 37 = .ok (.iastore, 1) := by decide +kernel
theorem dX18_draw_38 : decode cX18_draw 38 = .ok (.aload_n 0, 1) := by decide +kernel
theorem dX18_draw_39 : decode cX18_draw 39 = .ok (.getfield 36, 3) := by decide +kernel
theorem dX18_draw_42 : decode cX18_draw 42 = .ok (.iload_n 3, 1) := by decide +kernel
theorem dX18_draw_43 : decode cX18_draw 43 = .ok (.iconst 0, 1) := by decide +kernel
theorem dX18_draw_44 : decode cX18_draw 44 = .ok (.bastore, 1) := by decide +kernel
theorem dX18_draw_45 : decode cX18_draw 45 = .ok (.iinc 3 1, 3) := by decide +kernel
theorem dX18_draw_48 : decode cX18_draw 48 = .ok (.goto (-46), 3) := by decide +kernel
theorem dX18_draw_51 : decode cX18_draw 51 = .ok (.iconst 0, 1) := by decide +kernel
theorem dX18_draw_52 : decode cX18_draw 52 = .ok (.istore_n 3, 1) := by decide +kernel
theorem dX18_draw_53 : decode cX18_draw 53 = .ok (.iload_n 3, 1) := by decide +kernel
theorem dX18_draw_54 : decode cX18_draw 54 = .ok (.aload_n 1, 1) := by decide +kernel
theorem dX18_draw_55 : decode cX18_draw 55 = .ok (.getfield 172, 3) := by decide +kernel
theorem dX18_draw_58 : decode cX18_draw 58 = .ok (.if_icmp .ge 50, 3) := by decide +kernel
theorem dX18_draw_61 : decode cX18_draw 61 = .ok (.aload_n 1, 1) := by decide +kernel
theorem dX18_draw_62 : decode cX18_draw 62 = .ok (.getfield 218, 3) := by decide +kernel
theorem dX18_draw_65 : decode cX18_draw 65 = .ok (.iload_n 3, 1) := by decide +kernel
theorem dX18_draw_66 : decode cX18_draw 66 = .ok (.aaload, 1) := by decide +kernel
theorem dX18_draw_67 : decode cX18_draw 67 = .ok (.getfield 142, 3) := by decide +kernel
theorem dX18_draw_70 : decode cX18_draw 70 = .ok (.bipush 111, 2) := by decide +kernel
theorem dX18_draw_72 : decode cX18_draw 72 = .ok (.if_icmp .ne 18, 3) := by decide +kernel
theorem dX18_draw_75 : decode cX18_draw 75 = .ok (.aload_n 0, 1) := by decide +kernel
theorem dX18_draw_76 : decode cX18_draw 76 = .ok (.aload_n 1, 1) := by decide +kernel
theorem dX18_draw_77 : decode cX18_draw 77 = .ok (.aload_n 1, 1) := by decide +kernel
theorem dX18_draw_78 : decode cX18_draw 78 = .ok (.getfield 218, 3) := by decide +kernel
theorem dX18_draw_81 : decode cX18_draw 81 = .ok (.iload_n 3, 1) := by decide +kernel
theorem dX18_draw_82 : decode cX18_draw 82 = .ok (.aaload, 1) := by decide +kernel
theorem dX18_draw_83 : decode cX18_draw 83 = .ok (.aload_n 2, 1) := by decide +kernel
theorem dX18_draw_84 : decode cX18_draw 84 = .ok (.invokevirtual 222, 3) := by decide +kernel
theorem dX18_draw_87 : decode cX18_draw 87 = .ok (.goto 15, 3) := by decide +kernel
theorem dX18_draw_90 : decode cX18_draw 90 = .ok (.aload_n 0, 1) := by decide +kernel
theorem dX18_draw_91 : decode cX18_draw 91 = .ok (.aload_n 1, 1) := by decide +kernel
theorem dX18_draw_92 : decode cX18_draw 92 = .ok (.aload_n 1, 1) := by decide +kernel
theorem dX18_draw_93 : decode cX18_draw 93 = .ok (.getfield 218, 3) := by decide +kernel
theorem dX18_draw_96 : decode cX18_draw 96 = .ok (.iload_n 3, 1) := by decide +kernel
theorem dX18_draw_97 : decode cX18_draw 97 = .ok (.aaload, 1) := by decide +kernel
theorem dX18_draw_98 : decode cX18_draw 98 = .ok (.aload_n 2, 1) := by decide +kernel
theorem dX18_draw_99 : decode cX18_draw 99 = .ok (.invokevirtual 226, 3) := by decide +kernel
theorem dX18_draw_102 : decode cX18_draw 102 = .ok (.iinc 3 1, 3) := by decide +kernel
theorem dX18_draw_105 : decode cX18_draw 105 = .ok (.goto (-52), 3) := by decide +kernel
theorem dX18_draw_108 : decode cX18_draw 108 = .ok (.return_, 1) := by decide +kernel
set_option maxRecDepth 20000 in
theorem ggX18_isPoint_X18_in : GoodIn wsX18_isPoint wsX18_in := goodIn_r _ [4] (by decide +kernel) (by decide +kernel)
set_option maxRecDepth 20000 in
theorem gX18_isPoint_X18_in : GoodIn wsX18_isPoint (va_wsS RX18 77 yX18_in wsX18_in) := goodIn_app (goodIn_of _ (by decide +kernel)) ggX18_isPoint_X18_in
theorem dX18_isPoint_0 : decode cX18_isPoint 0 = .ok (.iload_n 0, 1) := by decide +kernel
theorem dX18_isPoint_1 : decode cX18_isPoint 1 = .ok (.iconst 0, 1) := by decide +kernel
theorem dX18_isPoint_2 : decode cX18_isPoint 2 = .ok (.bipush 15, 2) := by decide +kernel
theorem dX18_isPoint_4 : decode cX18_isPoint 4 = .ok (.invokestatic 77, 3) := by decide +kernel
theorem dX18_isPoint_7 : decode cX18_isPoint 7 = .ok (.ifCond .eq 17, 3) := by decide +kernel
theorem dX18_isPoint_10 : decode cX18_isPoint 10 = .ok (.iload_n 1, 1) := by decide +kernel
theorem dX18_isPoint_11 : decode cX18_isPoint 11 = .ok (.iconst 0, 1) := by decide +kernel
theorem dX18_isPoint_12 : decode cX18_isPoint 12 = .ok (.bipush 15, 2) := by decide +kernel
theorem dX18_isPoint_14 : decode cX18_isPoint 14 = .ok (.invokestatic 77, 3) := by decide +kernel
theorem dX18_isPoint_17 : decode cX18_isPoint 17 = .ok (.ifCond .eq 7, 3) := by decide +kernel
theorem dX18_isPoint_20 : decode cX18_isPoint 20 = .ok (.iconst 1, 1) := by decide +kernel
theorem dX18_isPoint_21 : decode cX18_isPoint 21 = .ok (.goto 4, 3) := by decide +kernel
theorem dX18_isPoint_24 : decode cX18_isPoint 24 = .ok (.iconst 0, 1) := by decide +kernel
theorem dX18_isPoint_25 : decode cX18_isPoint 25 = .ok (.ireturn, 1) := by decide +kernel
set_option maxRecDepth 20000 in
theorem ggX18_point_X18_isPoint : GoodIn wsX18_point wsX18_isPoint := goodIn_r _ [6, 7, 8, 5, 9] (by decide +kernel) (by decide +kernel)
set_option maxRecDepth 20000 in
theorem gX18_point_X18_isPoint : GoodIn wsX18_point (va_wsS RX18 229 yX18_isPoint wsX18_isPoint) := goodIn_app (goodIn_of _ (by decide +kernel)) ggX18_point_X18_isPoint
set_option maxRecDepth 20000 in
theorem ggX18_point_X18_fails : GoodIn wsX18_point wsX18_fails := goodIn_r _ [13, 14, 114, 115, 116, 117, 118, 119, 120, 121, 122, 123, 124, 125, 126, 127, 128, 129, 130, 131, 132, 133, 134, 135, 136, 137, 138, 139, 140, 141] (by decide +kernel) (by decide +kernel)
set_option maxRecDepth 20000 in
theorem gX18_point_X18_fails : GoodIn wsX18_point (wsV RX18 84 RX18 yX18_fails wsX18_fails) := goodIn_app (goodIn_of _ (by decide +kernel)) ggX18_point_X18_fails
set_option maxRecDepth 20000 in
theorem ggX18_point_X18_failsRow : GoodIn wsX18_point wsX18_failsRow := goodIn_ca (goodIn_r _ [18, 19, 20, 21, 22, 5, 23, 24, 25, 26, 1, 27, 28, 29, 30, 31, 32, 33, 34, 35, 36, 37, 38, 39, 40, 41, 42, 43, 44, 45, 7, 8, 9, 46, 47, 48, 49, 50, 51, 52, 53, 54, 55, 56, 57, 58, 59, 60, 61, 62, 63, 64, 65, 66, 67, 68, 69, 70, 71, 72, 10, 11, 12, 13, 14, 114, 115, 116, 117, 118, 119, 120, 121, 122, 123, 124, 125, 126, 127, 128, 129, 130, 131, 132, 133, 134, 135, 136, 137, 138, 139, 140, 141, 142, 143, 144, 145, 146, 147, 148, 149, 150, 151, 152, 153, 154, 155, 156, 157, 158, 159, 160, 161, 162] (by decide +kernel) (by decide +kernel)) (goodIn_sub (fun _ h => List.mem_cons_of_mem _ (List.mem_append_right _ h)) (by decide +kernel))
set_option maxRecDepth 20000 in
theorem gX18_point_X18_failsRow : GoodIn wsX18_point (wsV RX18 232 RX18 yX18_failsRow wsX18_failsRow) := goodIn_app (goodIn_of _ (by decide +kernel)) ggX18_point_X18_failsRow
set_option maxRecDepth 20000 in
theorem ggX18_point_X18_draw : GoodIn wsX18_point wsX18_draw := goodIn_ca (goodIn_r _ [76, 77, 78, 79, 5, 80, 81, 82, 83, 84, 85, 86, 87, 88, 89, 90, 91, 92, 93, 94, 7, 8, 9, 95, 96, 97, 98, 99, 100, 101, 102, 103, 104, 105, 106, 107, 108, 109, 110, 111, 112, 113, 142, 143, 144, 145, 146, 147, 114, 115, 116, 117, 118, 119, 120, 121, 122, 123, 124, 125, 126, 127, 128, 129, 130, 131, 132, 133, 134, 135, 136, 137, 138, 139, 140, 141, 148, 149, 150, 151, 152, 153, 154, 155, 156, 157, 158, 159, 160, 161, 162] (by decide +kernel) (by decide +kernel)) (goodIn_sub (fun _ h => List.mem_cons_of_mem _ (List.mem_append_right _ h)) (by decide +kernel))
set_option maxRecDepth 20000 in
theorem gX18_point_X18_draw : GoodIn wsX18_point (wsV RX18 235 RX18 yX18_draw wsX18_draw) := goodIn_app (goodIn_of _ (by decide +kernel)) ggX18_point_X18_draw
theorem dX18_point_0 : decode cX18_point 0 = .ok (.aload_n 0, 1) := by decide +kernel
theorem dX18_point_1 : decode cX18_point 1 = .ok (.iload_n 1, 1) := by decide +kernel
theorem dX18_point_2 : decode cX18_point 2 = .ok (.iload_n 2, 1) := by decide +kernel
theorem dX18_point_3 : decode cX18_point 3 = .ok (.invokestatic 229, 3) := by decide +kernel
theorem dX18_point_6 : decode cX18_point 6 = .ok (.ifCond .eq 7, 3) := by decide +kernel
theorem dX18_point_9 : decode cX18_point 9 = .ok (.iconst 0, 1) := by decide +kernel
theorem dX18_point_10 : decode cX18_point 10 = .ok (.goto 4, 3) := by decide +kernel
theorem dX18_point_13 : decode cX18_point 13 = .ok (.iconst 1, 1) := by decide +kernel
theorem dX18_point_14 : decode cX18_point 14 = .ok (.invokevirtual 84, 3) := by decide +kernel
theorem dX18_point_17 : decode cX18_point 17 = .ok (.ifCond .ne 11, 3) := by decide +kernel
theorem dX18_point_20 : decode cX18_point 20 = .ok (.aload_n 0, 1) := by decide +kernel
theorem dX18_point_21 : decode cX18_point 21 = .ok (.iconst 2, 1) := by decide +kernel
theorem dX18_point_22 : decode cX18_point 22 = .ok (.invokevirtual 232, 3) := by decide +kernel
theorem dX18_point_25 : decode cX18_point 25 = .ok (.ifCond .eq 5, 3) := by decide +kernel
theorem dX18_point_28 : decode cX18_point 28 = .ok (.iconst 0, 1) := by decide +kernel
theorem dX18_point_29 : decode cX18_point 29 = .ok (.ireturn, 1) := by decide +kernel
theorem dX18_point_30 : decode cX18_point 30 = .ok (.aload_n 0, 1) := by decide +kernel
theorem dX18_point_31 : decode cX18_point 31 = .ok (.aload_n 0, 1) := by decide +kernel
theorem dX18_point_32 : decode cX18_point 32 = .ok (.getfield 29, 3) := by decide +kernel
theorem dX18_point_35 : decode cX18_point 35 = .ok (.aload_n 0, 1) := by decide +kernel
theorem dX18_point_36 : decode cX18_point 36 = .ok (.getfield 40, 3) := by decide +kernel
theorem dX18_point_39 : decode cX18_point 39 = .ok (.invokevirtual 235, 3) := by decide +kernel
theorem dX18_point_42 : decode cX18_point 42 = .ok (.aload_n 0, 1) := by decide +kernel
theorem dX18_point_43 : decode cX18_point 43 = .ok (.getfield 40, 3) := by decide +kernel
theorem dX18_point_46 : decode cX18_point 46 = .ok (.bipush 16, 2) := by decide +kernel
theorem dX18_point_48 : decode cX18_point 48 = .ok (.iload_n 2, 1) := by decide +kernel
theorem dX18_point_49 : decode cX18_point 49 = .ok (.imul, 1) := by decide +kernel
theorem dX18_point_50 : decode cX18_point 50 = .ok (.iload_n 1, 1) := by decide +kernel
theorem dX18_point_51 : decode cX18_point 51 = .ok (.iadd, 1) := by decide +kernel
theorem dX18_point_52 : decode cX18_point 52 = .ok (.iaload, 1) := by decide +kernel
theorem dX18_point_53 : decode cX18_point 53 = .ok (.ireturn, 1) := by decide +kernel
theorem dX18_isIn_0 : decode cX18_isIn 0 = .ok (.iconst 2, 1) := by decide +kernel
theorem dX18_isIn_1 : decode cX18_isIn 1 = .ok (.iload_n 1, 1) := by decide +kernel
theorem dX18_isIn_2 : decode cX18_isIn 2 = .ok (.bipush 16, 2) := by decide +kernel
theorem dX18_isIn_4 : decode cX18_isIn 4 = .ok (.irem, 1) := by decide +kernel
theorem dX18_isIn_5 : decode cX18_isIn 5 = .ok (.imul, 1) := by decide +kernel
theorem dX18_isIn_6 : decode cX18_isIn 6 = .ok (.bipush 15, 2) := by decide +kernel
theorem dX18_isIn_8 : decode cX18_isIn 8 = .ok (.isub, 1) := by decide +kernel
theorem dX18_isIn_9 : decode cX18_isIn 9 = .ok (.invokestatic 181, 3) := by decide +kernel
theorem dX18_isIn_12 : decode cX18_isIn 12 = .ok (.istore_n 2, 1) := by decide +kernel
theorem dX18_isIn_13 : decode cX18_isIn 13 = .ok (.iconst 2, 1) := by decide +kernel
theorem dX18_isIn_14 : decode cX18_isIn 14 = .ok (.iload_n 1, 1) := by decide +kernel
theorem dX18_isIn_15 : decode cX18_isIn 15 = .ok (.bipush 16, 2) := by decide +kernel
theorem dX18_isIn_17 : decode cX18_isIn 17 = .ok (.idiv, 1) := by decide +kernel
theorem dX18_isIn_18 : decode cX18_isIn 18 = .ok (.imul, 1) := by decide +kernel
theorem dX18_isIn_19 : decode cX18_isIn 19 = .ok (.bipush 15, 2) := by decide +kernel
theorem dX18_isIn_21 : decode cX18_isIn 21 = .ok (.isub, 1) := by decide +kernel
theorem dX18_isIn_22 : decode cX18_isIn 22 = .ok (.istore_n 3, 1) := by decide +kernel
theorem dX18_isIn_23 : decode cX18_isIn 23 = .ok (.iload_n 3, 1) := by decide +kernel
theorem dX18_isIn_24 : decode cX18_isIn 24 = .ok (.invokestatic 181, 3) := by decide +kernel
theorem dX18_isIn_27 : decode cX18_isIn 27 = .ok (.istore 4, 2) := by decide +kernel
theorem dX18_isIn_29 : decode cX18_isIn 29 = .ok (.iload_n 0, 1) := by decide +kernel
theorem dX18_isIn_30 : decode cX18_isIn 30 = .ok (.ifCond .ne 33, 3) := by decide +kernel
theorem dX18_isIn_33 : decode cX18_isIn 33 = .ok (.iload_n 1, 1) := by decide +kernel
theorem dX18_isIn_34 : decode cX18_isIn 34 = .ok (.bipush 16, 2) := by decide +kernel
theorem dX18_isIn_36 : decode cX18_isIn 36 = .ok (.idiv, 1) := by decide +kernel
theorem dX18_isIn_37 : decode cX18_isIn 37 = .ok (.bipush 8, 2) := by decide +kernel
theorem dX18_isIn_39 : decode cX18_isIn 39 = .ok (.if_icmp .lt 16, 3) := by decide +kernel
theorem dX18_isIn_42 : decode cX18_isIn 42 = .ok (.iload_n 2, 1) := by decide +kernel
theorem dX18_isIn_43 : decode cX18_isIn 43 = .ok (.bipush 31, 2) := by decide +kernel
theorem dX18_isIn_45 : decode cX18_isIn 45 = .ok (.iconst 2, 1) := by decide +kernel
theorem dX18_isIn_46 : decode cX18_isIn 46 = .ok (.iload_n 1, 1) := by decide +kernel
theorem dX18_isIn_47 : decode cX18_isIn 47 = .ok (.bipush 16, 2) := by decide +kernel
theorem dX18_isIn_49 : decode cX18_isIn 49 = .ok (.idiv, 1) := by decide +kernel
theorem dX18_isIn_50 : decode cX18_isIn 50 = .ok (.imul, 1) := by decide +kernel
theorem dX18_isIn_51 : decode cX18_isIn 51 = .ok (.isub, 1) := by decide +kernel
theorem dX18_isIn_52 : decode cX18_isIn 52 = .ok (.if_icmp .gt 7, 3) := by decide +kernel
theorem dX18_isIn_55 : decode cX18_isIn 55 = .ok (.iconst 1, 1) := by decide +kernel
theorem dX18_isIn_56 : decode cX18_isIn 56 = .ok (.goto 54, 3) := by decide +kernel
theorem dX18_isIn_59 : decode cX18_isIn 59 = .ok (.iconst 0, 1) := by decide +kernel
theorem dX18_isIn_60 : decode cX18_isIn 60 = .ok (.goto 50, 3) := by decide +kernel
theorem dX18_isIn_63 : decode cX18_isIn 63 = .ok (.iload_n 0, 1) := by decide +kernel
theorem dX18_isIn_64 : decode cX18_isIn 64 = .ok (.iconst 1, 1) := by decide +kernel
theorem dX18_isIn_65 : decode cX18_isIn 65 = .ok (.if_icmp .ne 20, 3) := by decide +kernel
theorem dX18_isIn_68 : decode cX18_isIn 68 = .ok (.iload_n 2, 1) := by decide +kernel
theorem dX18_isIn_69 : decode cX18_isIn 69 = .ok (.iload 4, 2) := by decide +kernel
theorem dX18_isIn_71 : decode cX18_isIn 71 = .ok (.iadd, 1) := by decide +kernel
theorem dX18_isIn_72 : decode cX18_isIn 72 = .ok (.bipush 16, 2) := by decide +kernel
theorem dX18_isIn_74 : decode cX18_isIn 74 = .ok (.if_icmp .gt 7, 3) := by decide +kernel
theorem dX18_isIn_77 : decode cX18_isIn 77 = .ok (.iconst 1, 1) := by decide +kernel
theorem dX18_isIn_78 : decode cX18_isIn 78 = .ok (.goto 32, 3) := by decide +kernel
theorem dX18_isIn_81 : decode cX18_isIn 81 = .ok (.iconst 0, 1) := by decide +kernel
theorem dX18_isIn_82 : decode cX18_isIn 82 = .ok (.goto 28, 3) := by decide +kernel
theorem dX18_isIn_85 : decode cX18_isIn 85 = .ok (.iload_n 0, 1) := by decide +kernel
theorem dX18_isIn_86 : decode cX18_isIn 86 = .ok (.iconst 2, 1) := by decide +kernel
theorem dX18_isIn_87 : decode cX18_isIn 87 = .ok (.if_icmp .eq 18, 3) := by decide +kernel
theorem dX18_isIn_90 : decode cX18_isIn 90 = .ok (.iload_n 2, 1) := by decide +kernel
theorem dX18_isIn_91 : decode cX18_isIn 91 = .ok (.iload_n 2, 1) := by decide +kernel
theorem dX18_isIn_92 : decode cX18_isIn 92 = .ok (.imul, 1) := by decide +kernel
theorem dX18_isIn_93 : decode cX18_isIn 93 = .ok (.iload 4, 2) := by decide +kernel
theorem dX18_isIn_95 : decode cX18_isIn 95 = .ok (.iload 4, 2) := by decide +kernel
theorem dX18_isIn_97 : decode cX18_isIn 97 = .ok (.imul, 1) := by decide +kernel
theorem dX18_isIn_98 : decode cX18_isIn 98 = .ok (.iadd, 1) := by decide +kernel
theorem dX18_isIn_99 : decode cX18_isIn 99 = .ok (.sipush 240, 3) := by decide +kernel
theorem dX18_isIn_102 : decode cX18_isIn 102 = .ok (.if_icmp .gt 7, 3) := by decide +kernel
theorem dX18_isIn_105 : decode cX18_isIn 105 = .ok (.iconst 1, 1) := by decide +kernel
theorem dX18_isIn_106 : decode cX18_isIn 106 = .ok (.goto 4, 3) := by decide +kernel
theorem dX18_isIn_109 : decode cX18_isIn 109 = .ok (.iconst 0, 1) := by decide +kernel
theorem dX18_isIn_110 : decode cX18_isIn 110 = .ok (.ireturn, 1) := by decide +kernel
set_option maxRecDepth 20000 in
theorem ggX18_count_X18_isIn : GoodIn wsX18_count wsX18_isIn := goodIn_r _ [4, 5, 6, 7, 8] (by decide +kernel) (by decide +kernel)
set_option maxRecDepth 20000 in
theorem gX18_count_X18_isIn : GoodIn wsX18_count (va_wsS RX18 239 yX18_isIn wsX18_isIn) := goodIn_app (goodIn_of _ (by decide +kernel)) ggX18_count_X18_isIn
theorem dX18_count_0 : decode cX18_count 0 = .ok (.iconst 0, 1) := by decide +kernel
theorem dX18_count_1 : decode cX18_count 1 = .ok (.istore_n 3, 1) := by decide +kernel
theorem dX18_count_2 : decode cX18_count 2 = .ok (.iconst 0, 1) := by decide +kernel
theorem dX18_count_3 : decode cX18_count 3 = .ok (.istore 4, 2) := by decide +kernel
theorem dX18_count_5 : decode cX18_count 5 = .ok (.iload 4, 2) := by decide +kernel
theorem dX18_count_7 : decode cX18_count 7 = .ok (.sipush 256, 3) := by decide +kernel
theorem dX18_count_10 : decode cX18_count 10 = .ok (.if_icmp .ge 34, 3) := by decide +kernel
theorem dX18_count_13 : decode cX18_count 13 = .ok (.iload_n 3, 1) := by decide +kernel
theorem dX18_count_14 : decode cX18_count 14 = .ok (.iload_n 1, 1) := by decide +kernel
theorem dX18_count_15 : decode cX18_count 15 = .ok (.iload 4, 2) := by decide +kernel
theorem dX18_count_17 : decode cX18_count 17 = .ok (.invokestatic 239, 3) := by decide +kernel
theorem dX18_count_20 : decode cX18_count 20 = .ok (.ifCond .eq 15, 3) := by decide +kernel
theorem dX18_count_23 : decode cX18_count 23 = .ok (.aload_n 0, 1) := by decide +kernel
theorem dX18_count_24 : decode cX18_count 24 = .ok (.iload 4, 2) := by decide +kernel
theorem dX18_count_26 : decode cX18_count 26 = .ok (.iaload, 1) := by decide +kernel
theorem dX18_count_27 : decode cX18_count 27 = .ok (.iload_n 2, 1) := by decide +kernel
theorem dX18_count_28 : decode cX18_count 28 = .ok (.if_icmp .ne 7, 3) := by decide +kernel
theorem dX18_count_31 : decode cX18_count 31 = .ok (.iconst 1, 1) := by decide +kernel
theorem dX18_count_32 : decode cX18_count 32 = .ok (.goto 4, 3) := by decide +kernel
theorem dX18_count_35 : decode cX18_count 35 = .ok (.iconst 0, 1) := by decide +kernel
theorem dX18_count_36 : decode cX18_count 36 = .ok (.iadd, 1) := by decide +kernel
theorem dX18_count_37 : decode cX18_count 37 = .ok (.istore_n 3, 1) := by decide +kernel
theorem dX18_count_38 : decode cX18_count 38 = .ok (.iinc 4 1, 3) := by decide +kernel
theorem dX18_count_41 : decode cX18_count 41 = .ok (.goto (-36), 3) := by decide +kernel
theorem dX18_count_44 : decode cX18_count 44 = .ok (.iload_n 3, 1) := by decide +kernel
theorem dX18_count_45 : decode cX18_count 45 = .ok (.ireturn, 1) := by decide +kernel
set_option maxRecDepth 20000 in
theorem ggX18_isShape_X18_in : GoodIn wsX18_isShape wsX18_in := goodIn_r _ [4] (by decide +kernel) (by decide +kernel)
set_option maxRecDepth 20000 in
theorem gX18_isShape_X18_in : GoodIn wsX18_isShape (va_wsS RX18 77 yX18_in wsX18_in) := goodIn_app (goodIn_of _ (by decide +kernel)) ggX18_isShape_X18_in
theorem dX18_isShape_0 : decode cX18_isShape 0 = .ok (.iload_n 0, 1) := by decide +kernel
theorem dX18_isShape_1 : decode cX18_isShape 1 = .ok (.iconst 0, 1) := by decide +kernel
theorem dX18_isShape_2 : decode cX18_isShape 2 = .ok (.iconst 3, 1) := by decide +kernel
theorem dX18_isShape_3 : decode cX18_isShape 3 = .ok (.invokestatic 77, 3) := by decide +kernel
theorem dX18_isShape_6 : decode cX18_isShape 6 = .ok (.ifCond .eq 17, 3) := by decide +kernel
theorem dX18_isShape_9 : decode cX18_isShape 9 = .ok (.iload_n 1, 1) := by decide +kernel
theorem dX18_isShape_10 : decode cX18_isShape 10 = .ok (.iconst 1, 1) := by decide +kernel
theorem dX18_isShape_11 : decode cX18_isShape 11 = .ok (.bipush 8, 2) := by decide +kernel
theorem dX18_isShape_13 : decode cX18_isShape 13 = .ok (.invokestatic 77, 3) := by decide +kernel
theorem dX18_isShape_16 : decode cX18_isShape 16 = .ok (.ifCond .eq 7, 3) := by decide +kernel
theorem dX18_isShape_19 : decode cX18_isShape 19 = .ok (.iconst 1, 1) := by decide +kernel
theorem dX18_isShape_20 : decode cX18_isShape 20 = .ok (.goto 4, 3) := by decide +kernel
theorem dX18_isShape_23 : decode cX18_isShape 23 = .ok (.iconst 0, 1) := by decide +kernel
theorem dX18_isShape_24 : decode cX18_isShape 24 = .ok (.ireturn, 1) := by decide +kernel
set_option maxRecDepth 20000 in
theorem ggX18_points_X18_isShape : GoodIn wsX18_points wsX18_isShape := goodIn_r _ [6, 7, 8, 5, 9] (by decide +kernel) (by decide +kernel)
set_option maxRecDepth 20000 in
theorem gX18_points_X18_isShape : GoodIn wsX18_points (va_wsS RX18 242 yX18_isShape wsX18_isShape) := goodIn_app (goodIn_of _ (by decide +kernel)) ggX18_points_X18_isShape
set_option maxRecDepth 20000 in
theorem ggX18_points_X18_fails : GoodIn wsX18_points wsX18_fails := goodIn_r _ [13, 14, 120, 121, 122, 123, 124, 125, 126, 127, 128, 129, 130, 131, 132, 133, 134, 135, 136, 137, 138, 139, 140, 141, 142, 143, 144, 145, 146, 147] (by decide +kernel) (by decide +kernel)
set_option maxRecDepth 20000 in
theorem gX18_points_X18_fails : GoodIn wsX18_points (wsV RX18 84 RX18 yX18_fails wsX18_fails) := goodIn_app (goodIn_of _ (by decide +kernel)) ggX18_points_X18_fails
set_option maxRecDepth 20000 in
theorem ggX18_points_X18_failsRow : GoodIn wsX18_points wsX18_failsRow := goodIn_ca (goodIn_r _ [18, 19, 20, 21, 22, 5, 23, 24, 25, 26, 1, 27, 28, 29, 30, 31, 32, 33, 34, 35, 36, 37, 38, 39, 40, 41, 42, 43, 44, 45, 7, 8, 9, 46, 47, 48, 49, 50, 51, 52, 53, 54, 55, 56, 57, 58, 59, 60, 61, 62, 63, 64, 65, 66, 67, 68, 69, 70, 71, 72, 10, 11, 12, 13, 14, 120, 121, 122, 123, 124, 125, 126, 127, 128, 129, 130, 131, 132, 133, 134, 135, 136, 137, 138, 139, 140, 141, 142, 143, 144, 145, 146, 147, 148, 149, 150, 151, 152, 153, 154, 155, 156, 157, 158, 159, 160, 161, 162, 163, 164, 165, 166, 167, 168] (by decide +kernel) (by decide +kernel)) (goodIn_sub (fun _ h => List.mem_cons_of_mem _ (List.mem_append_right _ h)) (by decide +kernel))
set_option maxRecDepth 20000 in
theorem gX18_points_X18_failsRow : GoodIn wsX18_points (wsV RX18 232 RX18 yX18_failsRow wsX18_failsRow) := goodIn_app (goodIn_of _ (by decide +kernel)) ggX18_points_X18_failsRow
set_option maxRecDepth 20000 in
theorem ggX18_points_X18_draw : GoodIn wsX18_points wsX18_draw := goodIn_ca (goodIn_r _ [76, 77, 78, 79, 5, 80, 81, 82, 83, 84, 85, 86, 87, 88, 89, 90, 91, 92, 93, 94, 7, 8, 9, 95, 96, 97, 98, 99, 100, 101, 102, 103, 104, 105, 106, 107, 108, 109, 110, 111, 112, 113, 148, 149, 150, 151, 152, 153, 120, 121, 122, 123, 124, 125, 126, 127, 128, 129, 130, 131, 132, 133, 134, 135, 136, 137, 138, 139, 140, 141, 142, 143, 144, 145, 146, 147, 154, 155, 156, 157, 158, 159, 160, 161, 162, 163, 164, 165, 166, 167, 168] (by decide +kernel) (by decide +kernel)) (goodIn_sub (fun _ h => List.mem_cons_of_mem _ (List.mem_append_right _ h)) (by decide +kernel))
set_option maxRecDepth 20000 in
theorem gX18_points_X18_draw : GoodIn wsX18_points (wsV RX18 235 RX18 yX18_draw wsX18_draw) := goodIn_app (goodIn_of _ (by decide +kernel)) ggX18_points_X18_draw
set_option maxRecDepth 20000 in
theorem ggX18_points_X18_count : GoodIn wsX18_points wsX18_count := goodIn_ca (goodIn_r _ [116, 117, 118, 5, 119, 81, 82, 83, 84] (by decide +kernel) (by decide +kernel)) (goodIn_sub (fun _ h => List.mem_cons_of_mem _ (List.mem_append_right _ h)) (by decide +kernel))
set_option maxRecDepth 20000 in
theorem gX18_points_X18_count : GoodIn wsX18_points (va_wsS RX18 245 yX18_count wsX18_count) := goodIn_app (goodIn_of _ (by decide +kernel)) ggX18_points_X18_count
theorem dX18_points_0 : decode cX18_points 0 = .ok (.aload_n 0, 1) := by decide +kernel
theorem dX18_points_1 : decode cX18_points 1 = .ok (.iload_n 1, 1) := by decide +kernel
theorem dX18_points_2 : decode cX18_points 2 = .ok (.iload_n 2, 1) := by decide +kernel
theorem dX18_points_3 : decode cX18_points 3 = .ok (.invokestatic 242, 3) := by decide +kernel
theorem dX18_points_6 : decode cX18_points 6 = .ok (.ifCond .eq 7, 3) := by decide +kernel
theorem dX18_points_9 : decode cX18_points 9 = .ok (.iconst 0, 1) := by decide +kernel
theorem dX18_points_10 : decode cX18_points 10 = .ok (.goto 4, 3) := by decide +kernel
theorem dX18_points_13 : decode cX18_points 13 = .ok (.iconst 1, 1) := by decide +kernel
theorem dX18_points_14 : decode cX18_points 14 = .ok (.invokevirtual 84, 3) := by decide +kernel
theorem dX18_points_17 : decode cX18_points 17 = .ok (.ifCond .ne 11, 3) := by decide +kernel
theorem dX18_points_20 : decode cX18_points 20 = .ok (.aload_n 0, 1) := by decide +kernel
theorem dX18_points_21 : decode cX18_points 21 = .ok (.iconst 2, 1) := by decide +kernel
theorem dX18_points_22 : decode cX18_points 22 = .ok (.invokevirtual 232, 3) := by decide +kernel
theorem dX18_points_25 : decode cX18_points 25 = .ok (.ifCond .eq 5, 3) := by decide +kernel
theorem dX18_points_28 : decode cX18_points 28 = .ok (.iconst 0, 1) := by decide +kernel
theorem dX18_points_29 : decode cX18_points 29 = .ok (.ireturn, 1) := by decide +kernel
theorem dX18_points_30 : decode cX18_points 30 = .ok (.aload_n 0, 1) := by decide +kernel
theorem dX18_points_31 : decode cX18_points 31 = .ok (.aload_n 0, 1) := by decide +kernel
theorem dX18_points_32 : decode cX18_points 32 = .ok (.getfield 29, 3) := by decide +kernel
theorem dX18_points_35 : decode cX18_points 35 = .ok (.aload_n 0, 1) := by decide +kernel
theorem dX18_points_36 : decode cX18_points 36 = .ok (.getfield 40, 3) := by decide +kernel
theorem dX18_points_39 : decode cX18_points 39 = .ok (.invokevirtual 235, 3) := by decide +kernel
theorem dX18_points_42 : decode cX18_points 42 = .ok (.aload_n 0, 1) := by decide +kernel
theorem dX18_points_43 : decode cX18_points 43 = .ok (.getfield 40, 3) := by decide +kernel
theorem dX18_points_46 : decode cX18_points 46 = .ok (.iload_n 1, 1) := by decide +kernel
theorem dX18_points_47 : decode cX18_points 47 = .ok (.iload_n 2, 1) := by decide +kernel
theorem dX18_points_48 : decode cX18_points 48 = .ok (.invokestatic 245, 3) := by decide +kernel
theorem dX18_points_51 : decode cX18_points 51 = .ok (.ireturn, 1) := by decide +kernel
set_option maxRecDepth 20000 in
theorem ggX18_clash_X18_in : GoodIn wsX18_clash wsX18_in := goodIn_r _ [4] (by decide +kernel) (by decide +kernel)
set_option maxRecDepth 20000 in
theorem gX18_clash_X18_in : GoodIn wsX18_clash (va_wsS RX18 77 yX18_in wsX18_in) := goodIn_app (goodIn_of _ (by decide +kernel)) ggX18_clash_X18_in
theorem dX18_clash_0 : decode cX18_clash 0 = .ok (.iload_n 0, 1) := by decide +kernel
theorem dX18_clash_1 : decode cX18_clash 1 = .ok (.iconst 1, 1) := by decide +kernel
theorem dX18_clash_2 : decode cX18_clash 2 = .ok (.iconst 2, 1) := by decide +kernel
theorem dX18_clash_3 : decode cX18_clash 3 = .ok (.invokestatic 77, 3) := by decide +kernel
theorem dX18_clash_6 : decode cX18_clash 6 = .ok (.ifCond .eq 12, 3) := by decide +kernel
theorem dX18_clash_9 : decode cX18_clash 9 = .ok (.iload_n 1, 1) := by decide +kernel
theorem dX18_clash_10 : decode cX18_clash 10 = .ok (.iconst 1, 1) := by decide +kernel
theorem dX18_clash_11 : decode cX18_clash 11 = .ok (.iconst 2, 1) := by decide +kernel
theorem dX18_clash_12 : decode cX18_clash 12 = .ok (.invokestatic 77, 3) := by decide +kernel
theorem dX18_clash_15 : decode cX18_clash 15 = .ok (.ifCond .ne 23, 3) := by decide +kernel
theorem dX18_clash_18 : decode cX18_clash 18 = .ok (.iload_n 0, 1) := by decide +kernel
theorem dX18_clash_19 : decode cX18_clash 19 = .ok (.iconst 3, 1) := by decide +kernel
theorem dX18_clash_20 : decode cX18_clash 20 = .ok (.bipush 7, 2) := by decide +kernel
theorem dX18_clash_22 : decode cX18_clash 22 = .ok (.invokestatic 77, 3) := by decide +kernel
theorem dX18_clash_25 : decode cX18_clash 25 = .ok (.ifCond .eq 17, 3) := by decide +kernel
theorem dX18_clash_28 : decode cX18_clash 28 = .ok (.iload_n 1, 1) := by decide +kernel
theorem dX18_clash_29 : decode cX18_clash 29 = .ok (.iconst 3, 1) := by decide +kernel
theorem dX18_clash_30 : decode cX18_clash 30 = .ok (.bipush 7, 2) := by decide +kernel
theorem dX18_clash_32 : decode cX18_clash 32 = .ok (.invokestatic 77, 3) := by decide +kernel
theorem dX18_clash_35 : decode cX18_clash 35 = .ok (.ifCond .eq 7, 3) := by decide +kernel
theorem dX18_clash_38 : decode cX18_clash 38 = .ok (.iconst 1, 1) := by decide +kernel
theorem dX18_clash_39 : decode cX18_clash 39 = .ok (.goto 4, 3) := by decide +kernel
theorem dX18_clash_42 : decode cX18_clash 42 = .ok (.iconst 0, 1) := by decide +kernel
theorem dX18_clash_43 : decode cX18_clash 43 = .ok (.ireturn, 1) := by decide +kernel
set_option maxRecDepth 20000 in
theorem ggX18_breaks_X18_failsRow : GoodIn wsX18_breaks wsX18_failsRow := goodIn_ca (goodIn_r _ [6, 7, 8, 9, 10, 5, 11, 12, 13, 14, 1, 15, 16, 17, 18, 19, 20, 21, 22, 23, 24, 25, 26, 27, 28, 29, 30, 31, 32, 33, 34, 35, 36, 37, 38, 39, 40, 41, 42, 43, 44, 45, 46, 47, 48, 49, 50, 51, 52, 53, 54, 55, 56, 57, 58, 59, 60, 61, 62, 63, 64, 65, 66, 67, 68, 72, 73, 74, 75, 76, 77, 78, 79, 80, 81, 82, 83, 84, 85, 86, 87, 88, 89, 90, 91, 92, 93, 94, 95, 96, 97, 98, 99, 100, 101, 102, 103, 104, 105, 106, 107, 108, 109, 110, 111, 112, 113, 114, 115, 116, 117, 118, 119, 120] (by decide +kernel) (by decide +kernel)) (goodIn_sub (fun _ h => List.mem_cons_of_mem _ (List.mem_append_right _ h)) (by decide +kernel))
set_option maxRecDepth 20000 in
theorem gX18_breaks_X18_failsRow : GoodIn wsX18_breaks (wsV RX18 232 RX18 yX18_failsRow wsX18_failsRow) := goodIn_app (goodIn_of _ (by decide +kernel)) ggX18_breaks_X18_failsRow
set_option maxRecDepth 20000 in
theorem ggX18_breaks_X18_clash : GoodIn wsX18_breaks wsX18_clash := goodIn_r _ [71, 34, 35, 5, 36] (by decide +kernel) (by decide +kernel)
set_option maxRecDepth 20000 in
theorem gX18_breaks_X18_clash : GoodIn wsX18_breaks (va_wsS RX18 249 yX18_clash wsX18_clash) := goodIn_app (goodIn_of _ (by decide +kernel)) ggX18_breaks_X18_clash
theorem dX18_breaks_0 : decode cX18_breaks 0 = .ok (.aload_n 0, 1) := by decide +kernel
theorem dX18_breaks_1 : decode cX18_breaks 1 = .ok (.iconst 1, 1) := by decide +kernel
theorem dX18_breaks_2 : decode cX18_breaks 2 = .ok (.invokevirtual 232, 3) := by decide +kernel
theorem dX18_breaks_5 : decode cX18_breaks 5 = .ok (.ifCond .eq 5, 3) := by decide +kernel
theorem dX18_breaks_8 : decode cX18_breaks 8 = .ok (.iconst 0, 1) := by decide +kernel
theorem dX18_breaks_9 : decode cX18_breaks 9 = .ok (.ireturn, 1) := by decide +kernel
theorem dX18_breaks_10 : decode cX18_breaks 10 = .ok (.iconst 0, 1) := by decide +kernel
theorem dX18_breaks_11 : decode cX18_breaks 11 = .ok (.istore_n 1, 1) := by decide +kernel
theorem dX18_breaks_12 : decode cX18_breaks 12 = .ok (.iconst 0, 1) := by decide +kernel
theorem dX18_breaks_13 : decode cX18_breaks 13 = .ok (.istore_n 2, 1) := by decide +kernel
theorem dX18_breaks_14 : decode cX18_breaks 14 = .ok (.iload_n 2, 1) := by decide +kernel
theorem dX18_breaks_15 : decode cX18_breaks 15 = .ok (.aload_n 0, 1) := by decide +kernel
theorem dX18_breaks_16 : decode cX18_breaks 16 = .ok (.getfield 29, 3) := by decide +kernel
theorem dX18_breaks_19 : decode cX18_breaks 19 = .ok (.getfield 172, 3) := by decide +kernel
theorem dX18_breaks_22 : decode cX18_breaks 22 = .ok (.if_icmp .ge 122, 3) := by decide +kernel
theorem dX18_breaks_25 : decode cX18_breaks 25 = .ok (.aload_n 0, 1) := by decide +kernel
theorem dX18_breaks_26 : decode cX18_breaks 26 = .ok (.getfield 29, 3) := by decide +kernel
theorem dX18_breaks_29 : decode cX18_breaks 29 = .ok (.getfield 218, 3) := by decide +kernel
theorem dX18_breaks_32 : decode cX18_breaks 32 = .ok (.iload_n 2, 1) := by decide +kernel
theorem dX18_breaks_33 : decode cX18_breaks 33 = .ok (.aaload, 1) := by decide +kernel
theorem dX18_breaks_34 : decode cX18_breaks 34 = .ok (.astore_n 3, 1) := by decide +kernel
theorem dX18_breaks_35 : decode cX18_breaks 35 = .ok (.aload_n 3, 1) := by decide +kernel
theorem dX18_breaks_36 : decode cX18_breaks 36 = .ok (.getfield 142, 3) := by decide +kernel
theorem dX18_breaks_39 : decode cX18_breaks 39 = .ok (.bipush 111, 2) := by decide +kernel
theorem dX18_breaks_41 : decode cX18_breaks 41 = .ok (.if_icmp .ne 12, 3) := by decide +kernel
theorem dX18_breaks_44 : decode cX18_breaks 44 = .ok (.aload_n 3, 1) := by decide +kernel
theorem dX18_breaks_45 : decode cX18_breaks 45 = .ok (.getfield 146, 3) := by decide +kernel
theorem dX18_breaks_48 : decode cX18_breaks 48 = .ok (.bipush 28, 2) := by decide +kernel
theorem dX18_breaks_50 : decode cX18_breaks 50 = .ok (.if_icmp .eq 13, 3) := by decide +kernel
theorem dX18_breaks_53 : decode cX18_breaks 53 = .ok (.aload_n 0, 1) := by decide +kernel
theorem dX18_breaks_54 : decode cX18_breaks 54 = .ok (.getfield 29, 3) := by decide +kernel
theorem dX18_breaks_57 : decode cX18_breaks 57 = .ok (.getfield 102, 3) := by decide +kernel
theorem dX18_breaks_60 : decode cX18_breaks 60 = .ok (.ifCond .le 7, 3) := by decide +kernel
theorem dX18_breaks_63 : decode cX18_breaks 63 = .ok (.iconst 1, 1) := by decide +kernel
theorem dX18_breaks_64 : decode cX18_breaks 64 = .ok (.goto 4, 3) := by decide +kernel
theorem dX18_breaks_67 : decode cX18_breaks 67 = .ok (.iconst 0, 1) := by decide +kernel
theorem dX18_breaks_68 : decode cX18_breaks 68 = .ok (.istore 4, 2) := by decide +kernel
theorem dX18_breaks_70 : decode cX18_breaks 70 = .ok (.iload_n 1, 1) := by decide +kernel
theorem dX18_breaks_71 : decode cX18_breaks 71 = .ok (.iload 4, 2) := by decide +kernel
theorem dX18_breaks_73 : decode cX18_breaks 73 = .ok (.ifCond .ne 24, 3) := by decide +kernel
theorem dX18_breaks_76 : decode cX18_breaks 76 = .ok (.aload_n 3, 1) := by decide +kernel
theorem dX18_breaks_77 : decode cX18_breaks 77 = .ok (.getfield 153, 3) := by decide +kernel
theorem dX18_breaks_80 : decode cX18_breaks 80 = .ok (.aload_n 0, 1) := by decide +kernel
theorem dX18_breaks_81 : decode cX18_breaks 81 = .ok (.getfield 29, 3) := by decide +kernel
theorem dX18_breaks_84 : decode cX18_breaks 84 = .ok (.getfield 108, 3) := by decide +kernel
theorem dX18_breaks_87 : decode cX18_breaks 87 = .ok (.invokestatic 249, 3) := by decide +kernel
theorem dX18_breaks_90 : decode cX18_breaks 90 = .ok (.ifCond .eq 7, 3) := by decide +kernel
theorem dX18_breaks_93 : decode cX18_breaks 93 = .ok (.iconst 1, 1) := by decide +kernel
theorem dX18_breaks_94 : decode cX18_breaks 94 = .ok (.goto 4, 3) := by decide +kernel
theorem dX18_breaks_97 : decode cX18_breaks 97 = .ok (.iconst 0, 1) := by decide +kernel
theorem dX18_breaks_98 : decode cX18_breaks 98 = .ok (.iadd, 1) := by decide +kernel
theorem dX18_breaks_99 : decode cX18_breaks 99 = .ok (.istore_n 1, 1) := by decide +kernel
theorem dX18_breaks_100 : decode cX18_breaks 100 = .ok (.iload_n 1, 1) := by decide +kernel
theorem dX18_breaks_101 : decode cX18_breaks 101 = .ok (.aload_n 3, 1) := by decide +kernel
theorem dX18_breaks_102 : decode cX18_breaks 102 = .ok (.getfield 142, 3) := by decide +kernel
theorem dX18_breaks_105 : decode cX18_breaks 105 = .ok (.bipush 111, 2) := by decide +kernel
theorem dX18_breaks_107 : decode cX18_breaks 107 = .ok (.if_icmp .ne 28, 3) := by decide +kernel
theorem dX18_breaks_110 : decode cX18_breaks 110 = .ok (.aload_n 3, 1) := by decide +kernel
theorem dX18_breaks_111 : decode cX18_breaks 111 = .ok (.getfield 135, 3) := by decide +kernel
theorem dX18_breaks_114 : decode cX18_breaks 114 = .ok (.ifCond .eq 21, 3) := by decide +kernel
theorem dX18_breaks_117 : decode cX18_breaks 117 = .ok (.aload_n 3, 1) := by decide +kernel
theorem dX18_breaks_118 : decode cX18_breaks 118 = .ok (.getfield 164, 3) := by decide +kernel
theorem dX18_breaks_121 : decode cX18_breaks 121 = .ok (.aload_n 3, 1) := by decide +kernel
theorem dX18_breaks_122 : decode cX18_breaks 122 = .ok (.getfield 153, 3) := by decide +kernel
theorem dX18_breaks_125 : decode cX18_breaks 125 = .ok (.invokestatic 249, 3) := by decide +kernel
theorem dX18_breaks_128 : decode cX18_breaks 128 = .ok (.ifCond .eq 7, 3) := by decide +kernel
theorem dX18_breaks_131 : decode cX18_breaks 131 = .ok (.iconst 1, 1) := by decide +kernel
theorem dX18_breaks_132 : decode cX18_breaks 132 = .ok (.goto 4, 3) := by decide +kernel
theorem dX18_breaks_135 : decode cX18_breaks 135 = .ok (.iconst 0, 1) := by decide +kernel
theorem dX18_breaks_136 : decode cX18_breaks 136 = .ok (.iadd, 1) := by decide +kernel
theorem dX18_breaks_137 : decode cX18_breaks 137 = .ok (.istore_n 1, 1) := by decide +kernel
theorem dX18_breaks_138 : decode cX18_breaks 138 = .ok (.iinc 2 1, 3) := by decide +kernel
theorem dX18_breaks_141 : decode cX18_breaks 141 = .ok (.goto (-127), 3) := by decide +kernel
theorem dX18_breaks_144 : decode cX18_breaks 144 = .ok (.iload_n 1, 1) := by decide +kernel
theorem dX18_breaks_145 : decode cX18_breaks 145 = .ok (.ireturn, 1) := by decide +kernel
set_option maxRecDepth 20000 in
theorem ggX18_drawn_X18_failsRow : GoodIn wsX18_drawn wsX18_failsRow := goodIn_ca (goodIn_r _ [7, 8, 9, 10, 11, 6, 12, 13, 14, 15, 1, 16, 17, 18, 19, 20, 21, 22, 23, 24, 25, 26, 27, 28, 29, 30, 31, 32, 33, 34, 35, 36, 37, 38, 39, 40, 41, 42, 43, 44, 45, 46, 47, 48, 49, 50, 51, 52, 53, 54, 55, 56, 57, 58, 59, 60, 61, 62, 63, 64, 65, 66, 67, 68, 69, 111, 112, 113, 114, 115, 116, 117, 118, 119, 120, 121, 122, 123, 124, 125, 126, 127, 128, 129, 130, 131, 132, 133, 134, 135, 136, 137, 138, 139, 140, 141, 142, 143, 144, 145, 146, 147, 148, 149, 150, 151, 152, 153, 154, 155, 156, 157, 158, 159] (by decide +kernel) (by decide +kernel)) (goodIn_sub (fun _ h => List.mem_cons_of_mem _ (List.mem_append_right _ h)) (by decide +kernel))
set_option maxRecDepth 20000 in
theorem gX18_drawn_X18_failsRow : GoodIn wsX18_drawn (wsV RX18 232 RX18 yX18_failsRow wsX18_failsRow) := goodIn_app (goodIn_of _ (by decide +kernel)) ggX18_drawn_X18_failsRow
set_option maxRecDepth 20000 in
theorem ggX18_drawn_X18_in : GoodIn wsX18_drawn wsX18_in := goodIn_r _ [37] (by decide +kernel) (by decide +kernel)
set_option maxRecDepth 20000 in
theorem gX18_drawn_X18_in : GoodIn wsX18_drawn (va_wsS RX18 77 yX18_in wsX18_in) := goodIn_app (goodIn_of _ (by decide +kernel)) ggX18_drawn_X18_in
set_option maxRecDepth 20000 in
theorem ggX18_drawn_X18_fails : GoodIn wsX18_drawn wsX18_fails := goodIn_r _ [68, 69, 111, 112, 113, 114, 115, 116, 117, 118, 119, 120, 121, 122, 123, 124, 125, 126, 127, 128, 129, 130, 131, 132, 133, 134, 135, 136, 137, 138] (by decide +kernel) (by decide +kernel)
set_option maxRecDepth 20000 in
theorem gX18_drawn_X18_fails : GoodIn wsX18_drawn (wsV RX18 84 RX18 yX18_fails wsX18_fails) := goodIn_app (goodIn_of _ (by decide +kernel)) ggX18_drawn_X18_fails
set_option maxRecDepth 20000 in
theorem ggX18_drawn_X18_draw : GoodIn wsX18_drawn wsX18_draw := goodIn_ca (goodIn_r _ [73, 74, 75, 76, 6, 77, 78, 79, 80, 81, 82, 83, 84, 85, 86, 87, 88, 89, 90, 91, 35, 36, 37, 92, 93, 94, 95, 96, 97, 98, 99, 100, 101, 102, 103, 104, 105, 106, 107, 108, 109, 110, 139, 140, 141, 142, 143, 144, 111, 112, 113, 114, 115, 116, 117, 118, 119, 120, 121, 122, 123, 124, 125, 126, 127, 128, 129, 130, 131, 132, 133, 134, 135, 136, 137, 138, 145, 146, 147, 148, 149, 150, 151, 152, 153, 154, 155, 156, 157, 158, 159] (by decide +kernel) (by decide +kernel)) (goodIn_sub (fun _ h => List.mem_cons_of_mem _ (List.mem_append_right _ h)) (by decide +kernel))
set_option maxRecDepth 20000 in
theorem gX18_drawn_X18_draw : GoodIn wsX18_drawn (wsV RX18 235 RX18 yX18_draw wsX18_draw) := goodIn_app (goodIn_of _ (by decide +kernel)) ggX18_drawn_X18_draw
theorem dX18_drawn_0 : decode cX18_drawn 0 = .ok (.aload_n 0, 1) := by decide +kernel
theorem dX18_drawn_1 : decode cX18_drawn 1 = .ok (.iconst 1, 1) := by decide +kernel
theorem dX18_drawn_2 : decode cX18_drawn 2 = .ok (.invokevirtual 232, 3) := by decide +kernel
theorem dX18_drawn_5 : decode cX18_drawn 5 = .ok (.ifCond .eq 5, 3) := by decide +kernel
theorem dX18_drawn_8 : decode cX18_drawn 8 = .ok (.iconst 0, 1) := by decide +kernel
theorem dX18_drawn_9 : decode cX18_drawn 9 = .ok (.ireturn, 1) := by decide +kernel
theorem dX18_drawn_10 : decode cX18_drawn 10 = .ok (.iload_n 1, 1) := by decide +kernel
theorem dX18_drawn_11 : decode cX18_drawn 11 = .ok (.iconst 0, 1) := by decide +kernel
theorem dX18_drawn_12 : decode cX18_drawn 12 = .ok (.aload_n 0, 1) := by decide +kernel
theorem dX18_drawn_13 : decode cX18_drawn 13 = .ok (.getfield 29, 3) := by decide +kernel
theorem dX18_drawn_16 : decode cX18_drawn 16 = .ok (.getfield 172, 3) := by decide +kernel
theorem dX18_drawn_19 : decode cX18_drawn 19 = .ok (.iconst 1, 1) := by decide +kernel
theorem dX18_drawn_20 : decode cX18_drawn 20 = .ok (.isub, 1) := by decide +kernel
theorem dX18_drawn_21 : decode cX18_drawn 21 = .ok (.invokestatic 77, 3) := by decide +kernel
theorem dX18_drawn_24 : decode cX18_drawn 24 = .ok (.ifCond .eq 63, 3) := by decide +kernel
theorem dX18_drawn_27 : decode cX18_drawn 27 = .ok (.iload_n 2, 1) := by decide +kernel
theorem dX18_drawn_28 : decode cX18_drawn 28 = .ok (.ifCond .eq 38, 3) := by decide +kernel
theorem dX18_drawn_31 : decode cX18_drawn 31 = .ok (.aload_n 0, 1) := by decide +kernel
theorem dX18_drawn_32 : decode cX18_drawn 32 = .ok (.getfield 29, 3) := by decide +kernel
theorem dX18_drawn_35 : decode cX18_drawn 35 = .ok (.getfield 218, 3) := by decide +kernel
theorem dX18_drawn_38 : decode cX18_drawn 38 = .ok (.iload_n 1, 1) := by decide +kernel
theorem dX18_drawn_39 : decode cX18_drawn 39 = .ok (.aaload, 1) := by decide +kernel
theorem dX18_drawn_40 : decode cX18_drawn 40 = .ok (.getfield 142, 3) := by decide +kernel
theorem dX18_drawn_43 : decode cX18_drawn 43 = .ok (.bipush 111, 2) := by decide +kernel
theorem dX18_drawn_45 : decode cX18_drawn 45 = .ok (.if_icmp .ne 42, 3) := by decide +kernel
theorem dX18_drawn_48 : decode cX18_drawn 48 = .ok (.aload_n 0, 1) := by decide +kernel
theorem dX18_drawn_49 : decode cX18_drawn 49 = .ok (.getfield 29, 3) := by decide +kernel
theorem dX18_drawn_52 : decode cX18_drawn 52 = .ok (.getfield 218, 3) := by decide +kernel
theorem dX18_drawn_55 : decode cX18_drawn 55 = .ok (.iload_n 1, 1) := by decide +kernel
theorem dX18_drawn_56 : decode cX18_drawn 56 = .ok (.aaload, 1) := by decide +kernel
theorem dX18_drawn_57 : decode cX18_drawn 57 = .ok (.getfield 135, 3) := by decide +kernel
theorem dX18_drawn_60 : decode cX18_drawn 60 = .ok (.ifCond .eq 27, 3) := by decide +kernel
theorem dX18_drawn_63 : decode cX18_drawn 63 = .ok (.goto 20, 3) := by decide +kernel
theorem dX18_drawn_66 : decode cX18_drawn 66 = .ok (.aload_n 0, 1) := by decide +kernel
theorem dX18_drawn_67 : decode cX18_drawn 67 = .ok (.getfield 29, 3) := by decide +kernel
theorem dX18_drawn_70 : decode cX18_drawn 70 = .ok (.getfield 218, 3) := by decide +kernel
theorem dX18_drawn_73 : decode cX18_drawn 73 = .ok (.iload_n 1, 1) := by decide +kernel
theorem dX18_drawn_74 : decode cX18_drawn 74 = .ok (.aaload, 1) := by decide +kernel
theorem dX18_drawn_75 : decode cX18_drawn 75 = .ok (.getfield 142, 3) := by decide +kernel
theorem dX18_drawn_78 : decode cX18_drawn 78 = .ok (.bipush 111, 2) := by decide +kernel
theorem dX18_drawn_80 : decode cX18_drawn 80 = .ok (.if_icmp .eq 7, 3) := by decide +kernel
theorem dX18_drawn_83 : decode cX18_drawn 83 = .ok (.iconst 1, 1) := by decide +kernel
theorem dX18_drawn_84 : decode cX18_drawn 84 = .ok (.goto 4, 3) := by decide +kernel
theorem dX18_drawn_87 : decode cX18_drawn 87 = .ok (.iconst 0, 1) := by decide +kernel
theorem dX18_drawn_88 : decode cX18_drawn 88 = .ok (.istore_n 3, 1) := by decide +kernel
theorem dX18_drawn_89 : decode cX18_drawn 89 = .ok (.aload_n 0, 1) := by decide +kernel
theorem dX18_drawn_90 : decode cX18_drawn 90 = .ok (.iload_n 3, 1) := by decide +kernel
theorem dX18_drawn_91 : decode cX18_drawn 91 = .ok (.ifCond .eq 7, 3) := by decide +kernel
theorem dX18_drawn_94 : decode cX18_drawn 94 = .ok (.iconst 0, 1) := by decide +kernel
theorem dX18_drawn_95 : decode cX18_drawn 95 = .ok (.goto 4, 3) := by decide +kernel
theorem dX18_drawn_98 : decode cX18_drawn 98 = .ok (.iconst 2, 1) := by decide +kernel
theorem dX18_drawn_99 : decode cX18_drawn 99 = .ok (.invokevirtual 84, 3) := by decide +kernel
theorem dX18_drawn_102 : decode cX18_drawn 102 = .ok (.ifCond .eq 5, 3) := by decide +kernel
theorem dX18_drawn_105 : decode cX18_drawn 105 = .ok (.iconst 0, 1) := by decide +kernel
theorem dX18_drawn_106 : decode cX18_drawn 106 = .ok (.ireturn, 1) := by decide +kernel
theorem dX18_drawn_107 : decode cX18_drawn 107 = .ok (.aload_n 0, 1) := by decide +kernel
theorem dX18_drawn_108 : decode cX18_drawn 108 = .ok (.aload_n 0, 1) := by decide +kernel
theorem dX18_drawn_109 : decode cX18_drawn 109 = .ok (.getfield 29, 3) := by decide +kernel
theorem dX18_drawn_112 : decode cX18_drawn 112 = .ok (.aload_n 0, 1) := by decide +kernel
theorem dX18_drawn_113 : decode cX18_drawn 113 = .ok (.getfield 40, 3) := by decide +kernel
theorem dX18_drawn_116 : decode cX18_drawn 116 = .ok (.invokevirtual 235, 3) := by decide +kernel
theorem dX18_drawn_119 : decode cX18_drawn 119 = .ok (.iload_n 2, 1) := by decide +kernel
theorem dX18_drawn_120 : decode cX18_drawn 120 = .ok (.ifCond .eq 18, 3) := by decide +kernel
theorem dX18_drawn_123 : decode cX18_drawn 123 = .ok (.aload_n 0, 1) := by decide +kernel
theorem dX18_drawn_124 : decode cX18_drawn 124 = .ok (.getfield 29, 3) := by decide +kernel
theorem dX18_drawn_127 : decode cX18_drawn 127 = .ok (.getfield 218, 3) := by decide +kernel
theorem dX18_drawn_130 : decode cX18_drawn 130 = .ok (.iload_n 1, 1) := by decide +kernel
theorem dX18_drawn_131 : decode cX18_drawn 131 = .ok (.aaload, 1) := by decide +kernel
theorem dX18_drawn_132 : decode cX18_drawn 132 = .ok (.getfield 202, 3) := by decide +kernel
theorem dX18_drawn_135 : decode cX18_drawn 135 = .ok (.goto 15, 3) := by decide +kernel
theorem dX18_drawn_138 : decode cX18_drawn 138 = .ok (.aload_n 0, 1) := by decide +kernel
theorem dX18_drawn_139 : decode cX18_drawn 139 = .ok (.getfield 29, 3) := by decide +kernel
theorem dX18_drawn_142 : decode cX18_drawn 142 = .ok (.getfield 218, 3) := by decide +kernel
theorem dX18_drawn_145 : decode cX18_drawn 145 = .ok (.iload_n 1, 1) := by decide +kernel
theorem dX18_drawn_146 : decode cX18_drawn 146 = .ok (.aaload, 1) := by decide +kernel
theorem dX18_drawn_147 : decode cX18_drawn 147 = .ok (.getfield 211, 3) := by decide +kernel
theorem dX18_drawn_150 : decode cX18_drawn 150 = .ok (.ireturn, 1) := by decide +kernel
set_option maxRecDepth 20000 in
theorem ggX18_meant_X18_failsRow : GoodIn wsX18_meant wsX18_failsRow := goodIn_ca (goodIn_r _ [7, 8, 9, 10, 11, 6, 12, 13, 14, 15, 16, 17, 2, 1, 18, 19, 20, 21, 22, 23, 24, 25, 26, 27, 28, 29, 30, 31, 32, 33, 34, 35, 36, 37, 38, 39, 40, 41, 42, 43, 44, 45, 46, 47, 48, 49, 50, 51, 52, 53, 54, 55, 56, 57, 58, 59, 60, 61, 62, 63, 64, 65, 66, 67, 68, 69, 70, 71, 72, 73, 74, 75, 76, 77, 78, 79, 80, 81, 82, 83, 84, 85, 86, 87, 88, 89, 90, 91, 92, 93, 94, 95, 96, 97, 98, 99, 100, 101, 102, 103, 104, 105, 106, 107, 108, 109, 110, 111, 112, 113, 114, 115, 116, 117] (by decide +kernel) (by decide +kernel)) (goodIn_sub (fun _ h => List.mem_cons_of_mem _ (List.mem_append_right _ h)) (by decide +kernel))
set_option maxRecDepth 20000 in
theorem gX18_meant_X18_failsRow : GoodIn wsX18_meant (wsV RX18 232 RX18 yX18_failsRow wsX18_failsRow) := goodIn_app (goodIn_of _ (by decide +kernel)) ggX18_meant_X18_failsRow
set_option maxRecDepth 20000 in
theorem ggX18_meant_X18_in : GoodIn wsX18_meant wsX18_in := goodIn_r _ [36] (by decide +kernel) (by decide +kernel)
set_option maxRecDepth 20000 in
theorem gX18_meant_X18_in : GoodIn wsX18_meant (va_wsS RX18 77 yX18_in wsX18_in) := goodIn_app (goodIn_of _ (by decide +kernel)) ggX18_meant_X18_in
set_option maxRecDepth 20000 in
theorem ggX18_meant_X18_fails : GoodIn wsX18_meant wsX18_fails := goodIn_r _ [67, 68, 69, 70, 71, 72, 73, 74, 75, 76, 77, 78, 79, 80, 81, 82, 83, 84, 85, 86, 87, 88, 89, 90, 91, 92, 93, 94, 95, 96] (by decide +kernel) (by decide +kernel)
set_option maxRecDepth 20000 in
theorem gX18_meant_X18_fails : GoodIn wsX18_meant (wsV RX18 84 RX18 yX18_fails wsX18_fails) := goodIn_app (goodIn_of _ (by decide +kernel)) ggX18_meant_X18_fails
theorem dX18_meant_0 : decode cX18_meant 0 = .ok (.aload_n 0, 1) := by decide +kernel
theorem dX18_meant_1 : decode cX18_meant 1 = .ok (.iconst 1, 1) := by decide +kernel
theorem dX18_meant_2 : decode cX18_meant 2 = .ok (.invokevirtual 232, 3) := by decide +kernel
theorem dX18_meant_5 : decode cX18_meant 5 = .ok (.ifCond .ne 38, 3) := by decide +kernel
theorem dX18_meant_8 : decode cX18_meant 8 = .ok (.aload_n 0, 1) := by decide +kernel
theorem dX18_meant_9 : decode cX18_meant 9 = .ok (.iload_n 1, 1) := by decide +kernel
theorem dX18_meant_10 : decode cX18_meant 10 = .ok (.iconst 0, 1) := by decide +kernel
theorem dX18_meant_11 : decode cX18_meant 11 = .ok (.aload_n 0, 1) := by decide +kernel
theorem dX18_meant_12 : decode cX18_meant 12 = .ok (.getfield 81, 3) := by decide +kernel
theorem dX18_meant_15 : decode cX18_meant 15 = .ok (.iconst 1, 1) := by decide +kernel
theorem dX18_meant_16 : decode cX18_meant 16 = .ok (.isub, 1) := by decide +kernel
theorem dX18_meant_17 : decode cX18_meant 17 = .ok (.invokestatic 77, 3) := by decide +kernel
theorem dX18_meant_20 : decode cX18_meant 20 = .ok (.ifCond .eq 16, 3) := by decide +kernel
theorem dX18_meant_23 : decode cX18_meant 23 = .ok (.aload_n 0, 1) := by decide +kernel
theorem dX18_meant_24 : decode cX18_meant 24 = .ok (.getfield 33, 3) := by decide +kernel
theorem dX18_meant_27 : decode cX18_meant 27 = .ok (.iload_n 1, 1) := by decide +kernel
theorem dX18_meant_28 : decode cX18_meant 28 = .ok (.iaload, 1) := by decide +kernel
theorem dX18_meant_29 : decode cX18_meant 29 = .ok (.ifCond .le 7, 3) := by decide +kernel
theorem dX18_meant_32 : decode cX18_meant 32 = .ok (.iconst 0, 1) := by decide +kernel
theorem dX18_meant_33 : decode cX18_meant 33 = .ok (.goto 4, 3) := by decide +kernel
theorem dX18_meant_36 : decode cX18_meant 36 = .ok (.iconst 2, 1) := by decide +kernel
theorem dX18_meant_37 : decode cX18_meant 37 = .ok (.invokevirtual 84, 3) := by decide +kernel
theorem dX18_meant_40 : decode cX18_meant 40 = .ok (.ifCond .eq 5, 3) := by decide +kernel
theorem dX18_meant_43 : decode cX18_meant 43 = .ok (.iconst 0, 1) := by decide +kernel
theorem dX18_meant_44 : decode cX18_meant 44 = .ok (.ireturn, 1) := by decide +kernel
theorem dX18_meant_45 : decode cX18_meant 45 = .ok (.aload_n 0, 1) := by decide +kernel
theorem dX18_meant_46 : decode cX18_meant 46 = .ok (.getfield 33, 3) := by decide +kernel
theorem dX18_meant_49 : decode cX18_meant 49 = .ok (.iload_n 1, 1) := by decide +kernel
theorem dX18_meant_50 : decode cX18_meant 50 = .ok (.iaload, 1) := by decide +kernel
theorem dX18_meant_51 : decode cX18_meant 51 = .ok (.ireturn, 1) := by decide +kernel
theorem dX18_say_0 : decode cX18_say 0 = .ok (.aload_n 0, 1) := by decide +kernel
theorem dX18_say_1 : decode cX18_say 1 = .ok (.getfield 52, 3) := by decide +kernel
theorem dX18_say_4 : decode cX18_say 4 = .ok (.aload_n 0, 1) := by decide +kernel
theorem dX18_say_5 : decode cX18_say 5 = .ok (.getfield 252, 3) := by decide +kernel
theorem dX18_say_8 : decode cX18_say 8 = .ok (.iload_n 1, 1) := by decide +kernel
theorem dX18_say_9 : decode cX18_say 9 = .ok (.iastore, 1) := by decide +kernel
theorem dX18_say_10 : decode cX18_say 10 = .ok (.aload_n 0, 1) := by decide +kernel
theorem dX18_say_11 : decode cX18_say 11 = .ok (.dup, 1) := by decide +kernel
theorem dX18_say_12 : decode cX18_say 12 = .ok (.getfield 252, 3) := by decide +kernel
theorem dX18_say_15 : decode cX18_say 15 = .ok (.iconst 1, 1) := by decide +kernel
theorem dX18_say_16 : decode cX18_say 16 = .ok (.iadd, 1) := by decide +kernel
theorem dX18_say_17 : decode cX18_say 17 = .ok (.putfield 252, 3) := by decide +kernel
theorem dX18_say_20 : decode cX18_say 20 = .ok (.return_, 1) := by decide +kernel
set_option maxRecDepth 20000 in
theorem ggX18_sayIf_X18_say : GoodIn wsX18_sayIf wsX18_say := goodIn_ca (goodIn_r _ [5, 6, 7, 8, 9, 10, 11, 12, 13, 14, 15, 16, 17, 18, 19, 20, 21, 22, 23, 24, 25, 26, 27, 28, 29, 30, 31, 32, 33, 34, 35] (by decide +kernel) (by decide +kernel)) (goodIn_sub (fun _ h => List.mem_cons_of_mem _ (List.mem_append_right _ h)) (by decide +kernel))
set_option maxRecDepth 20000 in
theorem gX18_sayIf_X18_say : GoodIn wsX18_sayIf (wsV RX18 255 RX18 yX18_say wsX18_say) := goodIn_app (goodIn_of _ (by decide +kernel)) ggX18_sayIf_X18_say
theorem dX18_sayIf_0 : decode cX18_sayIf 0 = .ok (.iload_n 1, 1) := by decide +kernel
theorem dX18_sayIf_1 : decode cX18_sayIf 1 = .ok (.ifCond .le 8, 3) := by decide +kernel
theorem dX18_sayIf_4 : decode cX18_sayIf 4 = .ok (.aload_n 0, 1) := by decide +kernel
theorem dX18_sayIf_5 : decode cX18_sayIf 5 = .ok (.iload_n 1, 1) := by decide +kernel
theorem dX18_sayIf_6 : decode cX18_sayIf 6 = .ok (.invokevirtual 255, 3) := by decide +kernel
theorem dX18_sayIf_9 : decode cX18_sayIf 9 = .ok (.return_, 1) := by decide +kernel
set_option maxRecDepth 20000 in
theorem ggX18_say__X18_sayIf : GoodIn wsX18_say_ wsX18_sayIf := goodIn_ca (goodIn_r _ [6, 7, 8, 9, 5, 10, 11, 1, 12, 13, 14, 15, 16, 17, 18, 19, 20, 21, 22, 23, 24, 25, 26, 27, 28, 29, 30, 31, 32, 33, 34, 35, 36, 37, 38, 39] (by decide +kernel) (by decide +kernel)) (goodIn_sub (fun _ h => List.mem_cons_of_mem _ (List.mem_append_right _ h)) (by decide +kernel))
set_option maxRecDepth 20000 in
theorem gX18_say__X18_sayIf : GoodIn wsX18_say_ (wsV RX18 259 RX18 yX18_sayIf wsX18_sayIf) := goodIn_app (goodIn_of _ (by decide +kernel)) ggX18_say__X18_sayIf
set_option maxRecDepth 20000 in
theorem ggX18_say__X18_say : GoodIn wsX18_say_ wsX18_say := goodIn_ca (goodIn_r _ [10, 11, 1, 12, 13, 14, 15, 16, 17, 18, 19, 20, 21, 22, 23, 24, 25, 26, 27, 28, 29, 30, 31, 32, 33, 34, 35, 36, 37, 38, 39] (by decide +kernel) (by decide +kernel)) (goodIn_sub (fun _ h => List.mem_cons_of_mem _ (List.mem_append_right _ h)) (by decide +kernel))
set_option maxRecDepth 20000 in
theorem gX18_say__X18_say : GoodIn wsX18_say_ (wsV RX18 255 RX18 yX18_say wsX18_say) := goodIn_app (goodIn_of _ (by decide +kernel)) ggX18_say__X18_say
theorem dX18_say__0 : decode cX18_say_ 0 = .ok (.aload_n 0, 1) := by decide +kernel
theorem dX18_say__1 : decode cX18_say_ 1 = .ok (.iconst 0, 1) := by decide +kernel
theorem dX18_say__2 : decode cX18_say_ 2 = .ok (.putfield 252, 3) := by decide +kernel
theorem dX18_say__5 : decode cX18_say_ 5 = .ok (.aload_n 0, 1) := by decide +kernel
theorem dX18_say__6 : decode cX18_say_ 6 = .ok (.aload_n 1, 1) := by decide +kernel
theorem dX18_say__7 : decode cX18_say_ 7 = .ok (.getfield 102, 3) := by decide +kernel
theorem dX18_say__10 : decode cX18_say_ 10 = .ok (.invokevirtual 259, 3) := by decide +kernel
theorem dX18_say__13 : decode cX18_say_ 13 = .ok (.aload_n 0, 1) := by decide +kernel
theorem dX18_say__14 : decode cX18_say_ 14 = .ok (.aload_n 1, 1) := by decide +kernel
theorem dX18_say__15 : decode cX18_say_ 15 = .ok (.getfield 171, 3) := by decide +kernel
theorem dX18_say__18 : decode cX18_say_ 18 = .ok (.invokevirtual 259, 3) := by decide +kernel
theorem dX18_say__21 : decode cX18_say_ 21 = .ok (.aload_n 0, 1) := by decide +kernel
theorem dX18_say__22 : decode cX18_say_ 22 = .ok (.aload_n 1, 1) := by decide +kernel
theorem dX18_say__23 : decode cX18_say_ 23 = .ok (.getfield 108, 3) := by decide +kernel
theorem dX18_say__26 : decode cX18_say_ 26 = .ok (.invokevirtual 255, 3) := by decide +kernel
theorem dX18_say__29 : decode cX18_say_ 29 = .ok (.aload_n 1, 1) := by decide +kernel
theorem dX18_say__30 : decode cX18_say_ 30 = .ok (.getfield 102, 3) := by decide +kernel
theorem dX18_say__33 : decode cX18_say_ 33 = .ok (.ifCond .le 17, 3) := by decide +kernel
theorem dX18_say__36 : decode cX18_say_ 36 = .ok (.aload_n 0, 1) := by decide +kernel
theorem dX18_say__37 : decode cX18_say_ 37 = .ok (.bipush 16, 2) := by decide +kernel
theorem dX18_say__39 : decode cX18_say_ 39 = .ok (.invokevirtual 255, 3) := by decide +kernel
theorem dX18_say__42 : decode cX18_say_ 42 = .ok (.aload_n 0, 1) := by decide +kernel
theorem dX18_say__43 : decode cX18_say_ 43 = .ok (.aload_n 1, 1) := by decide +kernel
theorem dX18_say__44 : decode cX18_say_ 44 = .ok (.getfield 111, 3) := by decide +kernel
theorem dX18_say__47 : decode cX18_say_ 47 = .ok (.invokevirtual 255, 3) := by decide +kernel
theorem dX18_say__50 : decode cX18_say_ 50 = .ok (.iconst 0, 1) := by decide +kernel
theorem dX18_say__51 : decode cX18_say_ 51 = .ok (.istore_n 2, 1) := by decide +kernel
theorem dX18_say__52 : decode cX18_say_ 52 = .ok (.iload_n 2, 1) := by decide +kernel
theorem dX18_say__53 : decode cX18_say_ 53 = .ok (.aload_n 1, 1) := by decide +kernel
theorem dX18_say__54 : decode cX18_say_ 54 = .ok (.getfield 172, 3) := by decide +kernel
theorem dX18_say__57 : decode cX18_say_ 57 = .ok (.if_icmp .ge 157, 3) := by decide +kernel
theorem dX18_say__60 : decode cX18_say_ 60 = .ok (.aload_n 1, 1) := by decide +kernel
theorem dX18_say__61 : decode cX18_say_ 61 = .ok (.getfield 218, 3) := by decide +kernel
theorem dX18_say__64 : decode cX18_say_ 64 = .ok (.iload_n 2, 1) := by decide +kernel
theorem dX18_say__65 : decode cX18_say_ 65 = .ok (.aaload, 1) := by decide +kernel
theorem dX18_say__66 : decode cX18_say_ 66 = .ok (.astore_n 3, 1) := by decide +kernel
theorem dX18_say__67 : decode cX18_say_ 67 = .ok (.aload_n 3, 1) := by decide +kernel
theorem dX18_say__68 : decode cX18_say_ 68 = .ok (.getfield 142, 3) := by decide +kernel
theorem dX18_say__71 : decode cX18_say_ 71 = .ok (.bipush 111, 2) := by decide +kernel
theorem dX18_say__73 : decode cX18_say_ 73 = .ok (.if_icmp .ne 78, 3) := by decide +kernel
theorem dX18_say__76 : decode cX18_say_ 76 = .ok (.aload_n 0, 1) := by decide +kernel
theorem dX18_say__77 : decode cX18_say_ 77 = .ok (.aload_n 3, 1) := by decide +kernel
theorem dX18_say__78 : decode cX18_say_ 78 = .ok (.getfield 146, 3) := by decide +kernel
theorem dX18_say__81 : decode cX18_say_ 81 = .ok (.invokevirtual 255, 3) := by decide +kernel
theorem dX18_say__84 : decode cX18_say_ 84 = .ok (.aload_n 0, 1) := by decide +kernel
theorem dX18_say__85 : decode cX18_say_ 85 = .ok (.aload_n 3, 1) := by decide +kernel
theorem dX18_say__86 : decode cX18_say_ 86 = .ok (.getfield 132, 3) := by decide +kernel
theorem dX18_say__89 : decode cX18_say_ 89 = .ok (.invokevirtual 259, 3) := by decide +kernel
theorem dX18_say__92 : decode cX18_say_ 92 = .ok (.aload_n 0, 1) := by decide +kernel
theorem dX18_say__93 : decode cX18_say_ 93 = .ok (.aload_n 3, 1) := by decide +kernel
theorem dX18_say__94 : decode cX18_say_ 94 = .ok (.getfield 153, 3) := by decide +kernel
theorem dX18_say__97 : decode cX18_say_ 97 = .ok (.invokevirtual 255, 3) := by decide +kernel
theorem dX18_say__100 : decode cX18_say_ 100 = .ok (.aload_n 3, 1) := by decide +kernel
theorem dX18_say__101 : decode cX18_say_ 101 = .ok (.getfield 135, 3) := by decide +kernel
theorem dX18_say__104 : decode cX18_say_ 104 = .ok (.ifCond .eq 104, 3) := by decide +kernel
theorem dX18_say__107 : decode cX18_say_ 107 = .ok (.aload_n 0, 1) := by decide +kernel
theorem dX18_say__108 : decode cX18_say_ 108 = .ok (.bipush 36, 2) := by decide +kernel
theorem dX18_say__110 : decode cX18_say_ 110 = .ok (.invokevirtual 255, 3) := by decide +kernel
theorem dX18_say__113 : decode cX18_say_ 113 = .ok (.aload_n 0, 1) := by decide +kernel
theorem dX18_say__114 : decode cX18_say_ 114 = .ok (.bipush 60, 2) := by decide +kernel
theorem dX18_say__116 : decode cX18_say_ 116 = .ok (.aload_n 3, 1) := by decide +kernel
theorem dX18_say__117 : decode cX18_say_ 117 = .ok (.getfield 155, 3) := by decide +kernel
theorem dX18_say__120 : decode cX18_say_ 120 = .ok (.iadd, 1) := by decide +kernel
theorem dX18_say__121 : decode cX18_say_ 121 = .ok (.invokevirtual 255, 3) := by decide +kernel
theorem dX18_say__124 : decode cX18_say_ 124 = .ok (.aload_n 0, 1) := by decide +kernel
theorem dX18_say__125 : decode cX18_say_ 125 = .ok (.aload_n 3, 1) := by decide +kernel
theorem dX18_say__126 : decode cX18_say_ 126 = .ok (.getfield 158, 3) := by decide +kernel
theorem dX18_say__129 : decode cX18_say_ 129 = .ok (.invokevirtual 255, 3) := by decide +kernel
theorem dX18_say__132 : decode cX18_say_ 132 = .ok (.aload_n 0, 1) := by decide +kernel
theorem dX18_say__133 : decode cX18_say_ 133 = .ok (.aload_n 3, 1) := by decide +kernel
theorem dX18_say__134 : decode cX18_say_ 134 = .ok (.getfield 161, 3) := by decide +kernel
theorem dX18_say__137 : decode cX18_say_ 137 = .ok (.invokevirtual 259, 3) := by decide +kernel
theorem dX18_say__140 : decode cX18_say_ 140 = .ok (.aload_n 0, 1) := by decide +kernel
theorem dX18_say__141 : decode cX18_say_ 141 = .ok (.aload_n 3, 1) := by decide +kernel
theorem dX18_say__142 : decode cX18_say_ 142 = .ok (.getfield 164, 3) := by decide +kernel
theorem dX18_say__145 : decode cX18_say_ 145 = .ok (.invokevirtual 255, 3) := by decide +kernel
theorem dX18_say__148 : decode cX18_say_ 148 = .ok (.goto 60, 3) := by decide +kernel
theorem dX18_say__151 : decode cX18_say_ 151 = .ok (.aload_n 0, 1) := by decide +kernel
theorem dX18_say__152 : decode cX18_say_ 152 = .ok (.aload_n 3, 1) := by decide +kernel
theorem dX18_say__153 : decode cX18_say_ 153 = .ok (.getfield 142, 3) := by decide +kernel
theorem dX18_say__156 : decode cX18_say_ 156 = .ok (.bipush 115, 2) := by decide +kernel
theorem dX18_say__158 : decode cX18_say_ 158 = .ok (.if_icmp .ne 8, 3) := by decide +kernel
theorem dX18_say__161 : decode cX18_say_ 161 = .ok (.bipush 39, 2) := by decide +kernel
theorem dX18_say__163 : decode cX18_say_ 163 = .ok (.goto 10, 3) := by decide +kernel
theorem dX18_say__166 : decode cX18_say_ 166 = .ok (.bipush 60, 2) := by decide +kernel
theorem dX18_say__168 : decode cX18_say_ 168 = .ok (.aload_n 3, 1) := by decide +kernel
theorem dX18_say__169 : decode cX18_say_ 169 = .ok (.getfield 114, 3) := by decide +kernel
theorem dX18_say__172 : decode cX18_say_ 172 = .ok (.iadd, 1) := by decide +kernel
theorem dX18_say__173 : decode cX18_say_ 173 = .ok (.invokevirtual 255, 3) := by decide +kernel
theorem dX18_say__176 : decode cX18_say_ 176 = .ok (.aload_n 0, 1) := by decide +kernel
theorem dX18_say__177 : decode cX18_say_ 177 = .ok (.aload_n 3, 1) := by decide +kernel
theorem dX18_say__178 : decode cX18_say_ 178 = .ok (.getfield 119, 3) := by decide +kernel
theorem dX18_say__181 : decode cX18_say_ 181 = .ok (.invokevirtual 255, 3) := by decide +kernel
theorem dX18_say__184 : decode cX18_say_ 184 = .ok (.aload_n 0, 1) := by decide +kernel
theorem dX18_say__185 : decode cX18_say_ 185 = .ok (.aload_n 3, 1) := by decide +kernel
theorem dX18_say__186 : decode cX18_say_ 186 = .ok (.getfield 125, 3) := by decide +kernel
theorem dX18_say__189 : decode cX18_say_ 189 = .ok (.invokevirtual 259, 3) := by decide +kernel
theorem dX18_say__192 : decode cX18_say_ 192 = .ok (.aload_n 0, 1) := by decide +kernel
theorem dX18_say__193 : decode cX18_say_ 193 = .ok (.aload_n 3, 1) := by decide +kernel
theorem dX18_say__194 : decode cX18_say_ 194 = .ok (.getfield 139, 3) := by decide +kernel
theorem dX18_say__197 : decode cX18_say_ 197 = .ok (.invokevirtual 259, 3) := by decide +kernel
theorem dX18_say__200 : decode cX18_say_ 200 = .ok (.aload_n 0, 1) := by decide +kernel
theorem dX18_say__201 : decode cX18_say_ 201 = .ok (.aload_n 3, 1) := by decide +kernel
theorem dX18_say__202 : decode cX18_say_ 202 = .ok (.getfield 153, 3) := by decide +kernel
theorem dX18_say__205 : decode cX18_say_ 205 = .ok (.invokevirtual 255, 3) := by decide +kernel
theorem dX18_say__208 : decode cX18_say_ 208 = .ok (.iinc 2 1, 3) := by decide +kernel
theorem dX18_say__211 : decode cX18_say_ 211 = .ok (.goto (-159), 3) := by decide +kernel
theorem dX18_say__214 : decode cX18_say_ 214 = .ok (.return_, 1) := by decide +kernel
theorem dX18_isLess_0 : decode cX18_isLess 0 = .ok (.aload_n 0, 1) := by decide +kernel
theorem dX18_isLess_1 : decode cX18_isLess 1 = .ok (.getfield 262, 3) := by decide +kernel
theorem dX18_isLess_4 : decode cX18_isLess 4 = .ok (.aload_n 0, 1) := by decide +kernel
theorem dX18_isLess_5 : decode cX18_isLess 5 = .ok (.getfield 252, 3) := by decide +kernel
theorem dX18_isLess_8 : decode cX18_isLess 8 = .ok (.if_icmp .eq 27, 3) := by decide +kernel
theorem dX18_isLess_11 : decode cX18_isLess 11 = .ok (.aload_n 0, 1) := by decide +kernel
theorem dX18_isLess_12 : decode cX18_isLess 12 = .ok (.getfield 262, 3) := by decide +kernel
theorem dX18_isLess_15 : decode cX18_isLess 15 = .ok (.ifCond .eq 14, 3) := by decide +kernel
theorem dX18_isLess_18 : decode cX18_isLess 18 = .ok (.aload_n 0, 1) := by decide +kernel
theorem dX18_isLess_19 : decode cX18_isLess 19 = .ok (.getfield 252, 3) := by decide +kernel
theorem dX18_isLess_22 : decode cX18_isLess 22 = .ok (.aload_n 0, 1) := by decide +kernel
theorem dX18_isLess_23 : decode cX18_isLess 23 = .ok (.getfield 262, 3) := by decide +kernel
theorem dX18_isLess_26 : decode cX18_isLess 26 = .ok (.if_icmp .ge 7, 3) := by decide +kernel
theorem dX18_isLess_29 : decode cX18_isLess 29 = .ok (.iconst 1, 1) := by decide +kernel
theorem dX18_isLess_30 : decode cX18_isLess 30 = .ok (.goto 4, 3) := by decide +kernel
theorem dX18_isLess_33 : decode cX18_isLess 33 = .ok (.iconst 0, 1) := by decide +kernel
theorem dX18_isLess_34 : decode cX18_isLess 34 = .ok (.ireturn, 1) := by decide +kernel
theorem dX18_isLess_35 : decode cX18_isLess 35 = .ok (.iconst 0, 1) := by decide +kernel
theorem dX18_isLess_36 : decode cX18_isLess 36 = .ok (.istore_n 1, 1) := by decide +kernel
theorem dX18_isLess_37 : decode cX18_isLess 37 = .ok (.iload_n 1, 1) := by decide +kernel
theorem dX18_isLess_38 : decode cX18_isLess 38 = .ok (.aload_n 0, 1) := by decide +kernel
theorem dX18_isLess_39 : decode cX18_isLess 39 = .ok (.getfield 252, 3) := by decide +kernel
theorem dX18_isLess_42 : decode cX18_isLess 42 = .ok (.if_icmp .ge 45, 3) := by decide +kernel
theorem dX18_isLess_45 : decode cX18_isLess 45 = .ok (.aload_n 0, 1) := by decide +kernel
theorem dX18_isLess_46 : decode cX18_isLess 46 = .ok (.getfield 52, 3) := by decide +kernel
theorem dX18_isLess_49 : decode cX18_isLess 49 = .ok (.iload_n 1, 1) := by decide +kernel
theorem dX18_isLess_50 : decode cX18_isLess 50 = .ok (.iaload, 1) := by decide +kernel
theorem dX18_isLess_51 : decode cX18_isLess 51 = .ok (.aload_n 0, 1) := by decide +kernel
theorem dX18_isLess_52 : decode cX18_isLess 52 = .ok (.getfield 55, 3) := by decide +kernel
theorem dX18_isLess_55 : decode cX18_isLess 55 = .ok (.iload_n 1, 1) := by decide +kernel
theorem dX18_isLess_56 : decode cX18_isLess 56 = .ok (.iaload, 1) := by decide +kernel
theorem dX18_isLess_57 : decode cX18_isLess 57 = .ok (.if_icmp .eq 24, 3) := by decide +kernel
theorem dX18_isLess_60 : decode cX18_isLess 60 = .ok (.aload_n 0, 1) := by decide +kernel
theorem dX18_isLess_61 : decode cX18_isLess 61 = .ok (.getfield 52, 3) := by decide +kernel
theorem dX18_isLess_64 : decode cX18_isLess 64 = .ok (.iload_n 1, 1) := by decide +kernel
theorem dX18_isLess_65 : decode cX18_isLess 65 = .ok (.iaload, 1) := by decide +kernel
theorem dX18_isLess_66 : decode cX18_isLess 66 = .ok (.aload_n 0, 1) := by decide +kernel
theorem dX18_isLess_67 : decode cX18_isLess 67 = .ok (.getfield 55, 3) := by decide +kernel
theorem dX18_isLess_70 : decode cX18_isLess 70 = .ok (.iload_n 1, 1) := by decide +kernel
theorem dX18_isLess_71 : decode cX18_isLess 71 = .ok (.iaload, 1) := by decide +kernel
theorem dX18_isLess_72 : decode cX18_isLess 72 = .ok (.if_icmp .ge 7, 3) := by decide +kernel
theorem dX18_isLess_75 : decode cX18_isLess 75 = .ok (.iconst 1, 1) := by decide +kernel
theorem dX18_isLess_76 : decode cX18_isLess 76 = .ok (.goto 4, 3) := by decide +kernel
theorem dX18_isLess_79 : decode cX18_isLess 79 = .ok (.iconst 0, 1) := by decide +kernel
theorem dX18_isLess_80 : decode cX18_isLess 80 = .ok (.ireturn, 1) := by decide +kernel
theorem dX18_isLess_81 : decode cX18_isLess 81 = .ok (.iinc 1 1, 3) := by decide +kernel
theorem dX18_isLess_84 : decode cX18_isLess 84 = .ok (.goto (-47), 3) := by decide +kernel
theorem dX18_isLess_87 : decode cX18_isLess 87 = .ok (.iconst 0, 1) := by decide +kernel
theorem dX18_isLess_88 : decode cX18_isLess 88 = .ok (.ireturn, 1) := by decide +kernel
set_option maxRecDepth 20000 in
theorem ggX18_tryGroups_X18_say_ : GoodIn wsX18_tryGroups wsX18_say_ := goodIn_ca (goodIn_r _ [11, 3, 12, 13, 14, 10, 15, 16, 17, 18, 19, 5, 109, 110, 111, 112, 113, 114, 115, 116, 117, 118, 119, 120, 121, 122, 123, 124, 125, 126, 127, 128, 129, 130, 131, 132, 133, 134, 135, 136, 103, 104, 105, 106, 107, 108, 137, 138, 139, 140, 141, 142, 143, 144, 145, 146, 147, 148, 149, 150, 151] (by decide +kernel) (by decide +kernel)) (goodIn_sub (fun _ h => List.mem_cons_of_mem _ (List.mem_append_right _ h)) (by decide +kernel))
set_option maxRecDepth 20000 in
theorem gX18_tryGroups_X18_say_ : GoodIn wsX18_tryGroups (wsV RX18 265 RX18 yX18_say_ wsX18_say_) := goodIn_app (goodIn_of _ (by decide +kernel)) ggX18_tryGroups_X18_say_
set_option maxRecDepth 20000 in
theorem ggX18_tryGroups_X18_isLess : GoodIn wsX18_tryGroups wsX18_isLess := goodIn_ca (goodIn_r _ [23, 6, 3, 5, 4, 109, 110, 111, 112, 113, 114, 115, 116, 117, 118, 119, 120, 121, 122, 123, 124, 125, 126, 127, 128, 129, 130, 131, 132, 133, 134, 135, 136] (by decide +kernel) (by decide +kernel)) (goodIn_sub (fun _ h => List.mem_cons_of_mem _ (List.mem_append_right _ h)) (by decide +kernel))
set_option maxRecDepth 20000 in
theorem gX18_tryGroups_X18_isLess : GoodIn wsX18_tryGroups (wsV RX18 268 RX18 yX18_isLess wsX18_isLess) := goodIn_app (goodIn_of _ (by decide +kernel)) ggX18_tryGroups_X18_isLess
set_option maxRecDepth 20000 in
theorem ggX18_tryGroups_X18_draw : GoodIn wsX18_tryGroups wsX18_draw := goodIn_ca (goodIn_r _ [27, 28, 29, 30, 10, 31, 32, 33, 34, 35, 36, 37, 38, 39, 40, 41, 42, 43, 44, 45, 46, 47, 48, 49, 50, 51, 52, 53, 54, 55, 56, 57, 58, 59, 60, 61, 62, 63, 64, 65, 66, 67, 103, 104, 105, 106, 107, 108, 109, 110, 111, 112, 113, 114, 115, 116, 117, 118, 119, 120, 121, 122, 123, 124, 125, 126, 127, 128, 129, 130, 131, 132, 133, 134, 135, 136, 137, 138, 139, 140, 141, 142, 143, 144, 145, 146, 147, 148, 149, 150, 151] (by decide +kernel) (by decide +kernel)) (goodIn_sub (fun _ h => List.mem_cons_of_mem _ (List.mem_append_right _ h)) (by decide +kernel))
set_option maxRecDepth 20000 in
theorem gX18_tryGroups_X18_draw : GoodIn wsX18_tryGroups (wsV RX18 235 RX18 yX18_draw wsX18_draw) := goodIn_app (goodIn_of _ (by decide +kernel)) ggX18_tryGroups_X18_draw
set_option maxRecDepth 20000 in
theorem ggX18_tryGroups_X18_tryGroups : GoodIn wsX18_tryGroups wsX18_tryGroups := goodIn_ca (goodIn_r _ [0, 1, 2, 3, 4, 5, 6, 7, 8, 9, 10, 11, 12, 13, 14, 15, 16, 17, 18, 19, 20, 21, 22, 23, 24, 25, 26, 27, 28, 29, 30, 31, 32, 33, 34, 35, 36, 37, 38, 39, 40, 41, 42, 43, 44, 45, 46, 47, 48, 49, 50, 51, 52, 53, 54, 55, 56, 57, 58, 59, 60, 61, 62, 63, 64, 65, 66, 67, 68, 69, 70, 71, 72, 73, 74, 75, 76, 77, 78, 79, 80, 81, 82, 83, 84, 85, 86, 87, 88, 89, 90, 91, 92, 93, 94, 95, 96, 97, 98, 99, 100, 101, 102, 103, 104, 105, 106, 107, 108, 109, 110, 111, 112, 113, 114, 115, 116, 117, 118, 119, 120, 121, 122, 123, 124, 125, 126, 127, 128, 129, 130, 131, 132, 133, 134, 135, 136, 137, 138, 139, 140, 141, 142, 143, 144, 145, 146, 147, 148, 149, 150, 151] (by decide +kernel) (by decide +kernel)) (goodIn_sub (fun _ h => List.mem_cons_of_mem _ (List.mem_append_right _ h)) (by decide +kernel))
set_option maxRecDepth 20000 in
theorem gX18_tryGroups_X18_tryGroups : GoodIn wsX18_tryGroups (wsV RX18 272 RX18 yX18_tryGroups wsX18_tryGroups) := goodIn_app (goodIn_of _ (by decide +kernel)) ggX18_tryGroups_X18_tryGroups
set_option maxRecDepth 20000 in
theorem ggX18_tryGroups_X14_group : GoodIn wsX18_tryGroups wsX14_group := goodIn_r _ [75, 76, 77, 78, 79, 80, 81, 82, 83, 84, 85, 103, 104, 105, 106, 107, 108, 137, 138, 139, 140, 141, 142, 143, 144, 145, 146, 147, 148, 149, 150, 151] (by decide +kernel) (by decide +kernel)
set_option maxRecDepth 20000 in
theorem gX18_tryGroups_X14_group : GoodIn wsX18_tryGroups (wsV RX18 128 RX14 yX14_group wsX14_group) := goodIn_app (goodIn_of _ (by decide +kernel)) ggX18_tryGroups_X14_group
set_option maxRecDepth 20000 in
theorem ggX18_tryGroups_X15_be : GoodIn wsX18_tryGroups wsX15_be := goodIn_r _ [89, 90, 91, 92, 93, 94, 95, 96, 97, 98, 99, 100, 101, 102, 137, 138, 139, 140, 141, 142, 143, 144, 145, 146, 147, 148, 149, 150, 151] (by decide +kernel) (by decide +kernel)
set_option maxRecDepth 20000 in
theorem gX18_tryGroups_X15_be : GoodIn wsX18_tryGroups (wsV RX18 276 RX15 yX15_be wsX15_be) := goodIn_app (goodIn_of _ (by decide +kernel)) ggX18_tryGroups_X15_be
theorem dX18_tryGroups_0 : decode cX18_tryGroups 0 = .ok (.iload_n 2, 1) := by decide +kernel
theorem dX18_tryGroups_1 : decode cX18_tryGroups 1 = .ok (.aload_n 1, 1) := by decide +kernel
theorem dX18_tryGroups_2 : decode cX18_tryGroups 2 = .ok (.getfield 172, 3) := by decide +kernel
theorem dX18_tryGroups_5 : decode cX18_tryGroups 5 = .ok (.if_icmp .ne 134, 3) := by decide +kernel
theorem dX18_tryGroups_8 : decode cX18_tryGroups 8 = .ok (.aload_n 0, 1) := by decide +kernel
theorem dX18_tryGroups_9 : decode cX18_tryGroups 9 = .ok (.aload_n 0, 1) := by decide +kernel
theorem dX18_tryGroups_10 : decode cX18_tryGroups 10 = .ok (.getfield 46, 3) := by decide +kernel
theorem dX18_tryGroups_13 : decode cX18_tryGroups 13 = .ok (.invokevirtual 265, 3) := by decide +kernel
theorem dX18_tryGroups_16 : decode cX18_tryGroups 16 = .ok (.aload_n 0, 1) := by decide +kernel
theorem dX18_tryGroups_17 : decode cX18_tryGroups 17 = .ok (.invokevirtual 268, 3) := by decide +kernel
theorem dX18_tryGroups_20 : decode cX18_tryGroups 20 = .ok (.ifCond .eq 118, 3) := by decide +kernel
theorem dX18_tryGroups_23 : decode cX18_tryGroups 23 = .ok (.aload_n 0, 1) := by decide +kernel
theorem dX18_tryGroups_24 : decode cX18_tryGroups 24 = .ok (.aload_n 0, 1) := by decide +kernel
theorem dX18_tryGroups_25 : decode cX18_tryGroups 25 = .ok (.getfield 46, 3) := by decide +kernel
theorem dX18_tryGroups_28 : decode cX18_tryGroups 28 = .ok (.aload_n 0, 1) := by decide +kernel
theorem dX18_tryGroups_29 : decode cX18_tryGroups 29 = .ok (.getfield 43, 3) := by decide +kernel
theorem dX18_tryGroups_32 : decode cX18_tryGroups 32 = .ok (.invokevirtual 235, 3) := by decide +kernel
theorem dX18_tryGroups_35 : decode cX18_tryGroups 35 = .ok (.iconst 1, 1) := by decide +kernel
theorem dX18_tryGroups_36 : decode cX18_tryGroups 36 = .ok (.istore 4, 2) := by decide +kernel
theorem dX18_tryGroups_38 : decode cX18_tryGroups 38 = .ok (.iconst 0, 1) := by decide +kernel
theorem dX18_tryGroups_39 : decode cX18_tryGroups 39 = .ok (.istore 5, 2) := by decide +kernel
theorem dX18_tryGroups_41 : decode cX18_tryGroups 41 = .ok (.iload 5, 2) := by decide +kernel
theorem dX18_tryGroups_43 : decode cX18_tryGroups 43 = .ok (.sipush 256, 3) := by decide +kernel
theorem dX18_tryGroups_46 : decode cX18_tryGroups 46 = .ok (.if_icmp .ge 35, 3) := by decide +kernel
theorem dX18_tryGroups_49 : decode cX18_tryGroups 49 = .ok (.iload 4, 2) := by decide +kernel
theorem dX18_tryGroups_51 : decode cX18_tryGroups 51 = .ok (.ifCond .eq 21, 3) := by decide +kernel
theorem dX18_tryGroups_54 : decode cX18_tryGroups 54 = .ok (.aload_n 0, 1) := by decide +kernel
theorem dX18_tryGroups_55 : decode cX18_tryGroups 55 = .ok (.getfield 43, 3) := by decide +kernel
theorem dX18_tryGroups_58 : decode cX18_tryGroups 58 = .ok (.iload 5, 2) := by decide +kernel
theorem dX18_tryGroups_60 : decode cX18_tryGroups 60 = .ok (.iaload, 1) := by decide +kernel
theorem dX18_tryGroups_61 : decode cX18_tryGroups 61 = .ok (.aload_n 3, 1) := by decide +kernel
theorem dX18_tryGroups_62 : decode cX18_tryGroups 62 = .ok (.iload 5, 2) := by decide +kernel
theorem dX18_tryGroups_64 : decode cX18_tryGroups 64 = .ok (.iaload, 1) := by decide +kernel
theorem dX18_tryGroups_65 : decode cX18_tryGroups 65 = .ok (.if_icmp .ne 7, 3) := by decide +kernel
theorem dX18_tryGroups_68 : decode cX18_tryGroups 68 = .ok (.iconst 1, 1) := by decide +kernel
theorem dX18_tryGroups_69 : decode cX18_tryGroups 69 = .ok (.goto 4, 3) := by decide +kernel
theorem dX18_tryGroups_72 : decode cX18_tryGroups 72 = .ok (.iconst 0, 1) := by decide +kernel
theorem dX18_tryGroups_73 : decode cX18_tryGroups 73 = .ok (.istore 4, 2) := by decide +kernel
theorem dX18_tryGroups_75 : decode cX18_tryGroups 75 = .ok (.iinc 5 1, 3) := by decide +kernel
theorem dX18_tryGroups_78 : decode cX18_tryGroups 78 = .ok (.goto (-37), 3) := by decide +kernel
theorem dX18_tryGroups_81 : decode cX18_tryGroups 81 = .ok (.iconst 0, 1) := by decide +kernel
theorem dX18_tryGroups_82 : decode cX18_tryGroups 82 = .ok (.istore 5, 2) := by decide +kernel
theorem dX18_tryGroups_84 : decode cX18_tryGroups 84 = .ok (.iload 4, 2) := by decide +kernel
theorem dX18_tryGroups_86 : decode cX18_tryGroups 86 = .ok (.ifCond .eq 32, 3) := by decide +kernel
theorem dX18_tryGroups_89 : decode cX18_tryGroups 89 = .ok (.iload 5, 2) := by decide +kernel
theorem dX18_tryGroups_91 : decode cX18_tryGroups 91 = .ok (.aload_n 0, 1) := by decide +kernel
theorem dX18_tryGroups_92 : decode cX18_tryGroups 92 = .ok (.getfield 252, 3) := by decide +kernel
theorem dX18_tryGroups_95 : decode cX18_tryGroups 95 = .ok (.if_icmp .ge 23, 3) := by decide +kernel
theorem dX18_tryGroups_98 : decode cX18_tryGroups 98 = .ok (.aload_n 0, 1) := by decide +kernel
theorem dX18_tryGroups_99 : decode cX18_tryGroups 99 = .ok (.getfield 55, 3) := by decide +kernel
theorem dX18_tryGroups_102 : decode cX18_tryGroups 102 = .ok (.iload 5, 2) := by decide +kernel
theorem dX18_tryGroups_104 : decode cX18_tryGroups 104 = .ok (.aload_n 0, 1) := by decide +kernel
theorem dX18_tryGroups_105 : decode cX18_tryGroups 105 = .ok (.getfield 52, 3) := by decide +kernel
theorem dX18_tryGroups_108 : decode cX18_tryGroups 108 = .ok (.iload 5, 2) := by decide +kernel
theorem dX18_tryGroups_110 : decode cX18_tryGroups 110 = .ok (.iaload, 1) := by decide +kernel
theorem dX18_tryGroups_111 : decode cX18_tryGroups 111 = .ok (.iastore, 1) := by decide +kernel
theorem dX18_tryGroups_112 : decode cX18_tryGroups 112 = .ok (.iinc 5 1, 3) := by decide +kernel
theorem dX18_tryGroups_115 : decode cX18_tryGroups 115 = .ok (.goto (-31), 3) := by decide +kernel
theorem dX18_tryGroups_118 : decode cX18_tryGroups 118 = .ok (.aload_n 0, 1) := by decide +kernel
theorem dX18_tryGroups_119 : decode cX18_tryGroups 119 = .ok (.iload 4, 2) := by decide +kernel
theorem dX18_tryGroups_121 : decode cX18_tryGroups 121 = .ok (.ifCond .eq 10, 3) := by decide +kernel
theorem dX18_tryGroups_124 : decode cX18_tryGroups 124 = .ok (.aload_n 0, 1) := by decide +kernel
theorem dX18_tryGroups_125 : decode cX18_tryGroups 125 = .ok (.getfield 252, 3) := by decide +kernel
theorem dX18_tryGroups_128 : decode cX18_tryGroups 128 = .ok (.goto 7, 3) := by decide +kernel
theorem dX18_tryGroups_131 : decode cX18_tryGroups 131 = .ok (.aload_n 0, 1) := by decide +kernel
theorem dX18_tryGroups_132 : decode cX18_tryGroups 132 = .ok (.getfield 262, 3) := by decide +kernel
theorem dX18_tryGroups_135 : decode cX18_tryGroups 135 = .ok (.putfield 262, 3) := by decide +kernel
theorem dX18_tryGroups_138 : decode cX18_tryGroups 138 = .ok (.return_, 1) := by decide +kernel
theorem dX18_tryGroups_139 : decode cX18_tryGroups 139 = .ok (.aload_n 1, 1) := by decide +kernel
theorem dX18_tryGroups_140 : decode cX18_tryGroups 140 = .ok (.getfield 218, 3) := by decide +kernel
theorem dX18_tryGroups_143 : decode cX18_tryGroups 143 = .ok (.iload_n 2, 1) := by decide +kernel
theorem dX18_tryGroups_144 : decode cX18_tryGroups 144 = .ok (.aaload, 1) := by decide +kernel
theorem dX18_tryGroups_145 : decode cX18_tryGroups 145 = .ok (.astore 4, 2) := by decide +kernel
theorem dX18_tryGroups_147 : decode cX18_tryGroups 147 = .ok (.aload_n 0, 1) := by decide +kernel
theorem dX18_tryGroups_148 : decode cX18_tryGroups 148 = .ok (.getfield 46, 3) := by decide +kernel
theorem dX18_tryGroups_151 : decode cX18_tryGroups 151 = .ok (.getfield 172, 3) := by decide +kernel
theorem dX18_tryGroups_154 : decode cX18_tryGroups 154 = .ok (.istore 5, 2) := by decide +kernel
theorem dX18_tryGroups_156 : decode cX18_tryGroups 156 = .ok (.aload_n 0, 1) := by decide +kernel
theorem dX18_tryGroups_157 : decode cX18_tryGroups 157 = .ok (.aload_n 1, 1) := by decide +kernel
theorem dX18_tryGroups_158 : decode cX18_tryGroups 158 = .ok (.iload_n 2, 1) := by decide +kernel
theorem dX18_tryGroups_159 : decode cX18_tryGroups 159 = .ok (.iconst 1, 1) := by decide +kernel
theorem dX18_tryGroups_160 : decode cX18_tryGroups 160 = .ok (.iadd, 1) := by decide +kernel
theorem dX18_tryGroups_161 : decode cX18_tryGroups 161 = .ok (.aload_n 3, 1) := by decide +kernel
theorem dX18_tryGroups_162 : decode cX18_tryGroups 162 = .ok (.invokevirtual 272, 3) := by decide +kernel
theorem dX18_tryGroups_165 : decode cX18_tryGroups 165 = .ok (.aload_n 0, 1) := by decide +kernel
theorem dX18_tryGroups_166 : decode cX18_tryGroups 166 = .ok (.getfield 46, 3) := by decide +kernel
theorem dX18_tryGroups_169 : decode cX18_tryGroups 169 = .ok (.iload 5, 2) := by decide +kernel
theorem dX18_tryGroups_171 : decode cX18_tryGroups 171 = .ok (.putfield 172, 3) := by decide +kernel
theorem dX18_tryGroups_174 : decode cX18_tryGroups 174 = .ok (.iconst 0, 1) := by decide +kernel
theorem dX18_tryGroups_175 : decode cX18_tryGroups 175 = .ok (.istore 6, 2) := by decide +kernel
theorem dX18_tryGroups_177 : decode cX18_tryGroups 177 = .ok (.iload 6, 2) := by decide +kernel
theorem dX18_tryGroups_179 : decode cX18_tryGroups 179 = .ok (.iconst 4, 1) := by decide +kernel
theorem dX18_tryGroups_180 : decode cX18_tryGroups 180 = .ok (.if_icmp .ge 223, 3) := by decide +kernel
theorem dX18_tryGroups_183 : decode cX18_tryGroups 183 = .ok (.iload 6, 2) := by decide +kernel
theorem dX18_tryGroups_185 : decode cX18_tryGroups 185 = .ok (.iconst 2, 1) := by decide +kernel
theorem dX18_tryGroups_186 : decode cX18_tryGroups 186 = .ok (.irem, 1) := by decide +kernel
theorem dX18_tryGroups_187 : decode cX18_tryGroups 187 = .ok (.ifCond .eq 11, 3) := by decide +kernel
theorem dX18_tryGroups_190 : decode cX18_tryGroups 190 = .ok (.aload 4, 2) := by decide +kernel
theorem dX18_tryGroups_192 : decode cX18_tryGroups 192 = .ok (.getfield 132, 3) := by decide +kernel
theorem dX18_tryGroups_195 : decode cX18_tryGroups 195 = .ok (.ifCond .le 52, 3) := by decide +kernel
theorem dX18_tryGroups_198 : decode cX18_tryGroups 198 = .ok (.iload 6, 2) := by decide +kernel
theorem dX18_tryGroups_200 : decode cX18_tryGroups 200 = .ok (.iconst 2, 1) := by decide +kernel
theorem dX18_tryGroups_201 : decode cX18_tryGroups 201 = .ok (.idiv, 1) := by decide +kernel
theorem dX18_tryGroups_202 : decode cX18_tryGroups 202 = .ok (.ifCond .eq 21, 3) := by decide +kernel
theorem dX18_tryGroups_205 : decode cX18_tryGroups 205 = .ok (.aload 4, 2) := by decide +kernel
theorem dX18_tryGroups_207 : decode cX18_tryGroups 207 = .ok (.getfield 142, 3) := by decide +kernel
theorem dX18_tryGroups_210 : decode cX18_tryGroups 210 = .ok (.bipush 111, 2) := by decide +kernel
theorem dX18_tryGroups_212 : decode cX18_tryGroups 212 = .ok (.if_icmp .ne 35, 3) := by decide +kernel
theorem dX18_tryGroups_215 : decode cX18_tryGroups 215 = .ok (.aload 4, 2) := by decide +kernel
theorem dX18_tryGroups_217 : decode cX18_tryGroups 217 = .ok (.getfield 135, 3) := by decide +kernel
theorem dX18_tryGroups_220 : decode cX18_tryGroups 220 = .ok (.ifCond .eq 27, 3) := by decide +kernel
theorem dX18_tryGroups_223 : decode cX18_tryGroups 223 = .ok (.aload 4, 2) := by decide +kernel
theorem dX18_tryGroups_225 : decode cX18_tryGroups 225 = .ok (.getfield 153, 3) := by decide +kernel
theorem dX18_tryGroups_228 : decode cX18_tryGroups 228 = .ok (.bipush 35, 2) := by decide +kernel
theorem dX18_tryGroups_230 : decode cX18_tryGroups 230 = .ok (.if_icmp .ne 13, 3) := by decide +kernel
theorem dX18_tryGroups_233 : decode cX18_tryGroups 233 = .ok (.aload_n 0, 1) := by decide +kernel
theorem dX18_tryGroups_234 : decode cX18_tryGroups 234 = .ok (.getfield 46, 3) := by decide +kernel
theorem dX18_tryGroups_237 : decode cX18_tryGroups 237 = .ok (.getfield 102, 3) := by decide +kernel
theorem dX18_tryGroups_240 : decode cX18_tryGroups 240 = .ok (.ifCond .le 7, 3) := by decide +kernel
theorem dX18_tryGroups_243 : decode cX18_tryGroups 243 = .ok (.iconst 1, 1) := by decide +kernel
theorem dX18_tryGroups_244 : decode cX18_tryGroups 244 = .ok (.goto 4, 3) := by decide +kernel
theorem dX18_tryGroups_247 : decode cX18_tryGroups 247 = .ok (.iconst 0, 1) := by decide +kernel
theorem dX18_tryGroups_248 : decode cX18_tryGroups 248 = .ok (.istore 7, 2) := by decide +kernel
theorem dX18_tryGroups_250 : decode cX18_tryGroups 250 = .ok (.iload 7, 2) := by decide +kernel
theorem dX18_tryGroups_252 : decode cX18_tryGroups 252 = .ok (.ifCond .eq 145, 3) := by decide +kernel
theorem dX18_tryGroups_255 : decode cX18_tryGroups 255 = .ok (.aload_n 0, 1) := by decide +kernel
theorem dX18_tryGroups_256 : decode cX18_tryGroups 256 = .ok (.getfield 46, 3) := by decide +kernel
theorem dX18_tryGroups_259 : decode cX18_tryGroups 259 = .ok (.invokevirtual 128, 3) := by decide +kernel
theorem dX18_tryGroups_262 : decode cX18_tryGroups 262 = .ok (.astore 8, 2) := by decide +kernel
theorem dX18_tryGroups_264 : decode cX18_tryGroups 264 = .ok (.aload 8, 2) := by decide +kernel
theorem dX18_tryGroups_266 : decode cX18_tryGroups 266 = .ok (.aload 4, 2) := by decide +kernel
theorem dX18_tryGroups_268 : decode cX18_tryGroups 268 = .ok (.invokevirtual 276, 3) := by decide +kernel
theorem dX18_tryGroups_271 : decode cX18_tryGroups 271 = .ok (.aload 8, 2) := by decide +kernel
theorem dX18_tryGroups_273 : decode cX18_tryGroups 273 = .ok (.iload 6, 2) := by decide +kernel
theorem dX18_tryGroups_275 : decode cX18_tryGroups 275 = .ok (.iconst 2, 1) := by decide +kernel
theorem dX18_tryGroups_276 : decode cX18_tryGroups 276 = .ok (.irem, 1) := by decide +kernel
theorem dX18_tryGroups_277 : decode cX18_tryGroups 277 = .ok (.ifCond .ne 11, 3) := by decide +kernel
theorem dX18_tryGroups_280 : decode cX18_tryGroups 280 = .ok (.aload 4, 2) := by decide +kernel
theorem dX18_tryGroups_282 : decode cX18_tryGroups 282 = .ok (.getfield 132, 3) := by decide +kernel
theorem dX18_tryGroups_285 : decode cX18_tryGroups 285 = .ok (.goto 4, 3) := by decide +kernel
theorem dX18_tryGroups_288 : decode cX18_tryGroups 288 = .ok (.iconst 0, 1) := by decide +kernel
theorem dX18_tryGroups_289 : decode cX18_tryGroups 289 = .ok (.putfield 132, 3) := by decide +kernel
theorem dX18_tryGroups_292 : decode cX18_tryGroups 292 = .ok (.aload 8, 2) := by decide +kernel
theorem dX18_tryGroups_294 : decode cX18_tryGroups 294 = .ok (.iload 6, 2) := by decide +kernel
theorem dX18_tryGroups_296 : decode cX18_tryGroups 296 = .ok (.iconst 2, 1) := by decide +kernel
theorem dX18_tryGroups_297 : decode cX18_tryGroups 297 = .ok (.idiv, 1) := by decide +kernel
theorem dX18_tryGroups_298 : decode cX18_tryGroups 298 = .ok (.ifCond .ne 25, 3) := by decide +kernel
theorem dX18_tryGroups_301 : decode cX18_tryGroups 301 = .ok (.aload 4, 2) := by decide +kernel
theorem dX18_tryGroups_303 : decode cX18_tryGroups 303 = .ok (.getfield 142, 3) := by decide +kernel
theorem dX18_tryGroups_306 : decode cX18_tryGroups 306 = .ok (.bipush 111, 2) := by decide +kernel
theorem dX18_tryGroups_308 : decode cX18_tryGroups 308 = .ok (.if_icmp .ne 15, 3) := by decide +kernel
theorem dX18_tryGroups_311 : decode cX18_tryGroups 311 = .ok (.aload 4, 2) := by decide +kernel
theorem dX18_tryGroups_313 : decode cX18_tryGroups 313 = .ok (.getfield 135, 3) := by decide +kernel
theorem dX18_tryGroups_316 : decode cX18_tryGroups 316 = .ok (.ifCond .eq 7, 3) := by decide +kernel
theorem dX18_tryGroups_319 : decode cX18_tryGroups 319 = .ok (.iconst 1, 1) := by decide +kernel
theorem dX18_tryGroups_320 : decode cX18_tryGroups 320 = .ok (.goto 4, 3) := by decide +kernel
theorem dX18_tryGroups_323 : decode cX18_tryGroups 323 = .ok (.iconst 0, 1) := by decide +kernel
theorem dX18_tryGroups_324 : decode cX18_tryGroups 324 = .ok (.putfield 135, 3) := by decide +kernel
theorem dX18_tryGroups_327 : decode cX18_tryGroups 327 = .ok (.aload 8, 2) := by decide +kernel
theorem dX18_tryGroups_329 : decode cX18_tryGroups 329 = .ok (.aload 4, 2) := by decide +kernel
theorem dX18_tryGroups_331 : decode cX18_tryGroups 331 = .ok (.getfield 211, 3) := by decide +kernel
theorem dX18_tryGroups_334 : decode cX18_tryGroups 334 = .ok (.ifCond .le 11, 3) := by decide +kernel
theorem dX18_tryGroups_337 : decode cX18_tryGroups 337 = .ok (.aload 4, 2) := by decide +kernel
theorem dX18_tryGroups_339 : decode cX18_tryGroups 339 = .ok (.getfield 211, 3) := by decide +kernel
theorem dX18_tryGroups_342 : decode cX18_tryGroups 342 = .ok (.goto 8, 3) := by decide +kernel
theorem dX18_tryGroups_345 : decode cX18_tryGroups 345 = .ok (.aload 4, 2) := by decide +kernel
theorem dX18_tryGroups_347 : decode cX18_tryGroups 347 = .ok (.getfield 114, 3) := by decide +kernel
theorem dX18_tryGroups_350 : decode cX18_tryGroups 350 = .ok (.putfield 114, 3) := by decide +kernel
theorem dX18_tryGroups_353 : decode cX18_tryGroups 353 = .ok (.aload 8, 2) := by decide +kernel
theorem dX18_tryGroups_355 : decode cX18_tryGroups 355 = .ok (.aload 4, 2) := by decide +kernel
theorem dX18_tryGroups_357 : decode cX18_tryGroups 357 = .ok (.getfield 202, 3) := by decide +kernel
theorem dX18_tryGroups_360 : decode cX18_tryGroups 360 = .ok (.ifCond .le 11, 3) := by decide +kernel
theorem dX18_tryGroups_363 : decode cX18_tryGroups 363 = .ok (.aload 4, 2) := by decide +kernel
theorem dX18_tryGroups_365 : decode cX18_tryGroups 365 = .ok (.getfield 202, 3) := by decide +kernel
theorem dX18_tryGroups_368 : decode cX18_tryGroups 368 = .ok (.goto 8, 3) := by decide +kernel
theorem dX18_tryGroups_371 : decode cX18_tryGroups 371 = .ok (.aload 4, 2) := by decide +kernel
theorem dX18_tryGroups_373 : decode cX18_tryGroups 373 = .ok (.getfield 155, 3) := by decide +kernel
theorem dX18_tryGroups_376 : decode cX18_tryGroups 376 = .ok (.putfield 155, 3) := by decide +kernel
theorem dX18_tryGroups_379 : decode cX18_tryGroups 379 = .ok (.aload_n 0, 1) := by decide +kernel
theorem dX18_tryGroups_380 : decode cX18_tryGroups 380 = .ok (.aload_n 1, 1) := by decide +kernel
theorem dX18_tryGroups_381 : decode cX18_tryGroups 381 = .ok (.iload_n 2, 1) := by decide +kernel
theorem dX18_tryGroups_382 : decode cX18_tryGroups 382 = .ok (.iconst 1, 1) := by decide +kernel
theorem dX18_tryGroups_383 : decode cX18_tryGroups 383 = .ok (.iadd, 1) := by decide +kernel
theorem dX18_tryGroups_384 : decode cX18_tryGroups 384 = .ok (.aload_n 3, 1) := by decide +kernel
theorem dX18_tryGroups_385 : decode cX18_tryGroups 385 = .ok (.invokevirtual 272, 3) := by decide +kernel
theorem dX18_tryGroups_388 : decode cX18_tryGroups 388 = .ok (.aload_n 0, 1) := by decide +kernel
theorem dX18_tryGroups_389 : decode cX18_tryGroups 389 = .ok (.getfield 46, 3) := by decide +kernel
theorem dX18_tryGroups_392 : decode cX18_tryGroups 392 = .ok (.iload 5, 2) := by decide +kernel
theorem dX18_tryGroups_394 : decode cX18_tryGroups 394 = .ok (.putfield 172, 3) := by decide +kernel
theorem dX18_tryGroups_397 : decode cX18_tryGroups 397 = .ok (.iinc 6 1, 3) := by decide +kernel
theorem dX18_tryGroups_400 : decode cX18_tryGroups 400 = .ok (.goto (-223), 3) := by decide +kernel
theorem dX18_tryGroups_403 : decode cX18_tryGroups 403 = .ok (.return_, 1) := by decide +kernel
set_option maxRecDepth 20000 in
theorem ggX18_findFewest_X18_draw : GoodIn wsX18_findFewest wsX18_draw := goodIn_ca (goodIn_r _ [8, 9, 10, 11, 7, 12, 13, 14, 15, 16, 17, 18, 19, 20, 21, 22, 23, 24, 25, 26, 27, 28, 29, 30, 31, 32, 33, 34, 35, 36, 37, 38, 39, 40, 41, 42, 43, 44, 45, 46, 47, 48, 133, 134, 135, 136, 137, 138, 105, 106, 107, 108, 109, 110, 111, 112, 113, 114, 115, 116, 117, 118, 119, 120, 121, 122, 123, 124, 125, 126, 127, 128, 129, 130, 131, 132, 139, 140, 141, 142, 143, 144, 145, 146, 147, 148, 149, 150, 151, 152, 153] (by decide +kernel) (by decide +kernel)) (goodIn_sub (fun _ h => List.mem_cons_of_mem _ (List.mem_append_right _ h)) (by decide +kernel))
set_option maxRecDepth 20000 in
theorem gX18_findFewest_X18_draw : GoodIn wsX18_findFewest (wsV RX18 235 RX18 yX18_draw wsX18_draw) := goodIn_app (goodIn_of _ (by decide +kernel)) ggX18_findFewest_X18_draw
set_option maxRecDepth 20000 in
theorem ggX18_findFewest_X18_tryGroups : GoodIn wsX18_findFewest wsX18_tryGroups := goodIn_ca (goodIn_r _ [52, 3, 53, 54, 55, 56, 2, 57, 58, 59, 7, 60, 61, 62, 63, 64, 65, 66, 67, 68, 69, 70, 71, 72, 4, 5, 6, 8, 9, 10, 11, 12, 13, 14, 15, 16, 17, 18, 19, 20, 21, 22, 23, 24, 25, 26, 27, 28, 29, 30, 31, 32, 33, 34, 35, 36, 37, 38, 39, 40, 41, 42, 43, 44, 45, 46, 47, 48, 49, 50, 51, 73, 74, 75, 76, 77, 78, 79, 80, 81, 82, 83, 84, 85, 86, 87, 88, 89, 90, 91, 92, 93, 94, 95, 96, 97, 98, 99, 100, 101, 102, 103, 104, 133, 134, 135, 136, 137, 138, 105, 106, 107, 108, 109, 110, 111, 112, 113, 114, 115, 116, 117, 118, 119, 120, 121, 122, 123, 124, 125, 126, 127, 128, 129, 130, 131, 132, 139, 140, 141, 142, 143, 144, 145, 146, 147, 148, 149, 150, 151, 152, 153] (by decide +kernel) (by decide +kernel)) (goodIn_sub (fun _ h => List.mem_cons_of_mem _ (List.mem_append_right _ h)) (by decide +kernel))
set_option maxRecDepth 20000 in
theorem gX18_findFewest_X18_tryGroups : GoodIn wsX18_findFewest (wsV RX18 272 RX18 yX18_tryGroups wsX18_tryGroups) := goodIn_app (goodIn_of _ (by decide +kernel)) ggX18_findFewest_X18_tryGroups
theorem dX18_findFewest_0 : decode cX18_findFewest 0 = .ok (.aload_n 0, 1) := by decide +kernel
theorem dX18_findFewest_1 : decode cX18_findFewest 1 = .ok (.aload_n 1, 1) := by decide +kernel
theorem dX18_findFewest_2 : decode cX18_findFewest 2 = .ok (.aload_n 0, 1) := by decide +kernel
theorem dX18_findFewest_3 : decode cX18_findFewest 3 = .ok (.getfield 40, 3) := by decide +kernel
theorem dX18_findFewest_6 : decode cX18_findFewest 6 = .ok (.invokevirtual 235, 3) := by decide +kernel
theorem dX18_findFewest_9 : decode cX18_findFewest 9 = .ok (.aload_n 0, 1) := by decide +kernel
theorem dX18_findFewest_10 : decode cX18_findFewest 10 = .ok (.iconst 0, 1) := by decide +kernel
theorem dX18_findFewest_11 : decode cX18_findFewest 11 = .ok (.putfield 262, 3) := by decide +kernel
theorem dX18_findFewest_14 : decode cX18_findFewest 14 = .ok (.iconst 0, 1) := by decide +kernel
theorem dX18_findFewest_15 : decode cX18_findFewest 15 = .ok (.istore_n 2, 1) := by decide +kernel
theorem dX18_findFewest_16 : decode cX18_findFewest 16 = .ok (.iload_n 2, 1) := by decide +kernel
theorem dX18_findFewest_17 : decode cX18_findFewest 17 = .ok (.iconst 4, 1) := by decide +kernel
theorem dX18_findFewest_18 : decode cX18_findFewest 18 = .ok (.if_icmp .ge 147, 3) := by decide +kernel
theorem dX18_findFewest_21 : decode cX18_findFewest 21 = .ok (.iload_n 2, 1) := by decide +kernel
theorem dX18_findFewest_22 : decode cX18_findFewest 22 = .ok (.ifCond .eq 27, 3) := by decide +kernel
theorem dX18_findFewest_25 : decode cX18_findFewest 25 = .ok (.iload_n 2, 1) := by decide +kernel
theorem dX18_findFewest_26 : decode cX18_findFewest 26 = .ok (.iconst 1, 1) := by decide +kernel
theorem dX18_findFewest_27 : decode cX18_findFewest 27 = .ok (.if_icmp .ne 10, 3) := by decide +kernel
theorem dX18_findFewest_30 : decode cX18_findFewest 30 = .ok (.aload_n 1, 1) := by decide +kernel
theorem dX18_findFewest_31 : decode cX18_findFewest 31 = .ok (.getfield 171, 3) := by decide +kernel
theorem dX18_findFewest_34 : decode cX18_findFewest 34 = .ok (.ifCond .gt 15, 3) := by decide +kernel
theorem dX18_findFewest_37 : decode cX18_findFewest 37 = .ok (.iload_n 2, 1) := by decide +kernel
theorem dX18_findFewest_38 : decode cX18_findFewest 38 = .ok (.iconst 1, 1) := by decide +kernel
theorem dX18_findFewest_39 : decode cX18_findFewest 39 = .ok (.if_icmp .le 14, 3) := by decide +kernel
theorem dX18_findFewest_42 : decode cX18_findFewest 42 = .ok (.aload_n 1, 1) := by decide +kernel
theorem dX18_findFewest_43 : decode cX18_findFewest 43 = .ok (.getfield 102, 3) := by decide +kernel
theorem dX18_findFewest_46 : decode cX18_findFewest 46 = .ok (.ifCond .le 7, 3) := by decide +kernel
theorem dX18_findFewest_49 : decode cX18_findFewest 49 = .ok (.iconst 1, 1) := by decide +kernel
theorem dX18_findFewest_50 : decode cX18_findFewest 50 = .ok (.goto 4, 3) := by decide +kernel
theorem dX18_findFewest_53 : decode cX18_findFewest 53 = .ok (.iconst 0, 1) := by decide +kernel
theorem dX18_findFewest_54 : decode cX18_findFewest 54 = .ok (.istore_n 3, 1) := by decide +kernel
theorem dX18_findFewest_55 : decode cX18_findFewest 55 = .ok (.iload_n 3, 1) := by decide +kernel
theorem dX18_findFewest_56 : decode cX18_findFewest 56 = .ok (.ifCond .eq 103, 3) := by decide +kernel
theorem dX18_findFewest_59 : decode cX18_findFewest 59 = .ok (.aload_n 0, 1) := by decide +kernel
theorem dX18_findFewest_60 : decode cX18_findFewest 60 = .ok (.getfield 46, 3) := by decide +kernel
theorem dX18_findFewest_63 : decode cX18_findFewest 63 = .ok (.iload_n 2, 1) := by decide +kernel
theorem dX18_findFewest_64 : decode cX18_findFewest 64 = .ok (.iconst 2, 1) := by decide +kernel
theorem dX18_findFewest_65 : decode cX18_findFewest 65 = .ok (.if_icmp .ge 10, 3) := by decide +kernel
theorem dX18_findFewest_68 : decode cX18_findFewest 68 = .ok (.aload_n 1, 1) := by decide +kernel
theorem dX18_findFewest_69 : decode cX18_findFewest 69 = .ok (.getfield 102, 3) := by decide +kernel
theorem dX18_findFewest_72 : decode cX18_findFewest 72 = .ok (.goto 4, 3) := by decide +kernel
theorem dX18_findFewest_75 : decode cX18_findFewest 75 = .ok (.iconst 0, 1) := by decide +kernel
theorem dX18_findFewest_76 : decode cX18_findFewest 76 = .ok (.putfield 102, 3) := by decide +kernel
theorem dX18_findFewest_79 : decode cX18_findFewest 79 = .ok (.aload_n 0, 1) := by decide +kernel
theorem dX18_findFewest_80 : decode cX18_findFewest 80 = .ok (.getfield 46, 3) := by decide +kernel
theorem dX18_findFewest_83 : decode cX18_findFewest 83 = .ok (.iload_n 2, 1) := by decide +kernel
theorem dX18_findFewest_84 : decode cX18_findFewest 84 = .ok (.ifCond .ne 10, 3) := by decide +kernel
theorem dX18_findFewest_87 : decode cX18_findFewest 87 = .ok (.aload_n 1, 1) := by decide +kernel
theorem dX18_findFewest_88 : decode cX18_findFewest 88 = .ok (.getfield 171, 3) := by decide +kernel
theorem dX18_findFewest_91 : decode cX18_findFewest 91 = .ok (.goto 4, 3) := by decide +kernel
theorem dX18_findFewest_94 : decode cX18_findFewest 94 = .ok (.iconst 0, 1) := by decide +kernel
theorem dX18_findFewest_95 : decode cX18_findFewest 95 = .ok (.putfield 171, 3) := by decide +kernel
theorem dX18_findFewest_98 : decode cX18_findFewest 98 = .ok (.aload_n 0, 1) := by decide +kernel
theorem dX18_findFewest_99 : decode cX18_findFewest 99 = .ok (.getfield 46, 3) := by decide +kernel
theorem dX18_findFewest_102 : decode cX18_findFewest 102 = .ok (.iload_n 2, 1) := by decide +kernel
theorem dX18_findFewest_103 : decode cX18_findFewest 103 = .ok (.iconst 3, 1) := by decide +kernel
theorem dX18_findFewest_104 : decode cX18_findFewest 104 = .ok (.if_icmp .ne 10, 3) := by decide +kernel
theorem dX18_findFewest_107 : decode cX18_findFewest 107 = .ok (.aload_n 1, 1) := by decide +kernel
theorem dX18_findFewest_108 : decode cX18_findFewest 108 = .ok (.getfield 111, 3) := by decide +kernel
theorem dX18_findFewest_111 : decode cX18_findFewest 111 = .ok (.goto 7, 3) := by decide +kernel
theorem dX18_findFewest_114 : decode cX18_findFewest 114 = .ok (.aload_n 1, 1) := by decide +kernel
theorem dX18_findFewest_115 : decode cX18_findFewest 115 = .ok (.getfield 108, 3) := by decide +kernel
theorem dX18_findFewest_118 : decode cX18_findFewest 118 = .ok (.putfield 108, 3) := by decide +kernel
theorem dX18_findFewest_121 : decode cX18_findFewest 121 = .ok (.aload_n 0, 1) := by decide +kernel
theorem dX18_findFewest_122 : decode cX18_findFewest 122 = .ok (.getfield 46, 3) := by decide +kernel
theorem dX18_findFewest_125 : decode cX18_findFewest 125 = .ok (.iload_n 2, 1) := by decide +kernel
theorem dX18_findFewest_126 : decode cX18_findFewest 126 = .ok (.iconst 2, 1) := by decide +kernel
theorem dX18_findFewest_127 : decode cX18_findFewest 127 = .ok (.if_icmp .ge 10, 3) := by decide +kernel
theorem dX18_findFewest_130 : decode cX18_findFewest 130 = .ok (.aload_n 1, 1) := by decide +kernel
theorem dX18_findFewest_131 : decode cX18_findFewest 131 = .ok (.getfield 111, 3) := by decide +kernel
theorem dX18_findFewest_134 : decode cX18_findFewest 134 = .ok (.goto 4, 3) := by decide +kernel
theorem dX18_findFewest_137 : decode cX18_findFewest 137 = .ok (.iconst 0, 1) := by decide +kernel
theorem dX18_findFewest_138 : decode cX18_findFewest 138 = .ok (.putfield 111, 3) := by decide +kernel
theorem dX18_findFewest_141 : decode cX18_findFewest 141 = .ok (.aload_n 0, 1) := by decide +kernel
theorem dX18_findFewest_142 : decode cX18_findFewest 142 = .ok (.getfield 46, 3) := by decide +kernel
theorem dX18_findFewest_145 : decode cX18_findFewest 145 = .ok (.iconst 0, 1) := by decide +kernel
theorem dX18_findFewest_146 : decode cX18_findFewest 146 = .ok (.putfield 172, 3) := by decide +kernel
theorem dX18_findFewest_149 : decode cX18_findFewest 149 = .ok (.aload_n 0, 1) := by decide +kernel
theorem dX18_findFewest_150 : decode cX18_findFewest 150 = .ok (.aload_n 1, 1) := by decide +kernel
theorem dX18_findFewest_151 : decode cX18_findFewest 151 = .ok (.iconst 0, 1) := by decide +kernel
theorem dX18_findFewest_152 : decode cX18_findFewest 152 = .ok (.aload_n 0, 1) := by decide +kernel
theorem dX18_findFewest_153 : decode cX18_findFewest 153 = .ok (.getfield 40, 3) := by decide +kernel
theorem dX18_findFewest_156 : decode cX18_findFewest 156 = .ok (.invokevirtual 272, 3) := by decide +kernel
theorem dX18_findFewest_159 : decode cX18_findFewest 159 = .ok (.iinc 2 1, 3) := by decide +kernel
theorem dX18_findFewest_162 : decode cX18_findFewest 162 = .ok (.goto (-146), 3) := by decide +kernel
theorem dX18_findFewest_165 : decode cX18_findFewest 165 = .ok (.return_, 1) := by decide +kernel
set_option maxRecDepth 20000 in
theorem ggX18_fewest_X18_failsRow : GoodIn wsX18_fewest wsX18_failsRow := goodIn_ca (goodIn_r _ [7, 8, 9, 10, 11, 6, 12, 13, 14, 15, 1, 16, 17, 18, 19, 20, 21, 22, 23, 24, 25, 26, 27, 28, 29, 30, 31, 32, 33, 34, 35, 36, 37, 38, 39, 40, 41, 42, 43, 44, 45, 46, 47, 48, 49, 50, 51, 52, 53, 54, 55, 56, 57, 58, 59, 60, 61, 62, 63, 64, 65, 66, 67, 68, 69, 158, 159, 160, 161, 162, 163, 164, 165, 166, 167, 168, 169, 170, 171, 172, 173, 174, 175, 176, 177, 178, 179, 180, 181, 182, 183, 184, 185, 186, 187, 188, 189, 190, 191, 192, 193, 194, 195, 196, 197, 198, 199, 200, 201, 202, 203, 204, 205, 206] (by decide +kernel) (by decide +kernel)) (goodIn_sub (fun _ h => List.mem_cons_of_mem _ (List.mem_append_right _ h)) (by decide +kernel))
set_option maxRecDepth 20000 in
theorem gX18_fewest_X18_failsRow : GoodIn wsX18_fewest (wsV RX18 232 RX18 yX18_failsRow wsX18_failsRow) := goodIn_app (goodIn_of _ (by decide +kernel)) ggX18_fewest_X18_failsRow
set_option maxRecDepth 20000 in
theorem ggX18_fewest_X18_findFewest : GoodIn wsX18_fewest wsX18_findFewest := goodIn_ca (goodIn_r _ [73, 74, 2, 75, 76, 77, 78, 6, 79, 80, 81, 82, 83, 84, 85, 86, 87, 88, 89, 90, 91, 92, 93, 94, 95, 96, 97, 35, 36, 37, 98, 99, 100, 101, 102, 103, 104, 105, 106, 107, 108, 109, 110, 111, 112, 113, 114, 115, 116, 117, 118, 119, 120, 121, 122, 123, 124, 125, 126, 127, 128, 129, 130, 131, 132, 133, 134, 135, 136, 137, 138, 139, 140, 51, 52, 53, 15, 54, 25, 55, 24, 56, 57, 58, 59, 60, 22, 23, 141, 142, 143, 144, 145, 146, 147, 148, 149, 150, 151, 152, 153, 154, 155, 156, 157, 158, 159, 160, 161, 162, 163, 164, 165, 166, 167, 168, 169, 170, 171, 172, 173, 174, 175, 176, 177, 178, 179, 180, 181, 182, 183, 184, 185, 186, 187, 188, 189, 190, 191, 192, 193, 194, 195, 196, 197, 198, 199, 200, 201, 202, 203, 204, 205, 206] (by decide +kernel) (by decide +kernel)) (goodIn_sub (fun _ h => List.mem_cons_of_mem _ (List.mem_append_right _ h)) (by decide +kernel))
set_option maxRecDepth 20000 in
theorem gX18_fewest_X18_findFewest : GoodIn wsX18_fewest (wsV RX18 279 RX18 yX18_findFewest wsX18_findFewest) := goodIn_app (goodIn_of _ (by decide +kernel)) ggX18_fewest_X18_findFewest
theorem dX18_fewest_0 : decode cX18_fewest 0 = .ok (.aload_n 0, 1) := by decide +kernel
theorem dX18_fewest_1 : decode cX18_fewest 1 = .ok (.iconst 1, 1) := by decide +kernel
theorem dX18_fewest_2 : decode cX18_fewest 2 = .ok (.invokevirtual 232, 3) := by decide +kernel
theorem dX18_fewest_5 : decode cX18_fewest 5 = .ok (.ifCond .eq 5, 3) := by decide +kernel
theorem dX18_fewest_8 : decode cX18_fewest 8 = .ok (.iconst 0, 1) := by decide +kernel
theorem dX18_fewest_9 : decode cX18_fewest 9 = .ok (.ireturn, 1) := by decide +kernel
theorem dX18_fewest_10 : decode cX18_fewest 10 = .ok (.aload_n 0, 1) := by decide +kernel
theorem dX18_fewest_11 : decode cX18_fewest 11 = .ok (.aload_n 0, 1) := by decide +kernel
theorem dX18_fewest_12 : decode cX18_fewest 12 = .ok (.getfield 29, 3) := by decide +kernel
theorem dX18_fewest_15 : decode cX18_fewest 15 = .ok (.invokevirtual 279, 3) := by decide +kernel
theorem dX18_fewest_18 : decode cX18_fewest 18 = .ok (.aload_n 0, 1) := by decide +kernel
theorem dX18_fewest_19 : decode cX18_fewest 19 = .ok (.getfield 262, 3) := by decide +kernel
theorem dX18_fewest_22 : decode cX18_fewest 22 = .ok (.ireturn, 1) := by decide +kernel
set_option maxRecDepth 20000 in
theorem ggX18_fewestAt_X18_failsRow : GoodIn wsX18_fewestAt wsX18_failsRow := goodIn_ca (goodIn_r _ [8, 9, 10, 11, 12, 7, 13, 14, 15, 16, 1, 17, 18, 19, 20, 21, 22, 23, 24, 25, 26, 27, 28, 29, 30, 31, 32, 33, 34, 35, 36, 37, 38, 39, 40, 41, 42, 43, 44, 45, 46, 47, 48, 49, 50, 51, 52, 53, 54, 55, 56, 57, 58, 59, 60, 61, 62, 63, 64, 65, 66, 67, 68, 69, 70, 158, 159, 160, 161, 162, 163, 164, 165, 166, 167, 168, 169, 170, 171, 172, 173, 174, 175, 176, 177, 178, 179, 180, 181, 182, 183, 184, 185, 186, 187, 188, 189, 190, 191, 192, 193, 194, 195, 196, 197, 198, 199, 200, 201, 202, 203, 204, 205, 206] (by decide +kernel) (by decide +kernel)) (goodIn_sub (fun _ h => List.mem_cons_of_mem _ (List.mem_append_right _ h)) (by decide +kernel))
set_option maxRecDepth 20000 in
theorem gX18_fewestAt_X18_failsRow : GoodIn wsX18_fewestAt (wsV RX18 232 RX18 yX18_failsRow wsX18_failsRow) := goodIn_app (goodIn_of _ (by decide +kernel)) ggX18_fewestAt_X18_failsRow
set_option maxRecDepth 20000 in
theorem ggX18_fewestAt_X18_findFewest : GoodIn wsX18_fewestAt wsX18_findFewest := goodIn_ca (goodIn_r _ [74, 75, 2, 76, 77, 78, 79, 7, 80, 81, 82, 83, 84, 85, 86, 87, 88, 89, 90, 91, 92, 93, 94, 95, 96, 97, 98, 36, 37, 38, 99, 100, 101, 102, 103, 104, 105, 106, 107, 108, 109, 110, 111, 112, 113, 114, 115, 116, 117, 118, 119, 120, 121, 122, 123, 3, 124, 125, 126, 127, 128, 129, 130, 131, 132, 133, 134, 135, 136, 137, 138, 139, 140, 52, 53, 54, 16, 55, 26, 56, 25, 57, 58, 59, 60, 61, 23, 24, 141, 142, 143, 144, 145, 146, 147, 148, 149, 150, 151, 152, 153, 154, 155, 156, 157, 158, 159, 160, 161, 162, 163, 164, 165, 166, 167, 168, 169, 170, 171, 172, 173, 174, 175, 176, 177, 178, 179, 180, 181, 182, 183, 184, 185, 186, 187, 188, 189, 190, 191, 192, 193, 194, 195, 196, 197, 198, 199, 200, 201, 202, 203, 204, 205, 206] (by decide +kernel) (by decide +kernel)) (goodIn_sub (fun _ h => List.mem_cons_of_mem _ (List.mem_append_right _ h)) (by decide +kernel))
set_option maxRecDepth 20000 in
theorem gX18_fewestAt_X18_findFewest : GoodIn wsX18_fewestAt (wsV RX18 279 RX18 yX18_findFewest wsX18_findFewest) := goodIn_app (goodIn_of _ (by decide +kernel)) ggX18_fewestAt_X18_findFewest
set_option maxRecDepth 20000 in
theorem ggX18_fewestAt_X18_in : GoodIn wsX18_fewestAt wsX18_in := goodIn_r _ [38] (by decide +kernel) (by decide +kernel)
set_option maxRecDepth 20000 in
theorem gX18_fewestAt_X18_in : GoodIn wsX18_fewestAt (va_wsS RX18 77 yX18_in wsX18_in) := goodIn_app (goodIn_of _ (by decide +kernel)) ggX18_fewestAt_X18_in
set_option maxRecDepth 20000 in
theorem ggX18_fewestAt_X18_fails : GoodIn wsX18_fewestAt wsX18_fails := goodIn_r _ [69, 70, 158, 159, 160, 161, 162, 163, 164, 165, 166, 167, 168, 169, 170, 171, 172, 173, 174, 175, 176, 177, 178, 179, 180, 181, 182, 183, 184, 185] (by decide +kernel) (by decide +kernel)
set_option maxRecDepth 20000 in
theorem gX18_fewestAt_X18_fails : GoodIn wsX18_fewestAt (wsV RX18 84 RX18 yX18_fails wsX18_fails) := goodIn_app (goodIn_of _ (by decide +kernel)) ggX18_fewestAt_X18_fails
theorem dX18_fewestAt_0 : decode cX18_fewestAt 0 = .ok (.aload_n 0, 1) := by decide +kernel
theorem dX18_fewestAt_1 : decode cX18_fewestAt 1 = .ok (.iconst 1, 1) := by decide +kernel
theorem dX18_fewestAt_2 : decode cX18_fewestAt 2 = .ok (.invokevirtual 232, 3) := by decide +kernel
theorem dX18_fewestAt_5 : decode cX18_fewestAt 5 = .ok (.ifCond .eq 5, 3) := by decide +kernel
theorem dX18_fewestAt_8 : decode cX18_fewestAt 8 = .ok (.iconst 0, 1) := by decide +kernel
theorem dX18_fewestAt_9 : decode cX18_fewestAt 9 = .ok (.ireturn, 1) := by decide +kernel
theorem dX18_fewestAt_10 : decode cX18_fewestAt 10 = .ok (.aload_n 0, 1) := by decide +kernel
theorem dX18_fewestAt_11 : decode cX18_fewestAt 11 = .ok (.aload_n 0, 1) := by decide +kernel
theorem dX18_fewestAt_12 : decode cX18_fewestAt 12 = .ok (.getfield 29, 3) := by decide +kernel
theorem dX18_fewestAt_15 : decode cX18_fewestAt 15 = .ok (.invokevirtual 279, 3) := by decide +kernel
theorem dX18_fewestAt_18 : decode cX18_fewestAt 18 = .ok (.aload_n 0, 1) := by decide +kernel
theorem dX18_fewestAt_19 : decode cX18_fewestAt 19 = .ok (.iload_n 1, 1) := by decide +kernel
theorem dX18_fewestAt_20 : decode cX18_fewestAt 20 = .ok (.iconst 0, 1) := by decide +kernel
theorem dX18_fewestAt_21 : decode cX18_fewestAt 21 = .ok (.aload_n 0, 1) := by decide +kernel
theorem dX18_fewestAt_22 : decode cX18_fewestAt 22 = .ok (.getfield 262, 3) := by decide +kernel
theorem dX18_fewestAt_25 : decode cX18_fewestAt 25 = .ok (.iconst 1, 1) := by decide +kernel
theorem dX18_fewestAt_26 : decode cX18_fewestAt 26 = .ok (.isub, 1) := by decide +kernel
theorem dX18_fewestAt_27 : decode cX18_fewestAt 27 = .ok (.invokestatic 77, 3) := by decide +kernel
theorem dX18_fewestAt_30 : decode cX18_fewestAt 30 = .ok (.ifCond .eq 7, 3) := by decide +kernel
theorem dX18_fewestAt_33 : decode cX18_fewestAt 33 = .ok (.iconst 0, 1) := by decide +kernel
theorem dX18_fewestAt_34 : decode cX18_fewestAt 34 = .ok (.goto 4, 3) := by decide +kernel
theorem dX18_fewestAt_37 : decode cX18_fewestAt 37 = .ok (.iconst 2, 1) := by decide +kernel
theorem dX18_fewestAt_38 : decode cX18_fewestAt 38 = .ok (.invokevirtual 84, 3) := by decide +kernel
theorem dX18_fewestAt_41 : decode cX18_fewestAt 41 = .ok (.ifCond .eq 7, 3) := by decide +kernel
theorem dX18_fewestAt_44 : decode cX18_fewestAt 44 = .ok (.iconst 0, 1) := by decide +kernel
theorem dX18_fewestAt_45 : decode cX18_fewestAt 45 = .ok (.goto 9, 3) := by decide +kernel
theorem dX18_fewestAt_48 : decode cX18_fewestAt 48 = .ok (.aload_n 0, 1) := by decide +kernel
theorem dX18_fewestAt_49 : decode cX18_fewestAt 49 = .ok (.getfield 55, 3) := by decide +kernel
theorem dX18_fewestAt_52 : decode cX18_fewestAt 52 = .ok (.iload_n 1, 1) := by decide +kernel
theorem dX18_fewestAt_53 : decode cX18_fewestAt 53 = .ok (.iaload, 1) := by decide +kernel
theorem dX18_fewestAt_54 : decode cX18_fewestAt 54 = .ok (.ireturn, 1) := by decide +kernel
set_option maxRecDepth 20000 in
theorem ggX18_translate_X18_in : GoodIn wsX18_translate wsX18_in := goodIn_r _ [7] (by decide +kernel) (by decide +kernel)
set_option maxRecDepth 20000 in
theorem gX18_translate_X18_in : GoodIn wsX18_translate (va_wsS RX18 77 yX18_in wsX18_in) := goodIn_app (goodIn_of _ (by decide +kernel)) ggX18_translate_X18_in
set_option maxRecDepth 20000 in
theorem ggX18_translate_X18_say : GoodIn wsX18_translate wsX18_say := goodIn_ca (goodIn_r _ [11, 12, 1, 13, 14, 15, 16, 17, 18, 19, 20, 21, 22, 23, 24, 25, 26, 27, 28, 29, 30, 31, 32, 33, 34, 35, 36, 37, 38, 39, 40] (by decide +kernel) (by decide +kernel)) (goodIn_sub (fun _ h => List.mem_cons_of_mem _ (List.mem_append_right _ h)) (by decide +kernel))
set_option maxRecDepth 20000 in
theorem gX18_translate_X18_say : GoodIn wsX18_translate (wsV RX18 255 RX18 yX18_say wsX18_say) := goodIn_app (goodIn_of _ (by decide +kernel)) ggX18_translate_X18_say
theorem dX18_translate_0 : decode cX18_translate 0 = .ok (.aload_n 0, 1) := by decide +kernel
theorem dX18_translate_1 : decode cX18_translate 1 = .ok (.iconst 0, 1) := by decide +kernel
theorem dX18_translate_2 : decode cX18_translate 2 = .ok (.putfield 252, 3) := by decide +kernel
theorem dX18_translate_5 : decode cX18_translate 5 = .ok (.iconst 0, 1) := by decide +kernel
theorem dX18_translate_6 : decode cX18_translate 6 = .ok (.istore_n 2, 1) := by decide +kernel
theorem dX18_translate_7 : decode cX18_translate 7 = .ok (.iconst 0, 1) := by decide +kernel
theorem dX18_translate_8 : decode cX18_translate 8 = .ok (.istore_n 3, 1) := by decide +kernel
theorem dX18_translate_9 : decode cX18_translate 9 = .ok (.iload_n 3, 1) := by decide +kernel
theorem dX18_translate_10 : decode cX18_translate 10 = .ok (.aload_n 0, 1) := by decide +kernel
theorem dX18_translate_11 : decode cX18_translate 11 = .ok (.getfield 81, 3) := by decide +kernel
theorem dX18_translate_14 : decode cX18_translate 14 = .ok (.if_icmp .ge 135, 3) := by decide +kernel
theorem dX18_translate_17 : decode cX18_translate 17 = .ok (.aload_n 0, 1) := by decide +kernel
theorem dX18_translate_18 : decode cX18_translate 18 = .ok (.getfield 9, 3) := by decide +kernel
theorem dX18_translate_21 : decode cX18_translate 21 = .ok (.iload_n 3, 1) := by decide +kernel
theorem dX18_translate_22 : decode cX18_translate 22 = .ok (.iaload, 1) := by decide +kernel
theorem dX18_translate_23 : decode cX18_translate 23 = .ok (.istore 4, 2) := by decide +kernel
theorem dX18_translate_25 : decode cX18_translate 25 = .ok (.iload_n 1, 1) := by decide +kernel
theorem dX18_translate_26 : decode cX18_translate 26 = .ok (.iconst 1, 1) := by decide +kernel
theorem dX18_translate_27 : decode cX18_translate 27 = .ok (.if_icmp .ne 10, 3) := by decide +kernel
theorem dX18_translate_30 : decode cX18_translate 30 = .ok (.iload 4, 2) := by decide +kernel
theorem dX18_translate_32 : decode cX18_translate 32 = .ok (.bipush 8, 2) := by decide +kernel
theorem dX18_translate_34 : decode cX18_translate 34 = .ok (.if_icmp .eq 44, 3) := by decide +kernel
theorem dX18_translate_37 : decode cX18_translate 37 = .ok (.iload_n 1, 1) := by decide +kernel
theorem dX18_translate_38 : decode cX18_translate 38 = .ok (.iconst 2, 1) := by decide +kernel
theorem dX18_translate_39 : decode cX18_translate 39 = .ok (.if_icmp .ne 15, 3) := by decide +kernel
theorem dX18_translate_42 : decode cX18_translate 42 = .ok (.iload 4, 2) := by decide +kernel
theorem dX18_translate_44 : decode cX18_translate 44 = .ok (.bipush 9, 2) := by decide +kernel
theorem dX18_translate_46 : decode cX18_translate 46 = .ok (.bipush 10, 2) := by decide +kernel
theorem dX18_translate_48 : decode cX18_translate 48 = .ok (.invokestatic 77, 3) := by decide +kernel
theorem dX18_translate_51 : decode cX18_translate 51 = .ok (.ifCond .ne 27, 3) := by decide +kernel
theorem dX18_translate_54 : decode cX18_translate 54 = .ok (.iload_n 1, 1) := by decide +kernel
theorem dX18_translate_55 : decode cX18_translate 55 = .ok (.iconst 3, 1) := by decide +kernel
theorem dX18_translate_56 : decode cX18_translate 56 = .ok (.if_icmp .ne 26, 3) := by decide +kernel
theorem dX18_translate_59 : decode cX18_translate 59 = .ok (.iload 4, 2) := by decide +kernel
theorem dX18_translate_61 : decode cX18_translate 61 = .ok (.bipush 45, 2) := by decide +kernel
theorem dX18_translate_63 : decode cX18_translate 63 = .ok (.bipush 46, 2) := by decide +kernel
theorem dX18_translate_65 : decode cX18_translate 65 = .ok (.invokestatic 77, 3) := by decide +kernel
theorem dX18_translate_68 : decode cX18_translate 68 = .ok (.ifCond .ne 10, 3) := by decide +kernel
theorem dX18_translate_71 : decode cX18_translate 71 = .ok (.iload 4, 2) := by decide +kernel
theorem dX18_translate_73 : decode cX18_translate 73 = .ok (.bipush 39, 2) := by decide +kernel
theorem dX18_translate_75 : decode cX18_translate 75 = .ok (.if_icmp .ne 7, 3) := by decide +kernel
theorem dX18_translate_78 : decode cX18_translate 78 = .ok (.iconst 1, 1) := by decide +kernel
theorem dX18_translate_79 : decode cX18_translate 79 = .ok (.goto 4, 3) := by decide +kernel
theorem dX18_translate_82 : decode cX18_translate 82 = .ok (.iconst 0, 1) := by decide +kernel
theorem dX18_translate_83 : decode cX18_translate 83 = .ok (.istore 5, 2) := by decide +kernel
theorem dX18_translate_85 : decode cX18_translate 85 = .ok (.iload_n 2, 1) := by decide +kernel
theorem dX18_translate_86 : decode cX18_translate 86 = .ok (.iload 5, 2) := by decide +kernel
theorem dX18_translate_88 : decode cX18_translate 88 = .ok (.ifCond .eq 7, 3) := by decide +kernel
theorem dX18_translate_91 : decode cX18_translate 91 = .ok (.iconst 1, 1) := by decide +kernel
theorem dX18_translate_92 : decode cX18_translate 92 = .ok (.goto 4, 3) := by decide +kernel
theorem dX18_translate_95 : decode cX18_translate 95 = .ok (.iconst 0, 1) := by decide +kernel
theorem dX18_translate_96 : decode cX18_translate 96 = .ok (.iadd, 1) := by decide +kernel
theorem dX18_translate_97 : decode cX18_translate 97 = .ok (.istore_n 2, 1) := by decide +kernel
theorem dX18_translate_98 : decode cX18_translate 98 = .ok (.iload 5, 2) := by decide +kernel
theorem dX18_translate_100 : decode cX18_translate 100 = .ok (.ifCond .ne 12, 3) := by decide +kernel
theorem dX18_translate_103 : decode cX18_translate 103 = .ok (.aload_n 0, 1) := by decide +kernel
theorem dX18_translate_104 : decode cX18_translate 104 = .ok (.iload 4, 2) := by decide +kernel
theorem dX18_translate_106 : decode cX18_translate 106 = .ok (.invokevirtual 255, 3) := by decide +kernel
theorem dX18_translate_109 : decode cX18_translate 109 = .ok (.goto 34, 3) := by decide +kernel
theorem dX18_translate_112 : decode cX18_translate 112 = .ok (.iload 4, 2) := by decide +kernel
theorem dX18_translate_114 : decode cX18_translate 114 = .ok (.bipush 8, 2) := by decide +kernel
theorem dX18_translate_116 : decode cX18_translate 116 = .ok (.if_icmp .eq 10, 3) := by decide +kernel
theorem dX18_translate_119 : decode cX18_translate 119 = .ok (.iload 4, 2) := by decide +kernel
theorem dX18_translate_121 : decode cX18_translate 121 = .ok (.bipush 39, 2) := by decide +kernel
theorem dX18_translate_123 : decode cX18_translate 123 = .ok (.if_icmp .ne 20, 3) := by decide +kernel
theorem dX18_translate_126 : decode cX18_translate 126 = .ok (.aload_n 0, 1) := by decide +kernel
theorem dX18_translate_127 : decode cX18_translate 127 = .ok (.iload 4, 2) := by decide +kernel
theorem dX18_translate_129 : decode cX18_translate 129 = .ok (.bipush 8, 2) := by decide +kernel
theorem dX18_translate_131 : decode cX18_translate 131 = .ok (.if_icmp .ne 7, 3) := by decide +kernel
theorem dX18_translate_134 : decode cX18_translate 134 = .ok (.iconst 2, 1) := by decide +kernel
theorem dX18_translate_135 : decode cX18_translate 135 = .ok (.goto 5, 3) := by decide +kernel
theorem dX18_translate_138 : decode cX18_translate 138 = .ok (.bipush 69, 2) := by decide +kernel
theorem dX18_translate_140 : decode cX18_translate 140 = .ok (.invokevirtual 255, 3) := by decide +kernel
theorem dX18_translate_143 : decode cX18_translate 143 = .ok (.iinc 3 1, 3) := by decide +kernel
theorem dX18_translate_146 : decode cX18_translate 146 = .ok (.goto (-137), 3) := by decide +kernel
theorem dX18_translate_149 : decode cX18_translate 149 = .ok (.iload_n 2, 1) := by decide +kernel
theorem dX18_translate_150 : decode cX18_translate 150 = .ok (.ireturn, 1) := by decide +kernel
set_option maxRecDepth 20000 in
theorem ggX18_losses_X18_in : GoodIn wsX18_losses wsX18_in := goodIn_r _ [4] (by decide +kernel) (by decide +kernel)
set_option maxRecDepth 20000 in
theorem gX18_losses_X18_in : GoodIn wsX18_losses (va_wsS RX18 77 yX18_in wsX18_in) := goodIn_app (goodIn_of _ (by decide +kernel)) ggX18_losses_X18_in
set_option maxRecDepth 20000 in
theorem ggX18_losses_X18_fails : GoodIn wsX18_losses wsX18_fails := goodIn_r _ [8, 9, 79, 80, 81, 82, 83, 84, 85, 86, 87, 88, 89, 90, 91, 92, 93, 94, 95, 96, 97, 98, 99, 100, 101, 102, 103, 104, 105, 106] (by decide +kernel) (by decide +kernel)
set_option maxRecDepth 20000 in
theorem gX18_losses_X18_fails : GoodIn wsX18_losses (wsV RX18 84 RX18 yX18_fails wsX18_fails) := goodIn_app (goodIn_of _ (by decide +kernel)) ggX18_losses_X18_fails
set_option maxRecDepth 20000 in
theorem ggX18_losses_X18_failsRow : GoodIn wsX18_losses wsX18_failsRow := goodIn_ca (goodIn_r _ [13, 14, 15, 16, 17, 3, 18, 19, 20, 21, 22, 23, 24, 25, 26, 27, 28, 29, 30, 31, 32, 33, 34, 35, 36, 37, 38, 39, 40, 41, 1, 2, 4, 42, 43, 44, 45, 46, 47, 48, 49, 50, 51, 52, 53, 54, 55, 56, 57, 58, 59, 60, 61, 62, 63, 64, 65, 66, 67, 68, 5, 6, 7, 8, 9, 79, 80, 81, 82, 83, 84, 85, 86, 87, 88, 89, 90, 91, 92, 93, 94, 95, 96, 97, 98, 99, 100, 101, 102, 103, 104, 105, 106, 107, 108, 109, 110, 111, 112, 113, 114, 115, 116, 117, 118, 119, 120, 121, 122, 123, 124, 125, 126, 127] (by decide +kernel) (by decide +kernel)) (goodIn_sub (fun _ h => List.mem_cons_of_mem _ (List.mem_append_right _ h)) (by decide +kernel))
set_option maxRecDepth 20000 in
theorem gX18_losses_X18_failsRow : GoodIn wsX18_losses (wsV RX18 232 RX18 yX18_failsRow wsX18_failsRow) := goodIn_app (goodIn_of _ (by decide +kernel)) ggX18_losses_X18_failsRow
set_option maxRecDepth 20000 in
theorem ggX18_losses_X18_translate : GoodIn wsX18_losses wsX18_translate := goodIn_ca (goodIn_r _ [72, 73, 25, 41, 1, 2, 3, 4, 74, 75, 76, 77, 78, 79, 80, 81, 82, 83, 84, 85, 86, 87, 88, 89, 90, 91, 92, 93, 94, 95, 96, 97, 98, 99, 100, 101, 102, 103, 104, 105, 106] (by decide +kernel) (by decide +kernel)) (goodIn_sub (fun _ h => List.mem_cons_of_mem _ (List.mem_append_right _ h)) (by decide +kernel))
set_option maxRecDepth 20000 in
theorem gX18_losses_X18_translate : GoodIn wsX18_losses (wsV RX18 282 RX18 yX18_translate wsX18_translate) := goodIn_app (goodIn_of _ (by decide +kernel)) ggX18_losses_X18_translate
theorem dX18_losses_0 : decode cX18_losses 0 = .ok (.aload_n 0, 1) := by decide +kernel
theorem dX18_losses_1 : decode cX18_losses 1 = .ok (.iload_n 1, 1) := by decide +kernel
theorem dX18_losses_2 : decode cX18_losses 2 = .ok (.iconst 0, 1) := by decide +kernel
theorem dX18_losses_3 : decode cX18_losses 3 = .ok (.iconst 3, 1) := by decide +kernel
theorem dX18_losses_4 : decode cX18_losses 4 = .ok (.invokestatic 77, 3) := by decide +kernel
theorem dX18_losses_7 : decode cX18_losses 7 = .ok (.ifCond .eq 7, 3) := by decide +kernel
theorem dX18_losses_10 : decode cX18_losses 10 = .ok (.iconst 0, 1) := by decide +kernel
theorem dX18_losses_11 : decode cX18_losses 11 = .ok (.goto 4, 3) := by decide +kernel
theorem dX18_losses_14 : decode cX18_losses 14 = .ok (.iconst 1, 1) := by decide +kernel
theorem dX18_losses_15 : decode cX18_losses 15 = .ok (.invokevirtual 84, 3) := by decide +kernel
theorem dX18_losses_18 : decode cX18_losses 18 = .ok (.ifCond .ne 11, 3) := by decide +kernel
theorem dX18_losses_21 : decode cX18_losses 21 = .ok (.aload_n 0, 1) := by decide +kernel
theorem dX18_losses_22 : decode cX18_losses 22 = .ok (.iconst 2, 1) := by decide +kernel
theorem dX18_losses_23 : decode cX18_losses 23 = .ok (.invokevirtual 232, 3) := by decide +kernel
theorem dX18_losses_26 : decode cX18_losses 26 = .ok (.ifCond .eq 7, 3) := by decide +kernel
theorem dX18_losses_29 : decode cX18_losses 29 = .ok (.iconst 0, 1) := by decide +kernel
theorem dX18_losses_30 : decode cX18_losses 30 = .ok (.goto 8, 3) := by decide +kernel
theorem dX18_losses_33 : decode cX18_losses 33 = .ok (.aload_n 0, 1) := by decide +kernel
theorem dX18_losses_34 : decode cX18_losses 34 = .ok (.iload_n 1, 1) := by decide +kernel
theorem dX18_losses_35 : decode cX18_losses 35 = .ok (.invokevirtual 282, 3) := by decide +kernel
theorem dX18_losses_38 : decode cX18_losses 38 = .ok (.ireturn, 1) := by decide +kernel
set_option maxRecDepth 20000 in
theorem ggX18_translated_X18_in : GoodIn wsX18_translated wsX18_in := goodIn_r _ [6] (by decide +kernel) (by decide +kernel)
set_option maxRecDepth 20000 in
theorem gX18_translated_X18_in : GoodIn wsX18_translated (va_wsS RX18 77 yX18_in wsX18_in) := goodIn_app (goodIn_of _ (by decide +kernel)) ggX18_translated_X18_in
set_option maxRecDepth 20000 in
theorem ggX18_translated_X18_fails : GoodIn wsX18_translated wsX18_fails := goodIn_r _ [10, 11, 79, 80, 81, 82, 83, 84, 85, 86, 87, 88, 89, 90, 91, 92, 93, 94, 95, 96, 97, 98, 99, 100, 101, 102, 103, 104, 105, 106] (by decide +kernel) (by decide +kernel)
set_option maxRecDepth 20000 in
theorem gX18_translated_X18_fails : GoodIn wsX18_translated (wsV RX18 84 RX18 yX18_fails wsX18_fails) := goodIn_app (goodIn_of _ (by decide +kernel)) ggX18_translated_X18_fails
set_option maxRecDepth 20000 in
theorem ggX18_translated_X18_failsRow : GoodIn wsX18_translated wsX18_failsRow := goodIn_ca (goodIn_r _ [15, 16, 17, 18, 19, 5, 20, 21, 22, 23, 24, 25, 26, 27, 28, 29, 30, 31, 32, 33, 34, 35, 36, 37, 38, 39, 40, 41, 42, 43, 3, 4, 6, 44, 45, 46, 47, 48, 49, 50, 51, 52, 53, 54, 55, 56, 57, 58, 59, 60, 61, 62, 63, 64, 65, 66, 67, 68, 69, 70, 7, 8, 9, 10, 11, 79, 80, 81, 82, 83, 84, 85, 86, 87, 88, 89, 90, 91, 92, 93, 94, 95, 96, 97, 98, 99, 100, 101, 102, 103, 104, 105, 106, 107, 108, 109, 110, 111, 112, 113, 114, 115, 116, 117, 118, 119, 120, 121, 122, 123, 124, 125, 126, 127] (by decide +kernel) (by decide +kernel)) (goodIn_sub (fun _ h => List.mem_cons_of_mem _ (List.mem_append_right _ h)) (by decide +kernel))
set_option maxRecDepth 20000 in
theorem gX18_translated_X18_failsRow : GoodIn wsX18_translated (wsV RX18 232 RX18 yX18_failsRow wsX18_failsRow) := goodIn_app (goodIn_of _ (by decide +kernel)) ggX18_translated_X18_failsRow
set_option maxRecDepth 20000 in
theorem ggX18_translated_X18_translate : GoodIn wsX18_translated wsX18_translate := goodIn_ca (goodIn_r _ [74, 1, 27, 43, 3, 4, 5, 6, 75, 76, 77, 78, 2, 79, 80, 81, 82, 83, 84, 85, 86, 87, 88, 89, 90, 91, 92, 93, 94, 95, 96, 97, 98, 99, 100, 101, 102, 103, 104, 105, 106] (by decide +kernel) (by decide +kernel)) (goodIn_sub (fun _ h => List.mem_cons_of_mem _ (List.mem_append_right _ h)) (by decide +kernel))
set_option maxRecDepth 20000 in
theorem gX18_translated_X18_translate : GoodIn wsX18_translated (wsV RX18 282 RX18 yX18_translate wsX18_translate) := goodIn_app (goodIn_of _ (by decide +kernel)) ggX18_translated_X18_translate
theorem dX18_translated_0 : decode cX18_translated 0 = .ok (.aload_n 0, 1) := by decide +kernel
theorem dX18_translated_1 : decode cX18_translated 1 = .ok (.iload_n 1, 1) := by decide +kernel
theorem dX18_translated_2 : decode cX18_translated 2 = .ok (.iconst 0, 1) := by decide +kernel
theorem dX18_translated_3 : decode cX18_translated 3 = .ok (.iconst 3, 1) := by decide +kernel
theorem dX18_translated_4 : decode cX18_translated 4 = .ok (.invokestatic 77, 3) := by decide +kernel
theorem dX18_translated_7 : decode cX18_translated 7 = .ok (.ifCond .eq 7, 3) := by decide +kernel
theorem dX18_translated_10 : decode cX18_translated 10 = .ok (.iconst 0, 1) := by decide +kernel
theorem dX18_translated_11 : decode cX18_translated 11 = .ok (.goto 4, 3) := by decide +kernel
theorem dX18_translated_14 : decode cX18_translated 14 = .ok (.iconst 1, 1) := by decide +kernel
theorem dX18_translated_15 : decode cX18_translated 15 = .ok (.invokevirtual 84, 3) := by decide +kernel
theorem dX18_translated_18 : decode cX18_translated 18 = .ok (.ifCond .ne 11, 3) := by decide +kernel
theorem dX18_translated_21 : decode cX18_translated 21 = .ok (.aload_n 0, 1) := by decide +kernel
theorem dX18_translated_22 : decode cX18_translated 22 = .ok (.iconst 2, 1) := by decide +kernel
theorem dX18_translated_23 : decode cX18_translated 23 = .ok (.invokevirtual 232, 3) := by decide +kernel
theorem dX18_translated_26 : decode cX18_translated 26 = .ok (.ifCond .eq 5, 3) := by decide +kernel
theorem dX18_translated_29 : decode cX18_translated 29 = .ok (.iconst 0, 1) := by decide +kernel
theorem dX18_translated_30 : decode cX18_translated 30 = .ok (.ireturn, 1) := by decide +kernel
theorem dX18_translated_31 : decode cX18_translated 31 = .ok (.aload_n 0, 1) := by decide +kernel
theorem dX18_translated_32 : decode cX18_translated 32 = .ok (.iload_n 1, 1) := by decide +kernel
theorem dX18_translated_33 : decode cX18_translated 33 = .ok (.invokevirtual 282, 3) := by decide +kernel
theorem dX18_translated_36 : decode cX18_translated 36 = .ok (.istore_n 3, 1) := by decide +kernel
theorem dX18_translated_37 : decode cX18_translated 37 = .ok (.aload_n 0, 1) := by decide +kernel
theorem dX18_translated_38 : decode cX18_translated 38 = .ok (.iload_n 2, 1) := by decide +kernel
theorem dX18_translated_39 : decode cX18_translated 39 = .ok (.iconst 0, 1) := by decide +kernel
theorem dX18_translated_40 : decode cX18_translated 40 = .ok (.aload_n 0, 1) := by decide +kernel
theorem dX18_translated_41 : decode cX18_translated 41 = .ok (.getfield 252, 3) := by decide +kernel
theorem dX18_translated_44 : decode cX18_translated 44 = .ok (.iconst 1, 1) := by decide +kernel
theorem dX18_translated_45 : decode cX18_translated 45 = .ok (.isub, 1) := by decide +kernel
theorem dX18_translated_46 : decode cX18_translated 46 = .ok (.invokestatic 77, 3) := by decide +kernel
theorem dX18_translated_49 : decode cX18_translated 49 = .ok (.ifCond .eq 7, 3) := by decide +kernel
theorem dX18_translated_52 : decode cX18_translated 52 = .ok (.iconst 0, 1) := by decide +kernel
theorem dX18_translated_53 : decode cX18_translated 53 = .ok (.goto 4, 3) := by decide +kernel
theorem dX18_translated_56 : decode cX18_translated 56 = .ok (.iconst 3, 1) := by decide +kernel
theorem dX18_translated_57 : decode cX18_translated 57 = .ok (.invokevirtual 84, 3) := by decide +kernel
theorem dX18_translated_60 : decode cX18_translated 60 = .ok (.ifCond .eq 7, 3) := by decide +kernel
theorem dX18_translated_63 : decode cX18_translated 63 = .ok (.iconst 0, 1) := by decide +kernel
theorem dX18_translated_64 : decode cX18_translated 64 = .ok (.goto 9, 3) := by decide +kernel
theorem dX18_translated_67 : decode cX18_translated 67 = .ok (.aload_n 0, 1) := by decide +kernel
theorem dX18_translated_68 : decode cX18_translated 68 = .ok (.getfield 52, 3) := by decide +kernel
theorem dX18_translated_71 : decode cX18_translated 71 = .ok (.iload_n 2, 1) := by decide +kernel
theorem dX18_translated_72 : decode cX18_translated 72 = .ok (.iaload, 1) := by decide +kernel
theorem dX18_translated_73 : decode cX18_translated 73 = .ok (.ireturn, 1) := by decide +kernel
set_option maxRecDepth 20000 in
theorem ggX18_pass_X18_in : GoodIn wsX18_pass wsX18_in := goodIn_r _ [5] (by decide +kernel) (by decide +kernel)
set_option maxRecDepth 20000 in
theorem gX18_pass_X18_in : GoodIn wsX18_pass (va_wsS RX18 77 yX18_in wsX18_in) := goodIn_app (goodIn_of _ (by decide +kernel)) ggX18_pass_X18_in
set_option maxRecDepth 20000 in
theorem ggX18_pass_X18_fails : GoodIn wsX18_pass wsX18_fails := goodIn_r _ [9, 10, 11, 12, 13, 14, 15, 16, 17, 18, 19, 20, 21, 22, 23, 24, 25, 26, 27, 28, 29, 30, 31, 32, 33, 34, 35, 36, 37, 38] (by decide +kernel) (by decide +kernel)
set_option maxRecDepth 20000 in
theorem gX18_pass_X18_fails : GoodIn wsX18_pass (wsV RX18 84 RX18 yX18_fails wsX18_fails) := goodIn_app (goodIn_of _ (by decide +kernel)) ggX18_pass_X18_fails
theorem dX18_pass_0 : decode cX18_pass 0 = .ok (.aload_n 0, 1) := by decide +kernel
theorem dX18_pass_1 : decode cX18_pass 1 = .ok (.iload_n 1, 1) := by decide +kernel
theorem dX18_pass_2 : decode cX18_pass 2 = .ok (.iconst 1, 1) := by decide +kernel
theorem dX18_pass_3 : decode cX18_pass 3 = .ok (.bipush 100, 2) := by decide +kernel
theorem dX18_pass_5 : decode cX18_pass 5 = .ok (.invokestatic 77, 3) := by decide +kernel
theorem dX18_pass_8 : decode cX18_pass 8 = .ok (.ifCond .ne 7, 3) := by decide +kernel
theorem dX18_pass_11 : decode cX18_pass 11 = .ok (.iconst 1, 1) := by decide +kernel
theorem dX18_pass_12 : decode cX18_pass 12 = .ok (.goto 20, 3) := by decide +kernel
theorem dX18_pass_15 : decode cX18_pass 15 = .ok (.aload_n 0, 1) := by decide +kernel
theorem dX18_pass_16 : decode cX18_pass 16 = .ok (.getfield 285, 3) := by decide +kernel
theorem dX18_pass_19 : decode cX18_pass 19 = .ok (.iload_n 1, 1) := by decide +kernel
theorem dX18_pass_20 : decode cX18_pass 20 = .ok (.iadd, 1) := by decide +kernel
theorem dX18_pass_21 : decode cX18_pass 21 = .ok (.sipush 5000, 3) := by decide +kernel
theorem dX18_pass_24 : decode cX18_pass 24 = .ok (.if_icmp .le 7, 3) := by decide +kernel
theorem dX18_pass_27 : decode cX18_pass 27 = .ok (.iconst 2, 1) := by decide +kernel
theorem dX18_pass_28 : decode cX18_pass 28 = .ok (.goto 4, 3) := by decide +kernel
theorem dX18_pass_31 : decode cX18_pass 31 = .ok (.iconst 0, 1) := by decide +kernel
theorem dX18_pass_32 : decode cX18_pass 32 = .ok (.invokevirtual 84, 3) := by decide +kernel
theorem dX18_pass_35 : decode cX18_pass 35 = .ok (.ifCond .eq 5, 3) := by decide +kernel
theorem dX18_pass_38 : decode cX18_pass 38 = .ok (.iconst 0, 1) := by decide +kernel
theorem dX18_pass_39 : decode cX18_pass 39 = .ok (.ireturn, 1) := by decide +kernel
theorem dX18_pass_40 : decode cX18_pass 40 = .ok (.aload_n 0, 1) := by decide +kernel
theorem dX18_pass_41 : decode cX18_pass 41 = .ok (.dup, 1) := by decide +kernel
theorem dX18_pass_42 : decode cX18_pass 42 = .ok (.getfield 285, 3) := by decide +kernel
theorem dX18_pass_45 : decode cX18_pass 45 = .ok (.iload_n 1, 1) := by decide +kernel
theorem dX18_pass_46 : decode cX18_pass 46 = .ok (.iadd, 1) := by decide +kernel
theorem dX18_pass_47 : decode cX18_pass 47 = .ok (.putfield 285, 3) := by decide +kernel
theorem dX18_pass_50 : decode cX18_pass 50 = .ok (.aload_n 0, 1) := by decide +kernel
theorem dX18_pass_51 : decode cX18_pass 51 = .ok (.getfield 285, 3) := by decide +kernel
theorem dX18_pass_54 : decode cX18_pass 54 = .ok (.ireturn, 1) := by decide +kernel
set_option maxRecDepth 20000 in
theorem ggX18_isPerson_Jx4a65c_size_8abf5 : GoodIn wsX18_isPerson wsJx4a65c_size_8abf5 := goodIn_r _ [6, 7, 40, 41, 42] (by decide +kernel) (by decide +kernel)
set_option maxRecDepth 20000 in
theorem gX18_isPerson_Jx4a65c_size_8abf5 : GoodIn wsX18_isPerson (wsV RX18 288 RJx4a65c yJx4a65c_size_8abf5 wsJx4a65c_size_8abf5) := goodIn_app (goodIn_of _ (by decide +kernel)) ggX18_isPerson_Jx4a65c_size_8abf5
set_option maxRecDepth 20000 in
theorem ggX18_isPerson_X18_in : GoodIn wsX18_isPerson wsX18_in := goodIn_r _ [11] (by decide +kernel) (by decide +kernel)
set_option maxRecDepth 20000 in
theorem gX18_isPerson_X18_in : GoodIn wsX18_isPerson (va_wsS RX18 77 yX18_in wsX18_in) := goodIn_app (goodIn_of _ (by decide +kernel)) ggX18_isPerson_X18_in
theorem dX18_isPerson_0 : decode cX18_isPerson 0 = .ok (.iload_n 1, 1) := by decide +kernel
theorem dX18_isPerson_1 : decode cX18_isPerson 1 = .ok (.iconst 0, 1) := by decide +kernel
theorem dX18_isPerson_2 : decode cX18_isPerson 2 = .ok (.aload_n 0, 1) := by decide +kernel
theorem dX18_isPerson_3 : decode cX18_isPerson 3 = .ok (.getfield 16, 3) := by decide +kernel
theorem dX18_isPerson_6 : decode cX18_isPerson 6 = .ok (.invokevirtual 288, 3) := by decide +kernel
theorem dX18_isPerson_9 : decode cX18_isPerson 9 = .ok (.iconst 1, 1) := by decide +kernel
theorem dX18_isPerson_10 : decode cX18_isPerson 10 = .ok (.isub, 1) := by decide +kernel
theorem dX18_isPerson_11 : decode cX18_isPerson 11 = .ok (.invokestatic 77, 3) := by decide +kernel
theorem dX18_isPerson_14 : decode cX18_isPerson 14 = .ok (.ireturn, 1) := by decide +kernel
set_option maxRecDepth 20000 in
theorem ggX18_failsPerson_X18_isPerson : GoodIn wsX18_failsPerson wsX18_isPerson := goodIn_r _ [5, 6, 7, 8, 9, 10, 11, 12, 13, 14, 4, 15, 21, 22, 23, 24, 25, 26, 27, 28, 29, 30, 31, 32, 33, 34, 35, 36, 37, 38, 39, 40, 41, 42, 43, 44, 45, 46, 47, 48, 49, 50, 51] (by decide +kernel) (by decide +kernel)
set_option maxRecDepth 20000 in
theorem gX18_failsPerson_X18_isPerson : GoodIn wsX18_failsPerson (wsV RX18 291 RX18 yX18_isPerson wsX18_isPerson) := goodIn_app (goodIn_of _ (by decide +kernel)) ggX18_failsPerson_X18_isPerson
set_option maxRecDepth 20000 in
theorem ggX18_failsPerson_X18_fails : GoodIn wsX18_failsPerson wsX18_fails := goodIn_r _ [19, 20, 21, 22, 23, 24, 25, 26, 27, 28, 29, 30, 31, 32, 33, 34, 35, 36, 37, 38, 39, 40, 41, 42, 43, 44, 45, 46, 47, 48] (by decide +kernel) (by decide +kernel)
set_option maxRecDepth 20000 in
theorem gX18_failsPerson_X18_fails : GoodIn wsX18_failsPerson (wsV RX18 84 RX18 yX18_fails wsX18_fails) := goodIn_app (goodIn_of _ (by decide +kernel)) ggX18_failsPerson_X18_fails
theorem dX18_failsPerson_0 : decode cX18_failsPerson 0 = .ok (.aload_n 0, 1) := by decide +kernel
theorem dX18_failsPerson_1 : decode cX18_failsPerson 1 = .ok (.aload_n 0, 1) := by decide +kernel
theorem dX18_failsPerson_2 : decode cX18_failsPerson 2 = .ok (.iload_n 1, 1) := by decide +kernel
theorem dX18_failsPerson_3 : decode cX18_failsPerson 3 = .ok (.invokevirtual 291, 3) := by decide +kernel
theorem dX18_failsPerson_6 : decode cX18_failsPerson 6 = .ok (.ifCond .eq 7, 3) := by decide +kernel
theorem dX18_failsPerson_9 : decode cX18_failsPerson 9 = .ok (.iconst 0, 1) := by decide +kernel
theorem dX18_failsPerson_10 : decode cX18_failsPerson 10 = .ok (.goto 4, 3) := by decide +kernel
theorem dX18_failsPerson_13 : decode cX18_failsPerson 13 = .ok (.iconst 1, 1) := by decide +kernel
theorem dX18_failsPerson_14 : decode cX18_failsPerson 14 = .ok (.invokevirtual 84, 3) := by decide +kernel
theorem dX18_failsPerson_17 : decode cX18_failsPerson 17 = .ok (.ireturn, 1) := by decide +kernel
set_option maxRecDepth 20000 in
theorem ggX18_birth_X18_isPerson : GoodIn wsX18_birth wsX18_isPerson := goodIn_r _ [10, 1, 11, 12, 13, 14, 15, 16, 17, 18, 9, 19, 107, 108, 109, 110, 111, 112, 113, 114, 115, 116, 117, 118, 119, 120, 121, 122, 123, 124, 125, 126, 127, 128, 129, 130, 131, 132, 133, 134, 150, 151, 152] (by decide +kernel) (by decide +kernel)
set_option maxRecDepth 20000 in
theorem gX18_birth_X18_isPerson : GoodIn wsX18_birth (wsV RX18 291 RX18 yX18_isPerson wsX18_isPerson) := goodIn_app (goodIn_of _ (by decide +kernel)) ggX18_birth_X18_isPerson
set_option maxRecDepth 20000 in
theorem ggX18_birth_X18_fails : GoodIn wsX18_birth wsX18_fails := goodIn_r _ [23, 24, 107, 108, 109, 110, 111, 112, 113, 114, 115, 116, 117, 118, 119, 120, 121, 122, 123, 124, 125, 126, 127, 128, 129, 130, 131, 132, 133, 134] (by decide +kernel) (by decide +kernel)
set_option maxRecDepth 20000 in
theorem gX18_birth_X18_fails : GoodIn wsX18_birth (wsV RX18 84 RX18 yX18_fails wsX18_fails) := goodIn_app (goodIn_of _ (by decide +kernel)) ggX18_birth_X18_fails
set_option maxRecDepth 20000 in
theorem ggX18_birth_Jx4a65c_get_915e3 : GoodIn wsX18_birth wsJx4a65c_get_915e3 := goodIn_r _ [28, 16, 29, 30, 31, 32, 33, 34, 35, 36, 37, 38, 39, 14, 40, 41, 150, 151, 152] (by decide +kernel) (by decide +kernel)
set_option maxRecDepth 20000 in
theorem gX18_birth_Jx4a65c_get_915e3 : GoodIn wsX18_birth (wsV RX18 294 RJx4a65c yJx4a65c_get_915e3 wsJx4a65c_get_915e3) := goodIn_app (goodIn_of _ (by decide +kernel)) ggX18_birth_Jx4a65c_get_915e3
set_option maxRecDepth 20000 in
theorem ggX18_birth_Jx4a65c_size_8abf5 : GoodIn wsX18_birth wsJx4a65c_size_8abf5 := goodIn_r _ [15, 16, 150, 151, 152] (by decide +kernel) (by decide +kernel)
set_option maxRecDepth 20000 in
theorem gX18_birth_Jx4a65c_size_8abf5 : GoodIn wsX18_birth (wsV RX18 288 RJx4a65c yJx4a65c_size_8abf5 wsJx4a65c_size_8abf5) := goodIn_app (goodIn_of _ (by decide +kernel)) ggX18_birth_Jx4a65c_size_8abf5
set_option maxRecDepth 20000 in
theorem ggX18_birth_X17_init : GoodIn wsX18_birth wsX17_init := goodIn_r _ [44, 45, 46, 47, 48, 49, 50, 51, 52, 53, 135, 136, 137, 138, 139, 140, 141, 142, 143, 144, 145, 146, 147, 148, 149] (by decide +kernel) (by decide +kernel)
set_option maxRecDepth 20000 in
theorem gX18_birth_X17_init : GoodIn wsX18_birth (wsX17_init) := ggX18_birth_X17_init
set_option maxRecDepth 20000 in
theorem ggX18_birth_Jx4a65c_add_9ea2d : GoodIn wsX18_birth wsJx4a65c_add_9ea2d := goodIn_r _ [57, 58, 59, 41, 16, 60, 61, 62, 14, 63, 64, 65, 66, 67, 68, 69, 70, 71, 72, 73, 74, 75, 76, 77, 78, 79, 80, 81, 82, 83, 84, 85, 86, 87, 88, 89, 90, 91, 92, 93, 94, 95, 96, 97, 98, 99, 100, 101, 102, 103, 104, 105, 106, 150, 151, 152] (by decide +kernel) (by decide +kernel)
set_option maxRecDepth 20000 in
theorem gX18_birth_Jx4a65c_add_9ea2d : GoodIn wsX18_birth (wsV RX18 306 RJx4a65c yJx4a65c_add_9ea2d wsJx4a65c_add_9ea2d) := goodIn_app (goodIn_of _ (by decide +kernel)) ggX18_birth_Jx4a65c_add_9ea2d
theorem dX18_birth_0 : decode cX18_birth 0 = .ok (.iload_n 1, 1) := by decide +kernel
theorem dX18_birth_1 : decode cX18_birth 1 = .ok (.iconst (-1), 1) := by decide +kernel
theorem dX18_birth_2 : decode cX18_birth 2 = .ok (.if_icmp .eq 11, 3) := by decide +kernel
theorem dX18_birth_5 : decode cX18_birth 5 = .ok (.aload_n 0, 1) := by decide +kernel
theorem dX18_birth_6 : decode cX18_birth 6 = .ok (.iload_n 1, 1) := by decide +kernel
theorem dX18_birth_7 : decode cX18_birth 7 = .ok (.invokevirtual 291, 3) := by decide +kernel
theorem dX18_birth_10 : decode cX18_birth 10 = .ok (.ifCond .eq 20, 3) := by decide +kernel
theorem dX18_birth_13 : decode cX18_birth 13 = .ok (.iload_n 2, 1) := by decide +kernel
theorem dX18_birth_14 : decode cX18_birth 14 = .ok (.iconst (-1), 1) := by decide +kernel
theorem dX18_birth_15 : decode cX18_birth 15 = .ok (.if_icmp .eq 11, 3) := by decide +kernel
theorem dX18_birth_18 : decode cX18_birth 18 = .ok (.aload_n 0, 1) := by decide +kernel
theorem dX18_birth_19 : decode cX18_birth 19 = .ok (.iload_n 2, 1) := by decide +kernel
theorem dX18_birth_20 : decode cX18_birth 20 = .ok (.invokevirtual 291, 3) := by decide +kernel
theorem dX18_birth_23 : decode cX18_birth 23 = .ok (.ifCond .eq 7, 3) := by decide +kernel
theorem dX18_birth_26 : decode cX18_birth 26 = .ok (.iconst 1, 1) := by decide +kernel
theorem dX18_birth_27 : decode cX18_birth 27 = .ok (.goto 4, 3) := by decide +kernel
theorem dX18_birth_30 : decode cX18_birth 30 = .ok (.iconst 0, 1) := by decide +kernel
theorem dX18_birth_31 : decode cX18_birth 31 = .ok (.istore 4, 2) := by decide +kernel
theorem dX18_birth_33 : decode cX18_birth 33 = .ok (.aload_n 0, 1) := by decide +kernel
theorem dX18_birth_34 : decode cX18_birth 34 = .ok (.iload 4, 2) := by decide +kernel
theorem dX18_birth_36 : decode cX18_birth 36 = .ok (.ifCond .eq 7, 3) := by decide +kernel
theorem dX18_birth_39 : decode cX18_birth 39 = .ok (.iconst 0, 1) := by decide +kernel
theorem dX18_birth_40 : decode cX18_birth 40 = .ok (.goto 4, 3) := by decide +kernel
theorem dX18_birth_43 : decode cX18_birth 43 = .ok (.iconst 1, 1) := by decide +kernel
theorem dX18_birth_44 : decode cX18_birth 44 = .ok (.invokevirtual 84, 3) := by decide +kernel
theorem dX18_birth_47 : decode cX18_birth 47 = .ok (.ifCond .eq 5, 3) := by decide +kernel
theorem dX18_birth_50 : decode cX18_birth 50 = .ok (.iconst 0, 1) := by decide +kernel
theorem dX18_birth_51 : decode cX18_birth 51 = .ok (.ireturn, 1) := by decide +kernel
theorem dX18_birth_52 : decode cX18_birth 52 = .ok (.iload_n 1, 1) := by decide +kernel
theorem dX18_birth_53 : decode cX18_birth 53 = .ok (.ifCond .lt 20, 3) := by decide +kernel
theorem dX18_birth_56 : decode cX18_birth 56 = .ok (.aload_n 0, 1) := by decide +kernel
theorem dX18_birth_57 : decode cX18_birth 57 = .ok (.getfield 16, 3) := by decide +kernel
theorem dX18_birth_60 : decode cX18_birth 60 = .ok (.iload_n 1, 1) := by decide +kernel
theorem dX18_birth_61 : decode cX18_birth 61 = .ok (.invokevirtual 294, 3) := by decide +kernel
theorem dX18_birth_64 : decode cX18_birth 64 = .ok (.checkcast 298, 3) := by decide +kernel
theorem dX18_birth_67 : decode cX18_birth 67 = .ok (.getfield 300, 3) := by decide +kernel
theorem dX18_birth_70 : decode cX18_birth 70 = .ok (.ifCond .eq 28, 3) := by decide +kernel
theorem dX18_birth_73 : decode cX18_birth 73 = .ok (.iload_n 2, 1) := by decide +kernel
theorem dX18_birth_74 : decode cX18_birth 74 = .ok (.ifCond .lt 20, 3) := by decide +kernel
theorem dX18_birth_77 : decode cX18_birth 77 = .ok (.aload_n 0, 1) := by decide +kernel
theorem dX18_birth_78 : decode cX18_birth 78 = .ok (.getfield 16, 3) := by decide +kernel
theorem dX18_birth_81 : decode cX18_birth 81 = .ok (.iload_n 2, 1) := by decide +kernel
theorem dX18_birth_82 : decode cX18_birth 82 = .ok (.invokevirtual 294, 3) := by decide +kernel
theorem dX18_birth_85 : decode cX18_birth 85 = .ok (.checkcast 298, 3) := by decide +kernel
theorem dX18_birth_88 : decode cX18_birth 88 = .ok (.getfield 300, 3) := by decide +kernel
theorem dX18_birth_91 : decode cX18_birth 91 = .ok (.ifCond .ne 7, 3) := by decide +kernel
theorem dX18_birth_94 : decode cX18_birth 94 = .ok (.iconst 1, 1) := by decide +kernel
theorem dX18_birth_95 : decode cX18_birth 95 = .ok (.goto 4, 3) := by decide +kernel
theorem dX18_birth_98 : decode cX18_birth 98 = .ok (.iconst 0, 1) := by decide +kernel
theorem dX18_birth_99 : decode cX18_birth 99 = .ok (.istore 5, 2) := by decide +kernel
theorem dX18_birth_101 : decode cX18_birth 101 = .ok (.aload_n 0, 1) := by decide +kernel
theorem dX18_birth_102 : decode cX18_birth 102 = .ok (.iload 5, 2) := by decide +kernel
theorem dX18_birth_104 : decode cX18_birth 104 = .ok (.ifCond .ne 7, 3) := by decide +kernel
theorem dX18_birth_107 : decode cX18_birth 107 = .ok (.iconst 2, 1) := by decide +kernel
theorem dX18_birth_108 : decode cX18_birth 108 = .ok (.goto 20, 3) := by decide +kernel
theorem dX18_birth_111 : decode cX18_birth 111 = .ok (.aload_n 0, 1) := by decide +kernel
theorem dX18_birth_112 : decode cX18_birth 112 = .ok (.getfield 16, 3) := by decide +kernel
theorem dX18_birth_115 : decode cX18_birth 115 = .ok (.invokevirtual 288, 3) := by decide +kernel
theorem dX18_birth_118 : decode cX18_birth 118 = .ok (.bipush 40, 2) := by decide +kernel
theorem dX18_birth_120 : decode cX18_birth 120 = .ok (.if_icmp .ne 7, 3) := by decide +kernel
theorem dX18_birth_123 : decode cX18_birth 123 = .ok (.iconst 3, 1) := by decide +kernel
theorem dX18_birth_124 : decode cX18_birth 124 = .ok (.goto 4, 3) := by decide +kernel
theorem dX18_birth_127 : decode cX18_birth 127 = .ok (.iconst 0, 1) := by decide +kernel
theorem dX18_birth_128 : decode cX18_birth 128 = .ok (.invokevirtual 84, 3) := by decide +kernel
theorem dX18_birth_131 : decode cX18_birth 131 = .ok (.ifCond .eq 5, 3) := by decide +kernel
theorem dX18_birth_134 : decode cX18_birth 134 = .ok (.iconst 0, 1) := by decide +kernel
theorem dX18_birth_135 : decode cX18_birth 135 = .ok (.ireturn, 1) := by decide +kernel
theorem dX18_birth_136 : decode cX18_birth 136 = .ok (.aload_n 0, 1) := by decide +kernel
theorem dX18_birth_137 : decode cX18_birth 137 = .ok (.getfield 16, 3) := by decide +kernel
theorem dX18_birth_140 : decode cX18_birth 140 = .ok (.new 298, 3) := by decide +kernel
theorem dX18_birth_143 : decode cX18_birth 143 = .ok (.dup, 1) := by decide +kernel
theorem dX18_birth_144 : decode cX18_birth 144 = .ok (.aload_n 0, 1) := by decide +kernel
theorem dX18_birth_145 : decode cX18_birth 145 = .ok (.getfield 16, 3) := by decide +kernel
theorem dX18_birth_148 : decode cX18_birth 148 = .ok (.invokevirtual 288, 3) := by decide +kernel
theorem dX18_birth_151 : decode cX18_birth 151 = .ok (.iload_n 1, 1) := by decide +kernel
theorem dX18_birth_152 : decode cX18_birth 152 = .ok (.iload_n 2, 1) := by decide +kernel
theorem dX18_birth_153 : decode cX18_birth 153 = .ok (.iload_n 3, 1) := by decide +kernel
theorem dX18_birth_154 : decode cX18_birth 154 = .ok (.invokespecial 303, 3) := by decide +kernel
theorem dX18_birth_157 : decode cX18_birth 157 = .ok (.invokevirtual 306, 3) := by decide +kernel
theorem dX18_birth_160 : decode cX18_birth 160 = .ok (.istore 6, 2) := by decide +kernel
theorem dX18_birth_162 : decode cX18_birth 162 = .ok (.aload_n 0, 1) := by decide +kernel
theorem dX18_birth_163 : decode cX18_birth 163 = .ok (.getfield 16, 3) := by decide +kernel
theorem dX18_birth_166 : decode cX18_birth 166 = .ok (.invokevirtual 288, 3) := by decide +kernel
theorem dX18_birth_169 : decode cX18_birth 169 = .ok (.iconst 1, 1) := by decide +kernel
theorem dX18_birth_170 : decode cX18_birth 170 = .ok (.isub, 1) := by decide +kernel
theorem dX18_birth_171 : decode cX18_birth 171 = .ok (.ireturn, 1) := by decide +kernel
theorem dX18_isSonOf_0 : decode cX18_isSonOf 0 = .ok (.aload_n 1, 1) := by decide +kernel
theorem dX18_isSonOf_1 : decode cX18_isSonOf 1 = .ok (.getfield 300, 3) := by decide +kernel
theorem dX18_isSonOf_4 : decode cX18_isSonOf 4 = .ok (.ifCond .eq 15, 3) := by decide +kernel
theorem dX18_isSonOf_7 : decode cX18_isSonOf 7 = .ok (.aload_n 1, 1) := by decide +kernel
theorem dX18_isSonOf_8 : decode cX18_isSonOf 8 = .ok (.getfield 310, 3) := by decide +kernel
theorem dX18_isSonOf_11 : decode cX18_isSonOf 11 = .ok (.iload_n 2, 1) := by decide +kernel
theorem dX18_isSonOf_12 : decode cX18_isSonOf 12 = .ok (.if_icmp .ne 7, 3) := by decide +kernel
theorem dX18_isSonOf_15 : decode cX18_isSonOf 15 = .ok (.iconst 1, 1) := by decide +kernel
theorem dX18_isSonOf_16 : decode cX18_isSonOf 16 = .ok (.goto 4, 3) := by decide +kernel
theorem dX18_isSonOf_19 : decode cX18_isSonOf 19 = .ok (.iconst 0, 1) := by decide +kernel
theorem dX18_isSonOf_20 : decode cX18_isSonOf 20 = .ok (.ireturn, 1) := by decide +kernel
set_option maxRecDepth 20000 in
theorem ggX18_countLine_Jx4a65c_iterator_32c93 : GoodIn wsX18_countLine wsJx4a65c_iterator_32c93 := goodIn_r _ [7, 8, 9, 10, 11, 12, 13, 14, 15, 16, 17, 18, 19, 20, 21, 87, 88, 89, 90, 91, 92, 93] (by decide +kernel) (by decide +kernel)
set_option maxRecDepth 20000 in
theorem gX18_countLine_Jx4a65c_iterator_32c93 : GoodIn wsX18_countLine (wsV RX18 313 RJx4a65c yJx4a65c_iterator_32c93 wsJx4a65c_iterator_32c93) := goodIn_app (goodIn_of _ (by decide +kernel)) ggX18_countLine_Jx4a65c_iterator_32c93
set_option maxRecDepth 20000 in
theorem ggX18_countLine_Jx35411_hasNext_aae02 : GoodIn wsX18_countLine wsJx35411_hasNext_aae02 := goodIn_r _ [25, 26, 14, 87, 88, 89, 90, 91, 92, 93] (by decide +kernel) (by decide +kernel)
set_option maxRecDepth 20000 in
theorem gX18_countLine_Jx35411_hasNext_aae02_f317Jx35411 : GoodIn wsX18_countLine (va_wsF RX18 317 RJx35411 ⟨"java/util/Iterator", "hasNext", "()Z"⟩ yJx35411_hasNext_aae02 wsJx35411_hasNext_aae02) := goodIn_app (goodIn_of _ (by decide +kernel)) ggX18_countLine_Jx35411_hasNext_aae02
set_option maxRecDepth 20000 in
theorem ggX18_countLine_Jx35411_next_0502b : GoodIn wsX18_countLine wsJx35411_next_0502b := goodIn_r _ [30, 26, 14, 31, 18, 32, 33, 34, 10, 35, 19, 20, 21, 87, 88, 89, 90, 91, 92, 93] (by decide +kernel) (by decide +kernel)
set_option maxRecDepth 20000 in
theorem gX18_countLine_Jx35411_next_0502b_f322Jx35411 : GoodIn wsX18_countLine (va_wsF RX18 322 RJx35411 ⟨"java/util/Iterator", "next", "()Ljava/lang/Object;"⟩ yJx35411_next_0502b wsJx35411_next_0502b) := goodIn_app (goodIn_of _ (by decide +kernel)) ggX18_countLine_Jx35411_next_0502b
set_option maxRecDepth 20000 in
theorem ggX18_countLine_X18_isSonOf : GoodIn wsX18_countLine wsX18_isSonOf := goodIn_r _ [40, 72, 73, 74, 75, 76, 77, 78, 79, 80, 81, 82, 83, 84, 85, 86] (by decide +kernel) (by decide +kernel)
set_option maxRecDepth 20000 in
theorem gX18_countLine_X18_isSonOf : GoodIn wsX18_countLine (wsV RX18 326 RX18 yX18_isSonOf wsX18_isSonOf) := goodIn_app (goodIn_of _ (by decide +kernel)) ggX18_countLine_X18_isSonOf
set_option maxRecDepth 20000 in
theorem ggX18_countLine_X18_countLine : GoodIn wsX18_countLine wsX18_countLine := goodIn_r _ [0, 1, 2, 3, 4, 5, 6, 7, 8, 9, 10, 11, 12, 13, 14, 15, 16, 17, 18, 19, 20, 21, 22, 23, 24, 25, 26, 27, 28, 29, 30, 31, 32, 33, 34, 35, 36, 37, 38, 39, 40, 41, 42, 43, 44, 45, 46, 47, 48, 49, 50, 51, 52, 53, 54, 55, 56, 57, 58, 59, 60, 61, 62, 63, 64, 65, 66, 67, 68, 69, 70, 71, 72, 73, 74, 75, 76, 77, 78, 79, 80, 81, 82, 83, 84, 85, 86, 87, 88, 89, 90, 91, 92, 93] (by decide +kernel) (by decide +kernel)
set_option maxRecDepth 20000 in
theorem gX18_countLine_X18_countLine : GoodIn wsX18_countLine (wsV RX18 334 RX18 yX18_countLine wsX18_countLine) := goodIn_app (goodIn_of _ (by decide +kernel)) ggX18_countLine_X18_countLine
theorem dX18_countLine_0 : decode cX18_countLine 0 = .ok (.iconst 0, 1) := by decide +kernel
theorem dX18_countLine_1 : decode cX18_countLine 1 = .ok (.istore_n 2, 1) := by decide +kernel
theorem dX18_countLine_2 : decode cX18_countLine 2 = .ok (.aload_n 0, 1) := by decide +kernel
theorem dX18_countLine_3 : decode cX18_countLine 3 = .ok (.getfield 16, 3) := by decide +kernel
theorem dX18_countLine_6 : decode cX18_countLine 6 = .ok (.invokevirtual 313, 3) := by decide +kernel
theorem dX18_countLine_9 : decode cX18_countLine 9 = .ok (.astore_n 3, 1) := by decide +kernel
theorem dX18_countLine_10 : decode cX18_countLine 10 = .ok (.aload_n 3, 1) := by decide +kernel
theorem dX18_countLine_11 : decode cX18_countLine 11 = .ok (.invokeinterface 317 1, 5) := by decide +kernel
theorem dX18_countLine_16 : decode cX18_countLine 16 = .ok (.ifCond .eq 53, 3) := by decide +kernel
theorem dX18_countLine_19 : decode cX18_countLine 19 = .ok (.aload_n 3, 1) := by decide +kernel
theorem dX18_countLine_20 : decode cX18_countLine 20 = .ok (.invokeinterface 322 1, 5) := by decide +kernel
theorem dX18_countLine_25 : decode cX18_countLine 25 = .ok (.checkcast 298, 3) := by decide +kernel
theorem dX18_countLine_28 : decode cX18_countLine 28 = .ok (.astore 4, 2) := by decide +kernel
theorem dX18_countLine_30 : decode cX18_countLine 30 = .ok (.aload_n 0, 1) := by decide +kernel
theorem dX18_countLine_31 : decode cX18_countLine 31 = .ok (.aload 4, 2) := by decide +kernel
theorem dX18_countLine_33 : decode cX18_countLine 33 = .ok (.iload_n 1, 1) := by decide +kernel
theorem dX18_countLine_34 : decode cX18_countLine 34 = .ok (.invokevirtual 326, 3) := by decide +kernel
theorem dX18_countLine_37 : decode cX18_countLine 37 = .ok (.ifCond .eq 29, 3) := by decide +kernel
theorem dX18_countLine_40 : decode cX18_countLine 40 = .ok (.iload_n 2, 1) := by decide +kernel
theorem dX18_countLine_41 : decode cX18_countLine 41 = .ok (.aload 4, 2) := by decide +kernel
theorem dX18_countLine_43 : decode cX18_countLine 43 = .ok (.getfield 330, 3) := by decide +kernel
theorem dX18_countLine_46 : decode cX18_countLine 46 = .ok (.ifCond .eq 7, 3) := by decide +kernel
theorem dX18_countLine_49 : decode cX18_countLine 49 = .ok (.iconst 1, 1) := by decide +kernel
theorem dX18_countLine_50 : decode cX18_countLine 50 = .ok (.goto 4, 3) := by decide +kernel
theorem dX18_countLine_53 : decode cX18_countLine 53 = .ok (.iconst 0, 1) := by decide +kernel
theorem dX18_countLine_54 : decode cX18_countLine 54 = .ok (.aload_n 0, 1) := by decide +kernel
theorem dX18_countLine_55 : decode cX18_countLine 55 = .ok (.aload 4, 2) := by decide +kernel
theorem dX18_countLine_57 : decode cX18_countLine 57 = .ok (.getfield 333, 3) := by decide +kernel
theorem dX18_countLine_60 : decode cX18_countLine 60 = .ok (.invokevirtual 334, 3) := by decide +kernel
theorem dX18_countLine_63 : decode cX18_countLine 63 = .ok (.iadd, 1) := by decide +kernel
theorem dX18_countLine_64 : decode cX18_countLine 64 = .ok (.iadd, 1) := by decide +kernel
theorem dX18_countLine_65 : decode cX18_countLine 65 = .ok (.istore_n 2, 1) := by decide +kernel
theorem dX18_countLine_66 : decode cX18_countLine 66 = .ok (.goto (-56), 3) := by decide +kernel
theorem dX18_countLine_69 : decode cX18_countLine 69 = .ok (.iload_n 2, 1) := by decide +kernel
theorem dX18_countLine_70 : decode cX18_countLine 70 = .ok (.ireturn, 1) := by decide +kernel
set_option maxRecDepth 20000 in
theorem ggX18_heiress_Jx4a65c_get_915e3 : GoodIn wsX18_heiress wsJx4a65c_get_915e3 := goodIn_r _ [7, 8, 9, 10, 11, 12, 13, 14, 15, 16, 17, 18, 19, 6, 20, 21, 106, 107, 108] (by decide +kernel) (by decide +kernel)
set_option maxRecDepth 20000 in
theorem gX18_heiress_Jx4a65c_get_915e3 : GoodIn wsX18_heiress (wsV RX18 294 RJx4a65c yJx4a65c_get_915e3 wsJx4a65c_get_915e3) := goodIn_app (goodIn_of _ (by decide +kernel)) ggX18_heiress_Jx4a65c_get_915e3
set_option maxRecDepth 20000 in
theorem ggX18_heiress_X18_countLine : GoodIn wsX18_heiress wsX18_countLine := goodIn_r _ [26, 1, 2, 27, 28, 29, 6, 30, 31, 32, 33, 34, 35, 36, 37, 38, 39, 40, 41, 42, 43, 44, 45, 46, 47, 48, 49, 50, 51, 52, 53, 54, 55, 56, 57, 58, 59, 60, 61, 25, 62, 22, 23, 24, 78, 79, 80, 81, 82, 83, 84, 85, 86, 87, 88, 89, 90, 91, 92, 93, 94, 95, 96, 97, 98, 99, 100, 101, 102, 103, 104, 105, 63, 64, 65, 66, 67, 68, 69, 70, 71, 72, 73, 74, 75, 76, 77, 109, 110, 111, 112, 106, 107, 108] (by decide +kernel) (by decide +kernel)
set_option maxRecDepth 20000 in
theorem gX18_heiress_X18_countLine : GoodIn wsX18_heiress (wsV RX18 334 RX18 yX18_countLine wsX18_countLine) := goodIn_app (goodIn_of _ (by decide +kernel)) ggX18_heiress_X18_countLine
theorem dX18_heiress_0 : decode cX18_heiress 0 = .ok (.aload_n 1, 1) := by decide +kernel
theorem dX18_heiress_1 : decode cX18_heiress 1 = .ok (.getfield 300, 3) := by decide +kernel
theorem dX18_heiress_4 : decode cX18_heiress 4 = .ok (.ifCond .ne 45, 3) := by decide +kernel
theorem dX18_heiress_7 : decode cX18_heiress 7 = .ok (.aload_n 1, 1) := by decide +kernel
theorem dX18_heiress_8 : decode cX18_heiress 8 = .ok (.getfield 310, 3) := by decide +kernel
theorem dX18_heiress_11 : decode cX18_heiress 11 = .ok (.ifCond .lt 38, 3) := by decide +kernel
theorem dX18_heiress_14 : decode cX18_heiress 14 = .ok (.aload_n 0, 1) := by decide +kernel
theorem dX18_heiress_15 : decode cX18_heiress 15 = .ok (.getfield 16, 3) := by decide +kernel
theorem dX18_heiress_18 : decode cX18_heiress 18 = .ok (.aload_n 1, 1) := by decide +kernel
theorem dX18_heiress_19 : decode cX18_heiress 19 = .ok (.getfield 310, 3) := by decide +kernel
theorem dX18_heiress_22 : decode cX18_heiress 22 = .ok (.invokevirtual 294, 3) := by decide +kernel
theorem dX18_heiress_25 : decode cX18_heiress 25 = .ok (.checkcast 298, 3) := by decide +kernel
theorem dX18_heiress_28 : decode cX18_heiress 28 = .ok (.getfield 330, 3) := by decide +kernel
theorem dX18_heiress_31 : decode cX18_heiress 31 = .ok (.ifCond .ne 18, 3) := by decide +kernel
theorem dX18_heiress_34 : decode cX18_heiress 34 = .ok (.aload_n 0, 1) := by decide +kernel
theorem dX18_heiress_35 : decode cX18_heiress 35 = .ok (.aload_n 1, 1) := by decide +kernel
theorem dX18_heiress_36 : decode cX18_heiress 36 = .ok (.getfield 310, 3) := by decide +kernel
theorem dX18_heiress_39 : decode cX18_heiress 39 = .ok (.invokevirtual 334, 3) := by decide +kernel
theorem dX18_heiress_42 : decode cX18_heiress 42 = .ok (.ifCond .ne 7, 3) := by decide +kernel
theorem dX18_heiress_45 : decode cX18_heiress 45 = .ok (.iconst 1, 1) := by decide +kernel
theorem dX18_heiress_46 : decode cX18_heiress 46 = .ok (.goto 4, 3) := by decide +kernel
theorem dX18_heiress_49 : decode cX18_heiress 49 = .ok (.iconst 0, 1) := by decide +kernel
theorem dX18_heiress_50 : decode cX18_heiress 50 = .ok (.ireturn, 1) := by decide +kernel
set_option maxRecDepth 20000 in
theorem ggX18_isHeir_Jx4a65c_get_915e3 : GoodIn wsX18_isHeir wsJx4a65c_get_915e3 := goodIn_r _ [7, 8, 9, 10, 11, 12, 13, 14, 15, 16, 17, 18, 19, 6, 20, 21, 106, 107, 108] (by decide +kernel) (by decide +kernel)
set_option maxRecDepth 20000 in
theorem gX18_isHeir_Jx4a65c_get_915e3 : GoodIn wsX18_isHeir (wsV RX18 294 RJx4a65c yJx4a65c_get_915e3 wsJx4a65c_get_915e3) := goodIn_app (goodIn_of _ (by decide +kernel)) ggX18_isHeir_Jx4a65c_get_915e3
set_option maxRecDepth 20000 in
theorem ggX18_isHeir_Jx4a65c_iterator_32c93 : GoodIn wsX18_isHeir wsJx4a65c_iterator_32c93 := goodIn_r _ [25, 26, 27, 28, 29, 30, 31, 32, 33, 34, 35, 36, 37, 38, 39, 109, 110, 111, 112, 106, 107, 108] (by decide +kernel) (by decide +kernel)
set_option maxRecDepth 20000 in
theorem gX18_isHeir_Jx4a65c_iterator_32c93 : GoodIn wsX18_isHeir (wsV RX18 313 RJx4a65c yJx4a65c_iterator_32c93 wsJx4a65c_iterator_32c93) := goodIn_app (goodIn_of _ (by decide +kernel)) ggX18_isHeir_Jx4a65c_iterator_32c93
set_option maxRecDepth 20000 in
theorem ggX18_isHeir_Jx35411_hasNext_aae02 : GoodIn wsX18_isHeir wsJx35411_hasNext_aae02 := goodIn_r _ [43, 44, 32, 109, 110, 111, 112, 106, 107, 108] (by decide +kernel) (by decide +kernel)
set_option maxRecDepth 20000 in
theorem gX18_isHeir_Jx35411_hasNext_aae02_f317Jx35411 : GoodIn wsX18_isHeir (va_wsF RX18 317 RJx35411 ⟨"java/util/Iterator", "hasNext", "()Z"⟩ yJx35411_hasNext_aae02 wsJx35411_hasNext_aae02) := goodIn_app (goodIn_of _ (by decide +kernel)) ggX18_isHeir_Jx35411_hasNext_aae02
set_option maxRecDepth 20000 in
theorem ggX18_isHeir_Jx35411_next_0502b : GoodIn wsX18_isHeir wsJx35411_next_0502b := goodIn_r _ [48, 44, 32, 49, 36, 50, 51, 52, 28, 53, 37, 38, 39, 109, 110, 111, 112, 106, 107, 108] (by decide +kernel) (by decide +kernel)
set_option maxRecDepth 20000 in
theorem gX18_isHeir_Jx35411_next_0502b_f322Jx35411 : GoodIn wsX18_isHeir (va_wsF RX18 322 RJx35411 ⟨"java/util/Iterator", "next", "()Ljava/lang/Object;"⟩ yJx35411_next_0502b wsJx35411_next_0502b) := goodIn_app (goodIn_of _ (by decide +kernel)) ggX18_isHeir_Jx35411_next_0502b
set_option maxRecDepth 20000 in
theorem ggX18_isHeir_X18_isSonOf : GoodIn wsX18_isHeir wsX18_isSonOf := goodIn_r _ [58, 63, 64, 65, 66, 67, 68, 69, 70, 71, 72, 73, 74, 75, 76, 77] (by decide +kernel) (by decide +kernel)
set_option maxRecDepth 20000 in
theorem gX18_isHeir_X18_isSonOf : GoodIn wsX18_isHeir (wsV RX18 326 RX18 yX18_isSonOf wsX18_isSonOf) := goodIn_app (goodIn_of _ (by decide +kernel)) ggX18_isHeir_X18_isSonOf
set_option maxRecDepth 20000 in
theorem ggX18_isHeir_X18_countLine : GoodIn wsX18_isHeir wsX18_countLine := goodIn_r _ [62, 1, 2, 22, 23, 24, 6, 25, 26, 27, 28, 29, 30, 31, 32, 33, 34, 35, 36, 37, 38, 39, 40, 41, 42, 43, 44, 45, 46, 47, 48, 49, 50, 51, 52, 53, 54, 55, 56, 57, 58, 59, 60, 61, 78, 79, 80, 81, 82, 83, 84, 85, 86, 87, 88, 89, 90, 91, 92, 93, 94, 95, 96, 97, 98, 99, 100, 101, 102, 103, 104, 105, 63, 64, 65, 66, 67, 68, 69, 70, 71, 72, 73, 74, 75, 76, 77, 109, 110, 111, 112, 106, 107, 108] (by decide +kernel) (by decide +kernel)
set_option maxRecDepth 20000 in
theorem gX18_isHeir_X18_countLine : GoodIn wsX18_isHeir (wsV RX18 334 RX18 yX18_countLine wsX18_countLine) := goodIn_app (goodIn_of _ (by decide +kernel)) ggX18_isHeir_X18_countLine
theorem dX18_isHeir_0 : decode cX18_isHeir 0 = .ok (.aload_n 1, 1) := by decide +kernel
theorem dX18_isHeir_1 : decode cX18_isHeir 1 = .ok (.getfield 300, 3) := by decide +kernel
theorem dX18_isHeir_4 : decode cX18_isHeir 4 = .ok (.ifCond .eq 41, 3) := by decide +kernel
theorem dX18_isHeir_7 : decode cX18_isHeir 7 = .ok (.aload_n 1, 1) := by decide +kernel
theorem dX18_isHeir_8 : decode cX18_isHeir 8 = .ok (.getfield 330, 3) := by decide +kernel
theorem dX18_isHeir_11 : decode cX18_isHeir 11 = .ok (.ifCond .eq 34, 3) := by decide +kernel
theorem dX18_isHeir_14 : decode cX18_isHeir 14 = .ok (.aload_n 1, 1) := by decide +kernel
theorem dX18_isHeir_15 : decode cX18_isHeir 15 = .ok (.getfield 310, 3) := by decide +kernel
theorem dX18_isHeir_18 : decode cX18_isHeir 18 = .ok (.ifCond .lt 27, 3) := by decide +kernel
theorem dX18_isHeir_21 : decode cX18_isHeir 21 = .ok (.aload_n 0, 1) := by decide +kernel
theorem dX18_isHeir_22 : decode cX18_isHeir 22 = .ok (.getfield 16, 3) := by decide +kernel
theorem dX18_isHeir_25 : decode cX18_isHeir 25 = .ok (.aload_n 1, 1) := by decide +kernel
theorem dX18_isHeir_26 : decode cX18_isHeir 26 = .ok (.getfield 310, 3) := by decide +kernel
theorem dX18_isHeir_29 : decode cX18_isHeir 29 = .ok (.invokevirtual 294, 3) := by decide +kernel
theorem dX18_isHeir_32 : decode cX18_isHeir 32 = .ok (.checkcast 298, 3) := by decide +kernel
theorem dX18_isHeir_35 : decode cX18_isHeir 35 = .ok (.getfield 330, 3) := by decide +kernel
theorem dX18_isHeir_38 : decode cX18_isHeir 38 = .ok (.ifCond .ne 7, 3) := by decide +kernel
theorem dX18_isHeir_41 : decode cX18_isHeir 41 = .ok (.iconst 1, 1) := by decide +kernel
theorem dX18_isHeir_42 : decode cX18_isHeir 42 = .ok (.goto 4, 3) := by decide +kernel
theorem dX18_isHeir_45 : decode cX18_isHeir 45 = .ok (.iconst 0, 1) := by decide +kernel
theorem dX18_isHeir_46 : decode cX18_isHeir 46 = .ok (.istore_n 2, 1) := by decide +kernel
theorem dX18_isHeir_47 : decode cX18_isHeir 47 = .ok (.aload_n 0, 1) := by decide +kernel
theorem dX18_isHeir_48 : decode cX18_isHeir 48 = .ok (.getfield 16, 3) := by decide +kernel
theorem dX18_isHeir_51 : decode cX18_isHeir 51 = .ok (.invokevirtual 313, 3) := by decide +kernel
theorem dX18_isHeir_54 : decode cX18_isHeir 54 = .ok (.astore_n 3, 1) := by decide +kernel
theorem dX18_isHeir_55 : decode cX18_isHeir 55 = .ok (.aload_n 3, 1) := by decide +kernel
theorem dX18_isHeir_56 : decode cX18_isHeir 56 = .ok (.invokeinterface 317 1, 5) := by decide +kernel
theorem dX18_isHeir_61 : decode cX18_isHeir 61 = .ok (.ifCond .eq 91, 3) := by decide +kernel
theorem dX18_isHeir_64 : decode cX18_isHeir 64 = .ok (.aload_n 3, 1) := by decide +kernel
theorem dX18_isHeir_65 : decode cX18_isHeir 65 = .ok (.invokeinterface 322 1, 5) := by decide +kernel
theorem dX18_isHeir_70 : decode cX18_isHeir 70 = .ok (.checkcast 298, 3) := by decide +kernel
theorem dX18_isHeir_73 : decode cX18_isHeir 73 = .ok (.astore 4, 2) := by decide +kernel
theorem dX18_isHeir_75 : decode cX18_isHeir 75 = .ok (.aload_n 1, 1) := by decide +kernel
theorem dX18_isHeir_76 : decode cX18_isHeir 76 = .ok (.getfield 310, 3) := by decide +kernel
theorem dX18_isHeir_79 : decode cX18_isHeir 79 = .ok (.ifCond .lt 32, 3) := by decide +kernel
theorem dX18_isHeir_82 : decode cX18_isHeir 82 = .ok (.aload_n 0, 1) := by decide +kernel
theorem dX18_isHeir_83 : decode cX18_isHeir 83 = .ok (.aload 4, 2) := by decide +kernel
theorem dX18_isHeir_85 : decode cX18_isHeir 85 = .ok (.aload_n 1, 1) := by decide +kernel
theorem dX18_isHeir_86 : decode cX18_isHeir 86 = .ok (.getfield 310, 3) := by decide +kernel
theorem dX18_isHeir_89 : decode cX18_isHeir 89 = .ok (.invokevirtual 326, 3) := by decide +kernel
theorem dX18_isHeir_92 : decode cX18_isHeir 92 = .ok (.ifCond .eq 19, 3) := by decide +kernel
theorem dX18_isHeir_95 : decode cX18_isHeir 95 = .ok (.aload 4, 2) := by decide +kernel
theorem dX18_isHeir_97 : decode cX18_isHeir 97 = .ok (.getfield 333, 3) := by decide +kernel
theorem dX18_isHeir_100 : decode cX18_isHeir 100 = .ok (.aload_n 1, 1) := by decide +kernel
theorem dX18_isHeir_101 : decode cX18_isHeir 101 = .ok (.getfield 333, 3) := by decide +kernel
theorem dX18_isHeir_104 : decode cX18_isHeir 104 = .ok (.if_icmp .ge 7, 3) := by decide +kernel
theorem dX18_isHeir_107 : decode cX18_isHeir 107 = .ok (.iconst 1, 1) := by decide +kernel
theorem dX18_isHeir_108 : decode cX18_isHeir 108 = .ok (.goto 4, 3) := by decide +kernel
theorem dX18_isHeir_111 : decode cX18_isHeir 111 = .ok (.iconst 0, 1) := by decide +kernel
theorem dX18_isHeir_112 : decode cX18_isHeir 112 = .ok (.istore 5, 2) := by decide +kernel
theorem dX18_isHeir_114 : decode cX18_isHeir 114 = .ok (.iload_n 2, 1) := by decide +kernel
theorem dX18_isHeir_115 : decode cX18_isHeir 115 = .ok (.ifCond .eq 32, 3) := by decide +kernel
theorem dX18_isHeir_118 : decode cX18_isHeir 118 = .ok (.iload 5, 2) := by decide +kernel
theorem dX18_isHeir_120 : decode cX18_isHeir 120 = .ok (.ifCond .eq 23, 3) := by decide +kernel
theorem dX18_isHeir_123 : decode cX18_isHeir 123 = .ok (.aload 4, 2) := by decide +kernel
theorem dX18_isHeir_125 : decode cX18_isHeir 125 = .ok (.getfield 330, 3) := by decide +kernel
theorem dX18_isHeir_128 : decode cX18_isHeir 128 = .ok (.ifCond .ne 19, 3) := by decide +kernel
theorem dX18_isHeir_131 : decode cX18_isHeir 131 = .ok (.aload_n 0, 1) := by decide +kernel
theorem dX18_isHeir_132 : decode cX18_isHeir 132 = .ok (.aload 4, 2) := by decide +kernel
theorem dX18_isHeir_134 : decode cX18_isHeir 134 = .ok (.getfield 333, 3) := by decide +kernel
theorem dX18_isHeir_137 : decode cX18_isHeir 137 = .ok (.invokevirtual 334, 3) := by decide +kernel
theorem dX18_isHeir_140 : decode cX18_isHeir 140 = .ok (.ifCond .gt 7, 3) := by decide +kernel
theorem dX18_isHeir_143 : decode cX18_isHeir 143 = .ok (.iconst 1, 1) := by decide +kernel
theorem dX18_isHeir_144 : decode cX18_isHeir 144 = .ok (.goto 4, 3) := by decide +kernel
theorem dX18_isHeir_147 : decode cX18_isHeir 147 = .ok (.iconst 0, 1) := by decide +kernel
theorem dX18_isHeir_148 : decode cX18_isHeir 148 = .ok (.istore_n 2, 1) := by decide +kernel
theorem dX18_isHeir_149 : decode cX18_isHeir 149 = .ok (.goto (-94), 3) := by decide +kernel
theorem dX18_isHeir_152 : decode cX18_isHeir 152 = .ok (.iload_n 2, 1) := by decide +kernel
theorem dX18_isHeir_153 : decode cX18_isHeir 153 = .ok (.ireturn, 1) := by decide +kernel
set_option maxRecDepth 20000 in
theorem ggX18_lives_X18_failsPerson : GoodIn wsX18_lives wsX18_failsPerson := goodIn_r _ [7, 8, 9, 10, 6, 11, 1, 12, 13, 14, 15, 16, 17, 18, 19, 20, 21, 22, 23, 24, 25, 43, 44, 45, 46, 47, 48, 49, 50, 51, 52, 53, 54, 55, 56, 57, 58, 59, 60, 61, 62, 63, 64, 65, 66, 67, 68, 69, 70, 86, 87, 88] (by decide +kernel) (by decide +kernel)
set_option maxRecDepth 20000 in
theorem gX18_lives_X18_failsPerson : GoodIn wsX18_lives (wsV RX18 337 RX18 yX18_failsPerson wsX18_failsPerson) := goodIn_app (goodIn_of _ (by decide +kernel)) ggX18_lives_X18_failsPerson
set_option maxRecDepth 20000 in
theorem ggX18_lives_Jx4a65c_get_915e3 : GoodIn wsX18_lives wsJx4a65c_get_915e3 := goodIn_r _ [29, 17, 30, 31, 32, 33, 34, 35, 36, 37, 38, 39, 40, 15, 41, 42, 86, 87, 88] (by decide +kernel) (by decide +kernel)
set_option maxRecDepth 20000 in
theorem gX18_lives_Jx4a65c_get_915e3 : GoodIn wsX18_lives (wsV RX18 294 RJx4a65c yJx4a65c_get_915e3 wsJx4a65c_get_915e3) := goodIn_app (goodIn_of _ (by decide +kernel)) ggX18_lives_Jx4a65c_get_915e3
theorem dX18_lives_0 : decode cX18_lives 0 = .ok (.aload_n 0, 1) := by decide +kernel
theorem dX18_lives_1 : decode cX18_lives 1 = .ok (.iload_n 1, 1) := by decide +kernel
theorem dX18_lives_2 : decode cX18_lives 2 = .ok (.invokevirtual 337, 3) := by decide +kernel
theorem dX18_lives_5 : decode cX18_lives 5 = .ok (.ifCond .ne 24, 3) := by decide +kernel
theorem dX18_lives_8 : decode cX18_lives 8 = .ok (.aload_n 0, 1) := by decide +kernel
theorem dX18_lives_9 : decode cX18_lives 9 = .ok (.getfield 16, 3) := by decide +kernel
theorem dX18_lives_12 : decode cX18_lives 12 = .ok (.iload_n 1, 1) := by decide +kernel
theorem dX18_lives_13 : decode cX18_lives 13 = .ok (.invokevirtual 294, 3) := by decide +kernel
theorem dX18_lives_16 : decode cX18_lives 16 = .ok (.checkcast 298, 3) := by decide +kernel
theorem dX18_lives_19 : decode cX18_lives 19 = .ok (.getfield 330, 3) := by decide +kernel
theorem dX18_lives_22 : decode cX18_lives 22 = .ok (.ifCond .eq 7, 3) := by decide +kernel
theorem dX18_lives_25 : decode cX18_lives 25 = .ok (.iconst 1, 1) := by decide +kernel
theorem dX18_lives_26 : decode cX18_lives 26 = .ok (.goto 4, 3) := by decide +kernel
theorem dX18_lives_29 : decode cX18_lives 29 = .ok (.iconst 0, 1) := by decide +kernel
theorem dX18_lives_30 : decode cX18_lives 30 = .ok (.ireturn, 1) := by decide +kernel
set_option maxRecDepth 20000 in
theorem ggX18_isHeiress_X18_failsPerson : GoodIn wsX18_isHeiress wsX18_failsPerson := goodIn_r _ [7, 8, 9, 10, 6, 11, 1, 12, 13, 14, 15, 16, 17, 18, 19, 20, 21, 22, 23, 24, 25, 87, 88, 89, 90, 91, 92, 93, 94, 95, 96, 97, 98, 99, 100, 101, 102, 103, 104, 105, 106, 107, 108, 109, 110, 111, 112, 113, 114, 115, 116, 117] (by decide +kernel) (by decide +kernel)
set_option maxRecDepth 20000 in
theorem gX18_isHeiress_X18_failsPerson : GoodIn wsX18_isHeiress (wsV RX18 337 RX18 yX18_failsPerson wsX18_failsPerson) := goodIn_app (goodIn_of _ (by decide +kernel)) ggX18_isHeiress_X18_failsPerson
set_option maxRecDepth 20000 in
theorem ggX18_isHeiress_Jx4a65c_get_915e3 : GoodIn wsX18_isHeiress wsJx4a65c_get_915e3 := goodIn_r _ [29, 17, 30, 31, 32, 33, 34, 35, 36, 37, 38, 39, 40, 15, 41, 42, 115, 116, 117] (by decide +kernel) (by decide +kernel)
set_option maxRecDepth 20000 in
theorem gX18_isHeiress_Jx4a65c_get_915e3 : GoodIn wsX18_isHeiress (wsV RX18 294 RJx4a65c yJx4a65c_get_915e3 wsJx4a65c_get_915e3) := goodIn_app (goodIn_of _ (by decide +kernel)) ggX18_isHeiress_Jx4a65c_get_915e3
set_option maxRecDepth 20000 in
theorem ggX18_isHeiress_X18_heiress : GoodIn wsX18_isHeiress wsX18_heiress := goodIn_r _ [46, 1, 2, 26, 27, 28, 15, 29, 17, 30, 31, 32, 33, 34, 35, 36, 37, 38, 39, 40, 41, 42, 47, 48, 49, 6, 50, 51, 52, 53, 54, 55, 56, 57, 58, 59, 60, 61, 62, 63, 64, 65, 66, 67, 68, 69, 70, 71, 72, 73, 74, 75, 76, 77, 78, 79, 80, 81, 82, 83, 84, 85, 86, 118, 119, 120, 121, 122, 123, 124, 125, 126, 127, 128, 129, 130, 131, 132, 87, 88, 89, 90, 91, 92, 93, 94, 95, 96, 97, 98, 99, 100, 101, 102, 103, 104, 105, 106, 107, 108, 109, 110, 111, 112, 113, 114, 115, 116, 117, 133, 134, 135, 136] (by decide +kernel) (by decide +kernel)
set_option maxRecDepth 20000 in
theorem gX18_isHeiress_X18_heiress : GoodIn wsX18_isHeiress (wsV RX18 340 RX18 yX18_heiress wsX18_heiress) := goodIn_app (goodIn_of _ (by decide +kernel)) ggX18_isHeiress_X18_heiress
theorem dX18_isHeiress_0 : decode cX18_isHeiress 0 = .ok (.aload_n 0, 1) := by decide +kernel
theorem dX18_isHeiress_1 : decode cX18_isHeiress 1 = .ok (.iload_n 1, 1) := by decide +kernel
theorem dX18_isHeiress_2 : decode cX18_isHeiress 2 = .ok (.invokevirtual 337, 3) := by decide +kernel
theorem dX18_isHeiress_5 : decode cX18_isHeiress 5 = .ok (.ifCond .ne 25, 3) := by decide +kernel
theorem dX18_isHeiress_8 : decode cX18_isHeiress 8 = .ok (.aload_n 0, 1) := by decide +kernel
theorem dX18_isHeiress_9 : decode cX18_isHeiress 9 = .ok (.aload_n 0, 1) := by decide +kernel
theorem dX18_isHeiress_10 : decode cX18_isHeiress 10 = .ok (.getfield 16, 3) := by decide +kernel
theorem dX18_isHeiress_13 : decode cX18_isHeiress 13 = .ok (.iload_n 1, 1) := by decide +kernel
theorem dX18_isHeiress_14 : decode cX18_isHeiress 14 = .ok (.invokevirtual 294, 3) := by decide +kernel
theorem dX18_isHeiress_17 : decode cX18_isHeiress 17 = .ok (.checkcast 298, 3) := by decide +kernel
theorem dX18_isHeiress_20 : decode cX18_isHeiress 20 = .ok (.invokevirtual 340, 3) := by decide +kernel
theorem dX18_isHeiress_23 : decode cX18_isHeiress 23 = .ok (.ifCond .eq 7, 3) := by decide +kernel
theorem dX18_isHeiress_26 : decode cX18_isHeiress 26 = .ok (.iconst 1, 1) := by decide +kernel
theorem dX18_isHeiress_27 : decode cX18_isHeiress 27 = .ok (.goto 4, 3) := by decide +kernel
theorem dX18_isHeiress_30 : decode cX18_isHeiress 30 = .ok (.iconst 0, 1) := by decide +kernel
theorem dX18_isHeiress_31 : decode cX18_isHeiress 31 = .ok (.ireturn, 1) := by decide +kernel
set_option maxRecDepth 20000 in
theorem ggX18_lineOf_X18_failsPerson : GoodIn wsX18_lineOf wsX18_failsPerson := goodIn_r _ [7, 8, 9, 10, 6, 11, 1, 12, 13, 14, 15, 16, 17, 18, 19, 20, 21, 22, 23, 24, 25, 83, 84, 85, 86, 87, 88, 89, 90, 91, 92, 93, 94, 95, 96, 97, 98, 99, 100, 101, 102, 103, 104, 105, 106, 107, 108, 109, 110, 126, 127, 128] (by decide +kernel) (by decide +kernel)
set_option maxRecDepth 20000 in
theorem gX18_lineOf_X18_failsPerson : GoodIn wsX18_lineOf (wsV RX18 337 RX18 yX18_failsPerson wsX18_failsPerson) := goodIn_app (goodIn_of _ (by decide +kernel)) ggX18_lineOf_X18_failsPerson
set_option maxRecDepth 20000 in
theorem ggX18_lineOf_Jx4a65c_get_915e3 : GoodIn wsX18_lineOf wsJx4a65c_get_915e3 := goodIn_r _ [29, 17, 30, 31, 32, 33, 34, 35, 36, 37, 38, 39, 40, 15, 41, 42, 126, 127, 128] (by decide +kernel) (by decide +kernel)
set_option maxRecDepth 20000 in
theorem gX18_lineOf_Jx4a65c_get_915e3 : GoodIn wsX18_lineOf (wsV RX18 294 RJx4a65c yJx4a65c_get_915e3 wsJx4a65c_get_915e3) := goodIn_app (goodIn_of _ (by decide +kernel)) ggX18_lineOf_Jx4a65c_get_915e3
set_option maxRecDepth 20000 in
theorem ggX18_lineOf_X18_countLine : GoodIn wsX18_lineOf wsX18_countLine := goodIn_r _ [46, 1, 2, 47, 48, 49, 15, 50, 51, 52, 53, 54, 55, 56, 57, 58, 59, 60, 61, 62, 63, 64, 65, 66, 67, 68, 69, 70, 71, 72, 73, 74, 75, 76, 77, 78, 79, 80, 81, 6, 82, 43, 44, 45, 83, 84, 85, 86, 87, 88, 89, 90, 91, 92, 93, 94, 95, 96, 97, 98, 99, 100, 101, 102, 103, 104, 105, 106, 107, 108, 109, 110, 111, 112, 113, 114, 115, 116, 117, 118, 119, 120, 121, 122, 123, 124, 125, 129, 130, 131, 132, 126, 127, 128] (by decide +kernel) (by decide +kernel)
set_option maxRecDepth 20000 in
theorem gX18_lineOf_X18_countLine : GoodIn wsX18_lineOf (wsV RX18 334 RX18 yX18_countLine wsX18_countLine) := goodIn_app (goodIn_of _ (by decide +kernel)) ggX18_lineOf_X18_countLine
theorem dX18_lineOf_0 : decode cX18_lineOf 0 = .ok (.aload_n 0, 1) := by decide +kernel
theorem dX18_lineOf_1 : decode cX18_lineOf 1 = .ok (.iload_n 1, 1) := by decide +kernel
theorem dX18_lineOf_2 : decode cX18_lineOf 2 = .ok (.invokevirtual 337, 3) := by decide +kernel
theorem dX18_lineOf_5 : decode cX18_lineOf 5 = .ok (.ifCond .ne 20, 3) := by decide +kernel
theorem dX18_lineOf_8 : decode cX18_lineOf 8 = .ok (.aload_n 0, 1) := by decide +kernel
theorem dX18_lineOf_9 : decode cX18_lineOf 9 = .ok (.getfield 16, 3) := by decide +kernel
theorem dX18_lineOf_12 : decode cX18_lineOf 12 = .ok (.iload_n 1, 1) := by decide +kernel
theorem dX18_lineOf_13 : decode cX18_lineOf 13 = .ok (.invokevirtual 294, 3) := by decide +kernel
theorem dX18_lineOf_16 : decode cX18_lineOf 16 = .ok (.checkcast 298, 3) := by decide +kernel
theorem dX18_lineOf_19 : decode cX18_lineOf 19 = .ok (.getfield 300, 3) := by decide +kernel
theorem dX18_lineOf_22 : decode cX18_lineOf 22 = .ok (.ifCond .ne 7, 3) := by decide +kernel
theorem dX18_lineOf_25 : decode cX18_lineOf 25 = .ok (.iconst 0, 1) := by decide +kernel
theorem dX18_lineOf_26 : decode cX18_lineOf 26 = .ok (.goto 8, 3) := by decide +kernel
theorem dX18_lineOf_29 : decode cX18_lineOf 29 = .ok (.aload_n 0, 1) := by decide +kernel
theorem dX18_lineOf_30 : decode cX18_lineOf 30 = .ok (.iload_n 1, 1) := by decide +kernel
theorem dX18_lineOf_31 : decode cX18_lineOf 31 = .ok (.invokevirtual 334, 3) := by decide +kernel
theorem dX18_lineOf_34 : decode cX18_lineOf 34 = .ok (.ireturn, 1) := by decide +kernel
set_option maxRecDepth 20000 in
theorem ggX18_spouse_X18_failsPerson : GoodIn wsX18_spouse wsX18_failsPerson := goodIn_r _ [7, 8, 9, 10, 6, 11, 1, 12, 13, 14, 15, 16, 17, 18, 19, 20, 21, 22, 23, 24, 25, 43, 44, 45, 46, 47, 48, 49, 50, 51, 52, 53, 54, 55, 56, 57, 58, 59, 60, 61, 62, 63, 64, 65, 66, 67, 68, 69, 70, 86, 87, 88] (by decide +kernel) (by decide +kernel)
set_option maxRecDepth 20000 in
theorem gX18_spouse_X18_failsPerson : GoodIn wsX18_spouse (wsV RX18 337 RX18 yX18_failsPerson wsX18_failsPerson) := goodIn_app (goodIn_of _ (by decide +kernel)) ggX18_spouse_X18_failsPerson
set_option maxRecDepth 20000 in
theorem ggX18_spouse_Jx4a65c_get_915e3 : GoodIn wsX18_spouse wsJx4a65c_get_915e3 := goodIn_r _ [29, 17, 30, 31, 32, 33, 34, 35, 36, 37, 38, 39, 40, 15, 41, 42, 86, 87, 88] (by decide +kernel) (by decide +kernel)
set_option maxRecDepth 20000 in
theorem gX18_spouse_Jx4a65c_get_915e3 : GoodIn wsX18_spouse (wsV RX18 294 RJx4a65c yJx4a65c_get_915e3 wsJx4a65c_get_915e3) := goodIn_app (goodIn_of _ (by decide +kernel)) ggX18_spouse_Jx4a65c_get_915e3
set_option maxRecDepth 20000 in
theorem ggX18_spouse_X18_fails : GoodIn wsX18_spouse wsX18_fails := goodIn_r _ [24, 25, 43, 44, 45, 46, 47, 48, 49, 50, 51, 52, 53, 54, 55, 56, 57, 58, 59, 60, 61, 62, 63, 64, 65, 66, 67, 68, 69, 70] (by decide +kernel) (by decide +kernel)
set_option maxRecDepth 20000 in
theorem gX18_spouse_X18_fails : GoodIn wsX18_spouse (wsV RX18 84 RX18 yX18_fails wsX18_fails) := goodIn_app (goodIn_of _ (by decide +kernel)) ggX18_spouse_X18_fails
theorem dX18_spouse_0 : decode cX18_spouse 0 = .ok (.aload_n 0, 1) := by decide +kernel
theorem dX18_spouse_1 : decode cX18_spouse 1 = .ok (.iload_n 1, 1) := by decide +kernel
theorem dX18_spouse_2 : decode cX18_spouse 2 = .ok (.invokevirtual 337, 3) := by decide +kernel
theorem dX18_spouse_5 : decode cX18_spouse 5 = .ok (.ifCond .ne 32, 3) := by decide +kernel
theorem dX18_spouse_8 : decode cX18_spouse 8 = .ok (.aload_n 0, 1) := by decide +kernel
theorem dX18_spouse_9 : decode cX18_spouse 9 = .ok (.aload_n 0, 1) := by decide +kernel
theorem dX18_spouse_10 : decode cX18_spouse 10 = .ok (.getfield 16, 3) := by decide +kernel
theorem dX18_spouse_13 : decode cX18_spouse 13 = .ok (.iload_n 1, 1) := by decide +kernel
theorem dX18_spouse_14 : decode cX18_spouse 14 = .ok (.invokevirtual 294, 3) := by decide +kernel
theorem dX18_spouse_17 : decode cX18_spouse 17 = .ok (.checkcast 298, 3) := by decide +kernel
theorem dX18_spouse_20 : decode cX18_spouse 20 = .ok (.getfield 344, 3) := by decide +kernel
theorem dX18_spouse_23 : decode cX18_spouse 23 = .ok (.ifCond .ge 7, 3) := by decide +kernel
theorem dX18_spouse_26 : decode cX18_spouse 26 = .ok (.iconst 2, 1) := by decide +kernel
theorem dX18_spouse_27 : decode cX18_spouse 27 = .ok (.goto 4, 3) := by decide +kernel
theorem dX18_spouse_30 : decode cX18_spouse 30 = .ok (.iconst 0, 1) := by decide +kernel
theorem dX18_spouse_31 : decode cX18_spouse 31 = .ok (.invokevirtual 84, 3) := by decide +kernel
theorem dX18_spouse_34 : decode cX18_spouse 34 = .ok (.ifCond .eq 7, 3) := by decide +kernel
theorem dX18_spouse_37 : decode cX18_spouse 37 = .ok (.iconst 0, 1) := by decide +kernel
theorem dX18_spouse_38 : decode cX18_spouse 38 = .ok (.goto 17, 3) := by decide +kernel
theorem dX18_spouse_41 : decode cX18_spouse 41 = .ok (.aload_n 0, 1) := by decide +kernel
theorem dX18_spouse_42 : decode cX18_spouse 42 = .ok (.getfield 16, 3) := by decide +kernel
theorem dX18_spouse_45 : decode cX18_spouse 45 = .ok (.iload_n 1, 1) := by decide +kernel
theorem dX18_spouse_46 : decode cX18_spouse 46 = .ok (.invokevirtual 294, 3) := by decide +kernel
