theorem dX18_spouse_49 : decode cX18_spouse 49 = .ok (.checkcast 298, 3) := by decide +kernel
theorem dX18_spouse_52 : decode cX18_spouse 52 = .ok (.getfield 344, 3) := by decide +kernel
theorem dX18_spouse_55 : decode cX18_spouse 55 = .ok (.ireturn, 1) := by decide +kernel
set_option maxRecDepth 20000 in
theorem ggX18_marry_X18_isPerson : GoodIn wsX18_marry wsX18_isPerson := goodIn_r _ [7, 1, 8, 9, 10, 11, 12, 13, 14, 15, 6, 16, 83, 84, 85, 86, 87, 88, 89, 90, 91, 92, 93, 94, 95, 96, 97, 98, 99, 100, 101, 102, 103, 104, 105, 106, 107, 108, 109, 110, 126, 127, 128] (by decide +kernel) (by decide +kernel)
set_option maxRecDepth 20000 in
theorem gX18_marry_X18_isPerson : GoodIn wsX18_marry (wsV RX18 291 RX18 yX18_isPerson wsX18_isPerson) := goodIn_app (goodIn_of _ (by decide +kernel)) ggX18_marry_X18_isPerson
set_option maxRecDepth 20000 in
theorem ggX18_marry_X18_fails : GoodIn wsX18_marry wsX18_fails := goodIn_r _ [20, 21, 83, 84, 85, 86, 87, 88, 89, 90, 91, 92, 93, 94, 95, 96, 97, 98, 99, 100, 101, 102, 103, 104, 105, 106, 107, 108, 109, 110] (by decide +kernel) (by decide +kernel)
set_option maxRecDepth 20000 in
theorem gX18_marry_X18_fails : GoodIn wsX18_marry (wsV RX18 84 RX18 yX18_fails wsX18_fails) := goodIn_app (goodIn_of _ (by decide +kernel)) ggX18_marry_X18_fails
set_option maxRecDepth 20000 in
theorem ggX18_marry_Jx4a65c_get_915e3 : GoodIn wsX18_marry wsJx4a65c_get_915e3 := goodIn_r _ [25, 13, 26, 27, 28, 29, 30, 31, 32, 33, 34, 35, 36, 11, 37, 38, 126, 127, 128] (by decide +kernel) (by decide +kernel)
set_option maxRecDepth 20000 in
theorem gX18_marry_Jx4a65c_get_915e3 : GoodIn wsX18_marry (wsV RX18 294 RJx4a65c yJx4a65c_get_915e3 wsJx4a65c_get_915e3) := goodIn_app (goodIn_of _ (by decide +kernel)) ggX18_marry_Jx4a65c_get_915e3
set_option maxRecDepth 20000 in
theorem ggX18_marry_X18_heiress : GoodIn wsX18_marry wsX18_heiress := goodIn_r _ [42, 1, 2, 22, 23, 24, 11, 25, 13, 26, 27, 28, 29, 30, 31, 32, 33, 34, 35, 36, 37, 38, 43, 44, 45, 6, 46, 47, 48, 49, 50, 51, 52, 53, 54, 55, 56, 57, 58, 59, 60, 61, 62, 63, 64, 65, 66, 67, 68, 69, 70, 71, 72, 73, 74, 75, 76, 77, 78, 79, 80, 81, 82, 111, 112, 113, 114, 115, 116, 117, 118, 119, 120, 121, 122, 123, 124, 125, 83, 84, 85, 86, 87, 88, 89, 90, 91, 92, 93, 94, 95, 96, 97, 98, 99, 100, 101, 102, 103, 104, 105, 106, 107, 108, 109, 110, 126, 127, 128, 129, 130, 131, 132] (by decide +kernel) (by decide +kernel)
set_option maxRecDepth 20000 in
theorem gX18_marry_X18_heiress : GoodIn wsX18_marry (wsV RX18 340 RX18 yX18_heiress wsX18_heiress) := goodIn_app (goodIn_of _ (by decide +kernel)) ggX18_marry_X18_heiress
theorem dX18_marry_0 : decode cX18_marry 0 = .ok (.aload_n 0, 1) := by decide +kernel
theorem dX18_marry_1 : decode cX18_marry 1 = .ok (.aload_n 0, 1) := by decide +kernel
theorem dX18_marry_2 : decode cX18_marry 2 = .ok (.iload_n 1, 1) := by decide +kernel
theorem dX18_marry_3 : decode cX18_marry 3 = .ok (.invokevirtual 291, 3) := by decide +kernel
theorem dX18_marry_6 : decode cX18_marry 6 = .ok (.ifCond .eq 15, 3) := by decide +kernel
theorem dX18_marry_9 : decode cX18_marry 9 = .ok (.aload_n 0, 1) := by decide +kernel
theorem dX18_marry_10 : decode cX18_marry 10 = .ok (.iload_n 2, 1) := by decide +kernel
theorem dX18_marry_11 : decode cX18_marry 11 = .ok (.invokevirtual 291, 3) := by decide +kernel
theorem dX18_marry_14 : decode cX18_marry 14 = .ok (.ifCond .eq 7, 3) := by decide +kernel
theorem dX18_marry_17 : decode cX18_marry 17 = .ok (.iconst 0, 1) := by decide +kernel
theorem dX18_marry_18 : decode cX18_marry 18 = .ok (.goto 4, 3) := by decide +kernel
theorem dX18_marry_21 : decode cX18_marry 21 = .ok (.iconst 1, 1) := by decide +kernel
theorem dX18_marry_22 : decode cX18_marry 22 = .ok (.invokevirtual 84, 3) := by decide +kernel
theorem dX18_marry_25 : decode cX18_marry 25 = .ok (.ifCond .eq 5, 3) := by decide +kernel
theorem dX18_marry_28 : decode cX18_marry 28 = .ok (.iconst 0, 1) := by decide +kernel
theorem dX18_marry_29 : decode cX18_marry 29 = .ok (.ireturn, 1) := by decide +kernel
theorem dX18_marry_30 : decode cX18_marry 30 = .ok (.aload_n 0, 1) := by decide +kernel
theorem dX18_marry_31 : decode cX18_marry 31 = .ok (.getfield 16, 3) := by decide +kernel
theorem dX18_marry_34 : decode cX18_marry 34 = .ok (.iload_n 1, 1) := by decide +kernel
theorem dX18_marry_35 : decode cX18_marry 35 = .ok (.invokevirtual 294, 3) := by decide +kernel
theorem dX18_marry_38 : decode cX18_marry 38 = .ok (.checkcast 298, 3) := by decide +kernel
theorem dX18_marry_41 : decode cX18_marry 41 = .ok (.astore_n 3, 1) := by decide +kernel
theorem dX18_marry_42 : decode cX18_marry 42 = .ok (.aload_n 0, 1) := by decide +kernel
theorem dX18_marry_43 : decode cX18_marry 43 = .ok (.getfield 16, 3) := by decide +kernel
theorem dX18_marry_46 : decode cX18_marry 46 = .ok (.iload_n 2, 1) := by decide +kernel
theorem dX18_marry_47 : decode cX18_marry 47 = .ok (.invokevirtual 294, 3) := by decide +kernel
theorem dX18_marry_50 : decode cX18_marry 50 = .ok (.checkcast 298, 3) := by decide +kernel
theorem dX18_marry_53 : decode cX18_marry 53 = .ok (.astore 4, 2) := by decide +kernel
theorem dX18_marry_55 : decode cX18_marry 55 = .ok (.aload_n 3, 1) := by decide +kernel
theorem dX18_marry_56 : decode cX18_marry 56 = .ok (.getfield 300, 3) := by decide +kernel
theorem dX18_marry_59 : decode cX18_marry 59 = .ok (.ifCond .eq 45, 3) := by decide +kernel
theorem dX18_marry_62 : decode cX18_marry 62 = .ok (.aload 4, 2) := by decide +kernel
theorem dX18_marry_64 : decode cX18_marry 64 = .ok (.getfield 300, 3) := by decide +kernel
theorem dX18_marry_67 : decode cX18_marry 67 = .ok (.ifCond .ne 37, 3) := by decide +kernel
theorem dX18_marry_70 : decode cX18_marry 70 = .ok (.aload_n 3, 1) := by decide +kernel
theorem dX18_marry_71 : decode cX18_marry 71 = .ok (.getfield 330, 3) := by decide +kernel
theorem dX18_marry_74 : decode cX18_marry 74 = .ok (.ifCond .eq 30, 3) := by decide +kernel
theorem dX18_marry_77 : decode cX18_marry 77 = .ok (.aload 4, 2) := by decide +kernel
theorem dX18_marry_79 : decode cX18_marry 79 = .ok (.getfield 330, 3) := by decide +kernel
theorem dX18_marry_82 : decode cX18_marry 82 = .ok (.ifCond .eq 22, 3) := by decide +kernel
theorem dX18_marry_85 : decode cX18_marry 85 = .ok (.aload_n 3, 1) := by decide +kernel
theorem dX18_marry_86 : decode cX18_marry 86 = .ok (.getfield 344, 3) := by decide +kernel
theorem dX18_marry_89 : decode cX18_marry 89 = .ok (.ifCond .ge 15, 3) := by decide +kernel
theorem dX18_marry_92 : decode cX18_marry 92 = .ok (.aload 4, 2) := by decide +kernel
theorem dX18_marry_94 : decode cX18_marry 94 = .ok (.getfield 344, 3) := by decide +kernel
theorem dX18_marry_97 : decode cX18_marry 97 = .ok (.ifCond .ge 7, 3) := by decide +kernel
theorem dX18_marry_100 : decode cX18_marry 100 = .ok (.iconst 1, 1) := by decide +kernel
theorem dX18_marry_101 : decode cX18_marry 101 = .ok (.goto 4, 3) := by decide +kernel
theorem dX18_marry_104 : decode cX18_marry 104 = .ok (.iconst 0, 1) := by decide +kernel
theorem dX18_marry_105 : decode cX18_marry 105 = .ok (.istore 5, 2) := by decide +kernel
theorem dX18_marry_107 : decode cX18_marry 107 = .ok (.aload_n 0, 1) := by decide +kernel
theorem dX18_marry_108 : decode cX18_marry 108 = .ok (.iload 5, 2) := by decide +kernel
theorem dX18_marry_110 : decode cX18_marry 110 = .ok (.ifCond .eq 7, 3) := by decide +kernel
theorem dX18_marry_113 : decode cX18_marry 113 = .ok (.iconst 0, 1) := by decide +kernel
theorem dX18_marry_114 : decode cX18_marry 114 = .ok (.goto 4, 3) := by decide +kernel
theorem dX18_marry_117 : decode cX18_marry 117 = .ok (.iconst 2, 1) := by decide +kernel
theorem dX18_marry_118 : decode cX18_marry 118 = .ok (.invokevirtual 84, 3) := by decide +kernel
theorem dX18_marry_121 : decode cX18_marry 121 = .ok (.ifCond .eq 5, 3) := by decide +kernel
theorem dX18_marry_124 : decode cX18_marry 124 = .ok (.iconst 0, 1) := by decide +kernel
theorem dX18_marry_125 : decode cX18_marry 125 = .ok (.ireturn, 1) := by decide +kernel
theorem dX18_marry_126 : decode cX18_marry 126 = .ok (.aload_n 3, 1) := by decide +kernel
theorem dX18_marry_127 : decode cX18_marry 127 = .ok (.iload_n 2, 1) := by decide +kernel
theorem dX18_marry_128 : decode cX18_marry 128 = .ok (.putfield 344, 3) := by decide +kernel
theorem dX18_marry_131 : decode cX18_marry 131 = .ok (.aload 4, 2) := by decide +kernel
theorem dX18_marry_133 : decode cX18_marry 133 = .ok (.iload_n 1, 1) := by decide +kernel
theorem dX18_marry_134 : decode cX18_marry 134 = .ok (.putfield 344, 3) := by decide +kernel
theorem dX18_marry_137 : decode cX18_marry 137 = .ok (.aload_n 0, 1) := by decide +kernel
theorem dX18_marry_138 : decode cX18_marry 138 = .ok (.aload 4, 2) := by decide +kernel
theorem dX18_marry_140 : decode cX18_marry 140 = .ok (.invokevirtual 340, 3) := by decide +kernel
theorem dX18_marry_143 : decode cX18_marry 143 = .ok (.ireturn, 1) := by decide +kernel
set_option maxRecDepth 20000 in
theorem ggX18_death_X18_failsPerson : GoodIn wsX18_death wsX18_failsPerson := goodIn_r _ [9, 10, 11, 12, 8, 13, 1, 14, 15, 16, 17, 18, 19, 20, 21, 22, 23, 24, 25, 26, 27, 139, 140, 141, 142, 143, 144, 145, 146, 147, 148, 149, 150, 151, 152, 153, 154, 155, 156, 157, 158, 159, 160, 161, 162, 163, 164, 165, 166, 182, 183, 184] (by decide +kernel) (by decide +kernel)
set_option maxRecDepth 20000 in
theorem gX18_death_X18_failsPerson : GoodIn wsX18_death (wsV RX18 337 RX18 yX18_failsPerson wsX18_failsPerson) := goodIn_app (goodIn_of _ (by decide +kernel)) ggX18_death_X18_failsPerson
set_option maxRecDepth 20000 in
theorem ggX18_death_Jx4a65c_get_915e3 : GoodIn wsX18_death wsJx4a65c_get_915e3 := goodIn_r _ [31, 19, 32, 33, 34, 35, 36, 37, 38, 39, 40, 41, 42, 17, 43, 44, 182, 183, 184] (by decide +kernel) (by decide +kernel)
set_option maxRecDepth 20000 in
theorem gX18_death_Jx4a65c_get_915e3 : GoodIn wsX18_death (wsV RX18 294 RJx4a65c yJx4a65c_get_915e3 wsJx4a65c_get_915e3) := goodIn_app (goodIn_of _ (by decide +kernel)) ggX18_death_Jx4a65c_get_915e3
set_option maxRecDepth 20000 in
theorem ggX18_death_X18_fails : GoodIn wsX18_death wsX18_fails := goodIn_r _ [26, 27, 139, 140, 141, 142, 143, 144, 145, 146, 147, 148, 149, 150, 151, 152, 153, 154, 155, 156, 157, 158, 159, 160, 161, 162, 163, 164, 165, 166] (by decide +kernel) (by decide +kernel)
set_option maxRecDepth 20000 in
theorem gX18_death_X18_fails : GoodIn wsX18_death (wsV RX18 84 RX18 yX18_fails wsX18_fails) := goodIn_app (goodIn_of _ (by decide +kernel)) ggX18_death_X18_fails
set_option maxRecDepth 20000 in
theorem ggX18_death_X18_bears : GoodIn wsX18_death wsX18_bears := goodIn_ca (goodIn_r _ [48, 4, 49, 50, 51, 52, 53, 1, 2, 54, 55, 56, 8, 57, 28, 29, 30, 17, 31, 19, 32, 33, 34, 35, 36, 37, 38, 39, 40, 41, 42, 43, 44, 14, 15, 16, 18, 58, 59, 60, 61, 62, 63, 64, 65, 66, 67, 68, 69, 70, 71, 72, 73, 74, 75, 76, 77, 78, 79, 80, 81, 82, 83, 84, 85, 86, 87, 88, 89, 90, 91, 92, 93, 94, 95, 96, 97, 98, 99, 100, 101, 102, 103, 104, 105, 106, 107, 108, 109, 110, 111, 112, 113, 114, 115, 116, 117, 118, 119, 45, 46, 47, 120, 121, 122, 123, 124, 125, 126, 167, 168, 169, 170, 171, 172, 173, 174, 175, 176, 177, 178, 179, 180, 181, 185, 186, 139, 140, 141, 142, 143, 144, 145, 146, 147, 148, 149, 150, 151, 152, 153, 154, 155, 156, 157, 158, 159, 160, 161, 162, 163, 164, 165, 166, 187, 188, 189, 190, 191, 192, 193, 194, 195, 196, 182, 183, 184, 197, 198, 199, 200] (by decide +kernel) (by decide +kernel)) (goodIn_sub (fun _ h => List.mem_cons_of_mem _ (List.mem_append_right _ h)) (by decide +kernel))
set_option maxRecDepth 20000 in
theorem gX18_death_X18_bears : GoodIn wsX18_death (wsV RX18 347 RX18 yX18_bears wsX18_bears) := goodIn_app (goodIn_of _ (by decide +kernel)) ggX18_death_X18_bears
set_option maxRecDepth 20000 in
theorem ggX18_death_X18_heiress : GoodIn wsX18_death wsX18_heiress := goodIn_r _ [130, 1, 2, 28, 29, 30, 17, 31, 19, 32, 33, 34, 35, 36, 37, 38, 39, 40, 41, 42, 43, 44, 74, 75, 76, 8, 77, 78, 79, 80, 81, 82, 83, 84, 85, 86, 87, 88, 89, 62, 63, 90, 91, 92, 93, 94, 95, 96, 97, 98, 99, 100, 101, 102, 103, 104, 105, 106, 107, 108, 109, 110, 111, 167, 168, 169, 170, 171, 172, 173, 174, 175, 176, 177, 178, 179, 180, 181, 139, 140, 141, 142, 143, 144, 145, 146, 147, 148, 149, 150, 151, 152, 153, 154, 155, 156, 157, 158, 159, 160, 161, 162, 163, 164, 165, 166, 182, 183, 184, 197, 198, 199, 200] (by decide +kernel) (by decide +kernel)
set_option maxRecDepth 20000 in
theorem gX18_death_X18_heiress : GoodIn wsX18_death (wsV RX18 340 RX18 yX18_heiress wsX18_heiress) := goodIn_app (goodIn_of _ (by decide +kernel)) ggX18_death_X18_heiress
set_option maxRecDepth 20000 in
theorem ggX18_death_X18_isHeir : GoodIn wsX18_death wsX18_isHeir := goodIn_r _ [123, 1, 2, 28, 29, 30, 17, 31, 19, 32, 33, 34, 35, 36, 37, 38, 39, 40, 41, 42, 43, 44, 78, 79, 80, 81, 82, 83, 84, 85, 86, 87, 88, 89, 62, 63, 90, 91, 92, 93, 94, 95, 96, 97, 98, 99, 100, 101, 102, 103, 104, 105, 106, 107, 108, 109, 110, 8, 111, 74, 75, 76, 77, 167, 168, 169, 170, 171, 172, 173, 174, 175, 176, 177, 178, 179, 180, 181, 139, 140, 141, 142, 143, 144, 145, 146, 147, 148, 149, 150, 151, 152, 153, 154, 155, 156, 157, 158, 159, 160, 161, 162, 163, 164, 165, 166, 182, 183, 184, 197, 198, 199, 200] (by decide +kernel) (by decide +kernel)
set_option maxRecDepth 20000 in
theorem gX18_death_X18_isHeir : GoodIn wsX18_death (wsV RX18 358 RX18 yX18_isHeir wsX18_isHeir) := goodIn_app (goodIn_of _ (by decide +kernel)) ggX18_death_X18_isHeir
set_option maxRecDepth 20000 in
theorem ggX18_death_Jx4a65c_size_8abf5 : GoodIn wsX18_death wsJx4a65c_size_8abf5 := goodIn_r _ [18, 19, 182, 183, 184] (by decide +kernel) (by decide +kernel)
set_option maxRecDepth 20000 in
theorem gX18_death_Jx4a65c_size_8abf5 : GoodIn wsX18_death (wsV RX18 288 RJx4a65c yJx4a65c_size_8abf5 wsJx4a65c_size_8abf5) := goodIn_app (goodIn_of _ (by decide +kernel)) ggX18_death_Jx4a65c_size_8abf5
set_option maxRecDepth 20000 in
theorem ggX18_death_X18_abeyant : GoodIn wsX18_death wsX18_abeyant := goodIn_r _ [134, 135, 136, 137, 8, 138, 1, 2, 70, 71, 72, 73, 4, 49, 28, 29, 30, 17, 31, 19, 32, 33, 34, 35, 36, 37, 38, 39, 40, 41, 42, 43, 44, 74, 75, 76, 77, 78, 79, 80, 81, 82, 83, 84, 85, 86, 87, 88, 89, 62, 63, 90, 91, 92, 93, 94, 95, 96, 97, 98, 99, 100, 101, 102, 103, 104, 105, 106, 107, 108, 109, 110, 111, 112, 113, 114, 115, 116, 117, 118, 119, 66, 67, 68, 69, 139, 140, 141, 142, 143, 144, 145, 146, 147, 148, 149, 150, 151, 152, 153, 154, 155, 156, 157, 158, 159, 160, 161, 162, 163, 164, 165, 166, 187, 188, 189, 190, 191, 192, 193, 194, 195, 196, 167, 168, 169, 170, 171, 172, 173, 174, 175, 176, 177, 178, 179, 180, 181, 182, 183, 184, 197, 198, 199, 200, 185, 186] (by decide +kernel) (by decide +kernel)
set_option maxRecDepth 20000 in
theorem gX18_death_X18_abeyant : GoodIn wsX18_death (wsV RX18 370 RX18 yX18_abeyant wsX18_abeyant) := goodIn_app (goodIn_of _ (by decide +kernel)) ggX18_death_X18_abeyant
theorem dX18_death_0 : decode cX18_death 0 = .ok (.aload_n 0, 1) := by decide +kernel
theorem dX18_death_1 : decode cX18_death 1 = .ok (.iload_n 1, 1) := by decide +kernel
theorem dX18_death_2 : decode cX18_death 2 = .ok (.invokevirtual 337, 3) := by decide +kernel
theorem dX18_death_5 : decode cX18_death 5 = .ok (.ifCond .ne 32, 3) := by decide +kernel
theorem dX18_death_8 : decode cX18_death 8 = .ok (.aload_n 0, 1) := by decide +kernel
theorem dX18_death_9 : decode cX18_death 9 = .ok (.aload_n 0, 1) := by decide +kernel
theorem dX18_death_10 : decode cX18_death 10 = .ok (.getfield 16, 3) := by decide +kernel
theorem dX18_death_13 : decode cX18_death 13 = .ok (.iload_n 1, 1) := by decide +kernel
theorem dX18_death_14 : decode cX18_death 14 = .ok (.invokevirtual 294, 3) := by decide +kernel
theorem dX18_death_17 : decode cX18_death 17 = .ok (.checkcast 298, 3) := by decide +kernel
theorem dX18_death_20 : decode cX18_death 20 = .ok (.getfield 330, 3) := by decide +kernel
theorem dX18_death_23 : decode cX18_death 23 = .ok (.ifCond .eq 7, 3) := by decide +kernel
theorem dX18_death_26 : decode cX18_death 26 = .ok (.iconst 0, 1) := by decide +kernel
theorem dX18_death_27 : decode cX18_death 27 = .ok (.goto 4, 3) := by decide +kernel
theorem dX18_death_30 : decode cX18_death 30 = .ok (.iconst 2, 1) := by decide +kernel
theorem dX18_death_31 : decode cX18_death 31 = .ok (.invokevirtual 84, 3) := by decide +kernel
theorem dX18_death_34 : decode cX18_death 34 = .ok (.ifCond .eq 5, 3) := by decide +kernel
theorem dX18_death_37 : decode cX18_death 37 = .ok (.iconst 0, 1) := by decide +kernel
theorem dX18_death_38 : decode cX18_death 38 = .ok (.ireturn, 1) := by decide +kernel
theorem dX18_death_39 : decode cX18_death 39 = .ok (.aload_n 0, 1) := by decide +kernel
theorem dX18_death_40 : decode cX18_death 40 = .ok (.getfield 16, 3) := by decide +kernel
theorem dX18_death_43 : decode cX18_death 43 = .ok (.iload_n 1, 1) := by decide +kernel
theorem dX18_death_44 : decode cX18_death 44 = .ok (.invokevirtual 294, 3) := by decide +kernel
theorem dX18_death_47 : decode cX18_death 47 = .ok (.checkcast 298, 3) := by decide +kernel
theorem dX18_death_50 : decode cX18_death 50 = .ok (.astore_n 2, 1) := by decide +kernel
theorem dX18_death_51 : decode cX18_death 51 = .ok (.aload_n 2, 1) := by decide +kernel
theorem dX18_death_52 : decode cX18_death 52 = .ok (.aload_n 0, 1) := by decide +kernel
theorem dX18_death_53 : decode cX18_death 53 = .ok (.aload_n 2, 1) := by decide +kernel
theorem dX18_death_54 : decode cX18_death 54 = .ok (.invokevirtual 347, 3) := by decide +kernel
theorem dX18_death_57 : decode cX18_death 57 = .ok (.putfield 351, 3) := by decide +kernel
theorem dX18_death_60 : decode cX18_death 60 = .ok (.aload_n 2, 1) := by decide +kernel
theorem dX18_death_61 : decode cX18_death 61 = .ok (.aload_n 0, 1) := by decide +kernel
theorem dX18_death_62 : decode cX18_death 62 = .ok (.aload_n 2, 1) := by decide +kernel
theorem dX18_death_63 : decode cX18_death 63 = .ok (.invokevirtual 340, 3) := by decide +kernel
theorem dX18_death_66 : decode cX18_death 66 = .ok (.putfield 355, 3) := by decide +kernel
theorem dX18_death_69 : decode cX18_death 69 = .ok (.aload_n 2, 1) := by decide +kernel
theorem dX18_death_70 : decode cX18_death 70 = .ok (.aload_n 0, 1) := by decide +kernel
theorem dX18_death_71 : decode cX18_death 71 = .ok (.aload_n 2, 1) := by decide +kernel
theorem dX18_death_72 : decode cX18_death 72 = .ok (.invokevirtual 358, 3) := by decide +kernel
theorem dX18_death_75 : decode cX18_death 75 = .ok (.putfield 361, 3) := by decide +kernel
theorem dX18_death_78 : decode cX18_death 78 = .ok (.aload_n 2, 1) := by decide +kernel
theorem dX18_death_79 : decode cX18_death 79 = .ok (.iconst 0, 1) := by decide +kernel
theorem dX18_death_80 : decode cX18_death 80 = .ok (.putfield 330, 3) := by decide +kernel
theorem dX18_death_83 : decode cX18_death 83 = .ok (.aload_n 0, 1) := by decide +kernel
theorem dX18_death_84 : decode cX18_death 84 = .ok (.dup, 1) := by decide +kernel
theorem dX18_death_85 : decode cX18_death 85 = .ok (.getfield 364, 3) := by decide +kernel
theorem dX18_death_88 : decode cX18_death 88 = .ok (.iconst 1, 1) := by decide +kernel
theorem dX18_death_89 : decode cX18_death 89 = .ok (.iadd, 1) := by decide +kernel
theorem dX18_death_90 : decode cX18_death 90 = .ok (.putfield 364, 3) := by decide +kernel
theorem dX18_death_93 : decode cX18_death 93 = .ok (.aload_n 2, 1) := by decide +kernel
theorem dX18_death_94 : decode cX18_death 94 = .ok (.aload_n 0, 1) := by decide +kernel
theorem dX18_death_95 : decode cX18_death 95 = .ok (.getfield 364, 3) := by decide +kernel
theorem dX18_death_98 : decode cX18_death 98 = .ok (.putfield 367, 3) := by decide +kernel
theorem dX18_death_101 : decode cX18_death 101 = .ok (.aload_n 2, 1) := by decide +kernel
theorem dX18_death_102 : decode cX18_death 102 = .ok (.getfield 344, 3) := by decide +kernel
theorem dX18_death_105 : decode cX18_death 105 = .ok (.ifCond .lt 26, 3) := by decide +kernel
theorem dX18_death_108 : decode cX18_death 108 = .ok (.aload_n 0, 1) := by decide +kernel
theorem dX18_death_109 : decode cX18_death 109 = .ok (.getfield 16, 3) := by decide +kernel
theorem dX18_death_112 : decode cX18_death 112 = .ok (.aload_n 2, 1) := by decide +kernel
theorem dX18_death_113 : decode cX18_death 113 = .ok (.getfield 344, 3) := by decide +kernel
theorem dX18_death_116 : decode cX18_death 116 = .ok (.invokevirtual 294, 3) := by decide +kernel
theorem dX18_death_119 : decode cX18_death 119 = .ok (.checkcast 298, 3) := by decide +kernel
theorem dX18_death_122 : decode cX18_death 122 = .ok (.iconst (-1), 1) := by decide +kernel
theorem dX18_death_123 : decode cX18_death 123 = .ok (.putfield 344, 3) := by decide +kernel
theorem dX18_death_126 : decode cX18_death 126 = .ok (.aload_n 2, 1) := by decide +kernel
theorem dX18_death_127 : decode cX18_death 127 = .ok (.iconst (-1), 1) := by decide +kernel
theorem dX18_death_128 : decode cX18_death 128 = .ok (.putfield 344, 3) := by decide +kernel
theorem dX18_death_131 : decode cX18_death 131 = .ok (.iconst 0, 1) := by decide +kernel
theorem dX18_death_132 : decode cX18_death 132 = .ok (.istore_n 3, 1) := by decide +kernel
theorem dX18_death_133 : decode cX18_death 133 = .ok (.iconst 0, 1) := by decide +kernel
theorem dX18_death_134 : decode cX18_death 134 = .ok (.istore 4, 2) := by decide +kernel
theorem dX18_death_136 : decode cX18_death 136 = .ok (.iload 4, 2) := by decide +kernel
theorem dX18_death_138 : decode cX18_death 138 = .ok (.aload_n 0, 1) := by decide +kernel
theorem dX18_death_139 : decode cX18_death 139 = .ok (.getfield 20, 3) := by decide +kernel
theorem dX18_death_142 : decode cX18_death 142 = .ok (.invokevirtual 288, 3) := by decide +kernel
theorem dX18_death_145 : decode cX18_death 145 = .ok (.if_icmp .ge 26, 3) := by decide +kernel
theorem dX18_death_148 : decode cX18_death 148 = .ok (.iload_n 3, 1) := by decide +kernel
theorem dX18_death_149 : decode cX18_death 149 = .ok (.aload_n 0, 1) := by decide +kernel
theorem dX18_death_150 : decode cX18_death 150 = .ok (.iload 4, 2) := by decide +kernel
theorem dX18_death_152 : decode cX18_death 152 = .ok (.invokevirtual 370, 3) := by decide +kernel
theorem dX18_death_155 : decode cX18_death 155 = .ok (.ifCond .eq 7, 3) := by decide +kernel
theorem dX18_death_158 : decode cX18_death 158 = .ok (.iconst 1, 1) := by decide +kernel
theorem dX18_death_159 : decode cX18_death 159 = .ok (.goto 4, 3) := by decide +kernel
theorem dX18_death_162 : decode cX18_death 162 = .ok (.iconst 0, 1) := by decide +kernel
theorem dX18_death_163 : decode cX18_death 163 = .ok (.iadd, 1) := by decide +kernel
theorem dX18_death_164 : decode cX18_death 164 = .ok (.istore_n 3, 1) := by decide +kernel
theorem dX18_death_165 : decode cX18_death 165 = .ok (.iinc 4 1, 3) := by decide +kernel
theorem dX18_death_168 : decode cX18_death 168 = .ok (.goto (-32), 3) := by decide +kernel
theorem dX18_death_171 : decode cX18_death 171 = .ok (.iload_n 3, 1) := by decide +kernel
theorem dX18_death_172 : decode cX18_death 172 = .ok (.ireturn, 1) := by decide +kernel
set_option maxRecDepth 20000 in
theorem ggX18_isVoid_Jx4a65c_get_915e3 : GoodIn wsX18_isVoid wsJx4a65c_get_915e3 := goodIn_r _ [7, 8, 9, 10, 11, 12, 13, 14, 15, 16, 17, 18, 19, 6, 20, 21, 60, 61, 62] (by decide +kernel) (by decide +kernel)
set_option maxRecDepth 20000 in
theorem gX18_isVoid_Jx4a65c_get_915e3 : GoodIn wsX18_isVoid (wsV RX18 294 RJx4a65c yJx4a65c_get_915e3 wsJx4a65c_get_915e3) := goodIn_app (goodIn_of _ (by decide +kernel)) ggX18_isVoid_Jx4a65c_get_915e3
theorem dX18_isVoid_0 : decode cX18_isVoid 0 = .ok (.aload_n 0, 1) := by decide +kernel
theorem dX18_isVoid_1 : decode cX18_isVoid 1 = .ok (.getfield 20, 3) := by decide +kernel
theorem dX18_isVoid_4 : decode cX18_isVoid 4 = .ok (.iload_n 1, 1) := by decide +kernel
theorem dX18_isVoid_5 : decode cX18_isVoid 5 = .ok (.invokevirtual 294, 3) := by decide +kernel
theorem dX18_isVoid_8 : decode cX18_isVoid 8 = .ok (.checkcast 373, 3) := by decide +kernel
theorem dX18_isVoid_11 : decode cX18_isVoid 11 = .ok (.getfield 375, 3) := by decide +kernel
theorem dX18_isVoid_14 : decode cX18_isVoid 14 = .ok (.bipush 118, 2) := by decide +kernel
theorem dX18_isVoid_16 : decode cX18_isVoid 16 = .ok (.if_icmp .ne 7, 3) := by decide +kernel
theorem dX18_isVoid_19 : decode cX18_isVoid 19 = .ok (.iconst 1, 1) := by decide +kernel
theorem dX18_isVoid_20 : decode cX18_isVoid 20 = .ok (.goto 4, 3) := by decide +kernel
theorem dX18_isVoid_23 : decode cX18_isVoid 23 = .ok (.iconst 0, 1) := by decide +kernel
theorem dX18_isVoid_24 : decode cX18_isVoid 24 = .ok (.ireturn, 1) := by decide +kernel
theorem dX18_more_0 : decode cX18_more 0 = .ok (.aload_n 0, 1) := by decide +kernel
theorem dX18_more_1 : decode cX18_more 1 = .ok (.arraylength, 1) := by decide +kernel
theorem dX18_more_2 : decode cX18_more 2 = .ok (.iconst 1, 1) := by decide +kernel
theorem dX18_more_3 : decode cX18_more 3 = .ok (.iadd, 1) := by decide +kernel
theorem dX18_more_4 : decode cX18_more 4 = .ok (.newarray .int, 2) := by decide +kernel
theorem dX18_more_6 : decode cX18_more 6 = .ok (.astore_n 2, 1) := by decide +kernel
theorem dX18_more_7 : decode cX18_more 7 = .ok (.iconst 0, 1) := by decide +kernel
theorem dX18_more_8 : decode cX18_more 8 = .ok (.istore_n 3, 1) := by decide +kernel
theorem dX18_more_9 : decode cX18_more 9 = .ok (.iload_n 3, 1) := by decide +kernel
theorem dX18_more_10 : decode cX18_more 10 = .ok (.aload_n 0, 1) := by decide +kernel
theorem dX18_more_11 : decode cX18_more 11 = .ok (.arraylength, 1) := by decide +kernel
theorem dX18_more_12 : decode cX18_more 12 = .ok (.if_icmp .ge 15, 3) := by decide +kernel
theorem dX18_more_15 : decode cX18_more 15 = .ok (.aload_n 2, 1) := by decide +kernel
theorem dX18_more_16 : decode cX18_more 16 = .ok (.iload_n 3, 1) := by decide +kernel
theorem dX18_more_17 : decode cX18_more 17 = .ok (.aload_n 0, 1) := by decide +kernel
theorem dX18_more_18 : decode cX18_more 18 = .ok (.iload_n 3, 1) := by decide +kernel
theorem dX18_more_19 : decode cX18_more 19 = .ok (.iaload, 1) := by decide +kernel
theorem dX18_more_20 : decode cX18_more 20 = .ok (.iastore, 1) := by decide +kernel
theorem dX18_more_21 : decode cX18_more 21 = .ok (.iinc 3 1, 3) := by decide +kernel
theorem dX18_more_24 : decode cX18_more 24 = .ok (.goto (-15), 3) := by decide +kernel
theorem dX18_more_27 : decode cX18_more 27 = .ok (.aload_n 2, 1) := by decide +kernel
theorem dX18_more_28 : decode cX18_more 28 = .ok (.aload_n 0, 1) := by decide +kernel
theorem dX18_more_29 : decode cX18_more 29 = .ok (.arraylength, 1) := by decide +kernel
theorem dX18_more_30 : decode cX18_more 30 = .ok (.iload_n 1, 1) := by decide +kernel
theorem dX18_more_31 : decode cX18_more 31 = .ok (.iastore, 1) := by decide +kernel
theorem dX18_more_32 : decode cX18_more 32 = .ok (.aload_n 2, 1) := by decide +kernel
theorem dX18_more_33 : decode cX18_more 33 = .ok (.areturn, 1) := by decide +kernel
set_option maxRecDepth 20000 in
theorem ggX18_bears_X18_isVoid : GoodIn wsX18_bears wsX18_isVoid := goodIn_r _ [13, 1, 2, 14, 15, 16, 17, 18, 19, 20, 21, 22, 23, 24, 25, 26, 27, 28, 29, 30, 31, 32, 126, 127, 128, 129, 130, 131, 132, 133, 134, 135, 136, 137, 138, 139, 140, 141, 142, 143, 144, 145, 146, 147, 148, 149, 150, 151, 152, 153, 154, 155, 156, 157, 158, 159, 160, 161, 162, 163, 164, 165, 166] (by decide +kernel) (by decide +kernel)
set_option maxRecDepth 20000 in
theorem gX18_bears_X18_isVoid : GoodIn wsX18_bears (wsV RX18 383 RX18 yX18_isVoid wsX18_isVoid) := goodIn_app (goodIn_of _ (by decide +kernel)) ggX18_bears_X18_isVoid
set_option maxRecDepth 20000 in
theorem ggX18_bears_Jx4a65c_size_8abf5 : GoodIn wsX18_bears wsJx4a65c_size_8abf5 := goodIn_r _ [36, 19, 164, 165, 166] (by decide +kernel) (by decide +kernel)
set_option maxRecDepth 20000 in
theorem gX18_bears_Jx4a65c_size_8abf5 : GoodIn wsX18_bears (wsV RX18 288 RJx4a65c yJx4a65c_size_8abf5 wsJx4a65c_size_8abf5) := goodIn_app (goodIn_of _ (by decide +kernel)) ggX18_bears_Jx4a65c_size_8abf5
set_option maxRecDepth 20000 in
theorem ggX18_bears_Jx4a65c_get_915e3 : GoodIn wsX18_bears wsJx4a65c_get_915e3 := goodIn_r _ [18, 19, 20, 21, 22, 23, 24, 25, 26, 27, 28, 29, 30, 17, 31, 32, 164, 165, 166] (by decide +kernel) (by decide +kernel)
set_option maxRecDepth 20000 in
theorem gX18_bears_Jx4a65c_get_915e3 : GoodIn wsX18_bears (wsV RX18 294 RJx4a65c yJx4a65c_get_915e3 wsJx4a65c_get_915e3) := goodIn_app (goodIn_of _ (by decide +kernel)) ggX18_bears_Jx4a65c_get_915e3
set_option maxRecDepth 20000 in
theorem ggX18_bears_X13_init : GoodIn wsX18_bears wsX13_init := goodIn_r _ [39, 40, 41, 42, 43, 44, 124, 125] (by decide +kernel) (by decide +kernel)
set_option maxRecDepth 20000 in
theorem gX18_bears_X13_init : GoodIn wsX18_bears (wsX13_init) := ggX18_bears_X13_init
set_option maxRecDepth 20000 in
theorem ggX18_bears_X18_fallsTo : GoodIn wsX18_bears wsX18_fallsTo := goodIn_r _ [48, 7, 8, 1, 2, 49, 50, 51, 12, 52, 14, 15, 16, 17, 18, 19, 20, 21, 22, 23, 24, 25, 26, 27, 28, 29, 30, 31, 32, 53, 54, 55, 56, 57, 58, 59, 60, 61, 62, 63, 64, 65, 66, 67, 68, 41, 42, 69, 70, 71, 72, 73, 74, 75, 76, 77, 78, 79, 80, 81, 82, 83, 84, 85, 86, 87, 88, 89, 90, 91, 92, 93, 94, 95, 96, 97, 98, 126, 127, 128, 129, 130, 131, 132, 133, 134, 135, 136, 137, 138, 139, 140, 141, 142, 143, 144, 145, 146, 147, 148, 149, 150, 151, 152, 153, 109, 110, 111, 112, 113, 114, 115, 116, 117, 118, 119, 120, 121, 122, 123, 154, 155, 156, 157, 158, 159, 160, 161, 162, 163, 164, 165, 166, 167, 168, 169, 170, 124, 125] (by decide +kernel) (by decide +kernel)
set_option maxRecDepth 20000 in
theorem gX18_bears_X18_fallsTo : GoodIn wsX18_bears (wsV RX18 392 RX18 yX18_fallsTo wsX18_fallsTo) := goodIn_app (goodIn_of _ (by decide +kernel)) ggX18_bears_X18_fallsTo
set_option maxRecDepth 20000 in
theorem ggX18_bears_X18_bears : GoodIn wsX18_bears wsX18_bears := goodIn_ca (goodIn_r _ [0, 1, 2, 3, 4, 5, 6, 7, 8, 9, 10, 11, 12, 13, 14, 15, 16, 17, 18, 19, 20, 21, 22, 23, 24, 25, 26, 27, 28, 29, 30, 31, 32, 33, 34, 35, 36, 37, 38, 39, 40, 41, 42, 43, 44, 45, 46, 47, 48, 49, 50, 51, 52, 53, 54, 55, 56, 57, 58, 59, 60, 61, 62, 63, 64, 65, 66, 67, 68, 69, 70, 71, 72, 73, 74, 75, 76, 77, 78, 79, 80, 81, 82, 83, 84, 85, 86, 87, 88, 89, 90, 91, 92, 93, 94, 95, 96, 97, 98, 99, 100, 101, 102, 103, 104, 105, 106, 107, 108, 109, 110, 111, 112, 113, 114, 115, 116, 117, 118, 119, 120, 121, 122, 123, 124, 125, 126, 127, 128, 129, 130, 131, 132, 133, 134, 135, 136, 137, 138, 139, 140, 141, 142, 143, 144, 145, 146, 147, 148, 149, 150, 151, 152, 153, 154, 155, 156, 157, 158, 159, 160, 161, 162, 163, 164, 165, 166, 167, 168, 169, 170] (by decide +kernel) (by decide +kernel)) (goodIn_sub (fun _ h => List.mem_cons_of_mem _ (List.mem_append_right _ h)) (by decide +kernel))
set_option maxRecDepth 20000 in
theorem gX18_bears_X18_bears : GoodIn wsX18_bears (wsV RX18 347 RX18 yX18_bears wsX18_bears) := goodIn_app (goodIn_of _ (by decide +kernel)) ggX18_bears_X18_bears
set_option maxRecDepth 20000 in
theorem ggX18_bears_X18_isHeir : GoodIn wsX18_bears wsX18_isHeir := goodIn_r _ [105, 7, 8, 14, 15, 16, 17, 18, 19, 20, 21, 22, 23, 24, 25, 26, 27, 28, 29, 30, 31, 32, 57, 58, 59, 60, 61, 62, 63, 64, 65, 66, 67, 68, 41, 42, 69, 70, 71, 72, 73, 74, 75, 76, 77, 78, 79, 80, 81, 82, 83, 84, 85, 86, 87, 88, 89, 12, 90, 53, 54, 55, 56, 109, 110, 111, 112, 113, 114, 115, 116, 117, 118, 119, 120, 121, 122, 123, 126, 127, 128, 129, 130, 131, 132, 133, 134, 135, 136, 137, 138, 139, 140, 141, 142, 143, 144, 145, 146, 147, 148, 149, 150, 151, 152, 153, 164, 165, 166, 167, 168, 169, 170] (by decide +kernel) (by decide +kernel)
set_option maxRecDepth 20000 in
theorem gX18_bears_X18_isHeir : GoodIn wsX18_bears (wsV RX18 358 RX18 yX18_isHeir wsX18_isHeir) := goodIn_app (goodIn_of _ (by decide +kernel)) ggX18_bears_X18_isHeir
set_option maxRecDepth 20000 in
theorem ggX18_bears_Jx4a65c_iterator_32c93 : GoodIn wsX18_bears wsJx4a65c_iterator_32c93 := goodIn_r _ [60, 61, 62, 63, 64, 65, 66, 67, 68, 41, 42, 69, 70, 71, 72, 167, 168, 169, 170, 164, 165, 166] (by decide +kernel) (by decide +kernel)
set_option maxRecDepth 20000 in
theorem gX18_bears_Jx4a65c_iterator_32c93 : GoodIn wsX18_bears (wsV RX18 313 RJx4a65c yJx4a65c_iterator_32c93 wsJx4a65c_iterator_32c93) := goodIn_app (goodIn_of _ (by decide +kernel)) ggX18_bears_Jx4a65c_iterator_32c93
set_option maxRecDepth 20000 in
theorem ggX18_bears_Jx35411_hasNext_aae02 : GoodIn wsX18_bears wsJx35411_hasNext_aae02 := goodIn_r _ [76, 77, 67, 167, 168, 169, 170, 164, 165, 166] (by decide +kernel) (by decide +kernel)
set_option maxRecDepth 20000 in
theorem gX18_bears_Jx35411_hasNext_aae02_f317Jx35411 : GoodIn wsX18_bears (va_wsF RX18 317 RJx35411 ⟨"java/util/Iterator", "hasNext", "()Z"⟩ yJx35411_hasNext_aae02 wsJx35411_hasNext_aae02) := goodIn_app (goodIn_of _ (by decide +kernel)) ggX18_bears_Jx35411_hasNext_aae02
set_option maxRecDepth 20000 in
theorem ggX18_bears_Jx35411_next_0502b : GoodIn wsX18_bears wsJx35411_next_0502b := goodIn_r _ [81, 77, 67, 82, 69, 83, 84, 85, 63, 86, 70, 71, 72, 167, 168, 169, 170, 164, 165, 166] (by decide +kernel) (by decide +kernel)
set_option maxRecDepth 20000 in
theorem gX18_bears_Jx35411_next_0502b_f322Jx35411 : GoodIn wsX18_bears (va_wsF RX18 322 RJx35411 ⟨"java/util/Iterator", "next", "()Ljava/lang/Object;"⟩ yJx35411_next_0502b wsJx35411_next_0502b) := goodIn_app (goodIn_of _ (by decide +kernel)) ggX18_bears_Jx35411_next_0502b
set_option maxRecDepth 20000 in
theorem ggX18_bears_X18_isSonOf : GoodIn wsX18_bears wsX18_isSonOf := goodIn_r _ [90, 109, 110, 111, 112, 113, 114, 115, 116, 117, 118, 119, 120, 121, 122, 123] (by decide +kernel) (by decide +kernel)
set_option maxRecDepth 20000 in
theorem gX18_bears_X18_isSonOf : GoodIn wsX18_bears (wsV RX18 326 RX18 yX18_isSonOf wsX18_isSonOf) := goodIn_app (goodIn_of _ (by decide +kernel)) ggX18_bears_X18_isSonOf
set_option maxRecDepth 20000 in
theorem ggX18_bears_X18_more : GoodIn wsX18_bears wsX18_more := goodIn_ca (goodIn_r _ [108, 6] (by decide +kernel) (by decide +kernel)) (goodIn_sub (fun _ h => List.mem_cons_of_mem _ (List.mem_append_right _ h)) (by decide +kernel))
set_option maxRecDepth 20000 in
theorem gX18_bears_X18_more : GoodIn wsX18_bears (va_wsS RX18 398 yX18_more wsX18_more) := goodIn_app (goodIn_of _ (by decide +kernel)) ggX18_bears_X18_more
theorem dX18_bears_0 : decode cX18_bears 0 = .ok (.aload_n 1, 1) := by decide +kernel
theorem dX18_bears_1 : decode cX18_bears 1 = .ok (.getfield 330, 3) := by decide +kernel
theorem dX18_bears_4 : decode cX18_bears 4 = .ok (.ifCond .ne 33, 3) := by decide +kernel
theorem dX18_bears_7 : decode cX18_bears 7 = .ok (.aload_n 1, 1) := by decide +kernel
theorem dX18_bears_8 : decode cX18_bears 8 = .ok (.getfield 351, 3) := by decide +kernel
theorem dX18_bears_11 : decode cX18_bears 11 = .ok (.ifnull 17, 3) := by decide +kernel
theorem dX18_bears_14 : decode cX18_bears 14 = .ok (.aload_n 0, 1) := by decide +kernel
theorem dX18_bears_15 : decode cX18_bears 15 = .ok (.aload_n 1, 1) := by decide +kernel
theorem dX18_bears_16 : decode cX18_bears 16 = .ok (.getfield 351, 3) := by decide +kernel
theorem dX18_bears_19 : decode cX18_bears 19 = .ok (.getfield 378, 3) := by decide +kernel
theorem dX18_bears_22 : decode cX18_bears 22 = .ok (.invokevirtual 383, 3) := by decide +kernel
theorem dX18_bears_25 : decode cX18_bears 25 = .ok (.ifCond .eq 7, 3) := by decide +kernel
theorem dX18_bears_28 : decode cX18_bears 28 = .ok (.aconst_null, 1) := by decide +kernel
theorem dX18_bears_29 : decode cX18_bears 29 = .ok (.goto 7, 3) := by decide +kernel
theorem dX18_bears_32 : decode cX18_bears 32 = .ok (.aload_n 1, 1) := by decide +kernel
theorem dX18_bears_33 : decode cX18_bears 33 = .ok (.getfield 351, 3) := by decide +kernel
theorem dX18_bears_36 : decode cX18_bears 36 = .ok (.areturn, 1) := by decide +kernel
theorem dX18_bears_37 : decode cX18_bears 37 = .ok (.aload_n 0, 1) := by decide +kernel
theorem dX18_bears_38 : decode cX18_bears 38 = .ok (.getfield 20, 3) := by decide +kernel
theorem dX18_bears_41 : decode cX18_bears 41 = .ok (.invokevirtual 288, 3) := by decide +kernel
theorem dX18_bears_44 : decode cX18_bears 44 = .ok (.iconst 1, 1) := by decide +kernel
theorem dX18_bears_45 : decode cX18_bears 45 = .ok (.isub, 1) := by decide +kernel
theorem dX18_bears_46 : decode cX18_bears 46 = .ok (.istore_n 2, 1) := by decide +kernel
theorem dX18_bears_47 : decode cX18_bears 47 = .ok (.iload_n 2, 1) := by decide +kernel
theorem dX18_bears_48 : decode cX18_bears 48 = .ok (.ifCond .lt 50, 3) := by decide +kernel
theorem dX18_bears_51 : decode cX18_bears 51 = .ok (.aload_n 0, 1) := by decide +kernel
theorem dX18_bears_52 : decode cX18_bears 52 = .ok (.getfield 20, 3) := by decide +kernel
theorem dX18_bears_55 : decode cX18_bears 55 = .ok (.iload_n 2, 1) := by decide +kernel
theorem dX18_bears_56 : decode cX18_bears 56 = .ok (.invokevirtual 294, 3) := by decide +kernel
theorem dX18_bears_59 : decode cX18_bears 59 = .ok (.checkcast 373, 3) := by decide +kernel
theorem dX18_bears_62 : decode cX18_bears 62 = .ok (.getfield 386, 3) := by decide +kernel
theorem dX18_bears_65 : decode cX18_bears 65 = .ok (.aload_n 1, 1) := by decide +kernel
theorem dX18_bears_66 : decode cX18_bears 66 = .ok (.getfield 333, 3) := by decide +kernel
theorem dX18_bears_69 : decode cX18_bears 69 = .ok (.if_icmp .ne 23, 3) := by decide +kernel
theorem dX18_bears_72 : decode cX18_bears 72 = .ok (.aload_n 0, 1) := by decide +kernel
theorem dX18_bears_73 : decode cX18_bears 73 = .ok (.iload_n 2, 1) := by decide +kernel
theorem dX18_bears_74 : decode cX18_bears 74 = .ok (.invokevirtual 383, 3) := by decide +kernel
theorem dX18_bears_77 : decode cX18_bears 77 = .ok (.ifCond .ne 15, 3) := by decide +kernel
theorem dX18_bears_80 : decode cX18_bears 80 = .ok (.new 379, 3) := by decide +kernel
theorem dX18_bears_83 : decode cX18_bears 83 = .ok (.dup, 1) := by decide +kernel
theorem dX18_bears_84 : decode cX18_bears 84 = .ok (.iload_n 2, 1) := by decide +kernel
theorem dX18_bears_85 : decode cX18_bears 85 = .ok (.iconst 0, 1) := by decide +kernel
theorem dX18_bears_86 : decode cX18_bears 86 = .ok (.newarray .int, 2) := by decide +kernel
theorem dX18_bears_88 : decode cX18_bears 88 = .ok (.invokespecial 389, 3) := by decide +kernel
theorem dX18_bears_91 : decode cX18_bears 91 = .ok (.areturn, 1) := by decide +kernel
theorem dX18_bears_92 : decode cX18_bears 92 = .ok (.iinc 2 (-1), 3) := by decide +kernel
theorem dX18_bears_95 : decode cX18_bears 95 = .ok (.goto (-48), 3) := by decide +kernel
theorem dX18_bears_98 : decode cX18_bears 98 = .ok (.iconst 0, 1) := by decide +kernel
theorem dX18_bears_99 : decode cX18_bears 99 = .ok (.istore_n 2, 1) := by decide +kernel
theorem dX18_bears_100 : decode cX18_bears 100 = .ok (.aload_n 1, 1) := by decide +kernel
theorem dX18_bears_101 : decode cX18_bears 101 = .ok (.getfield 300, 3) := by decide +kernel
theorem dX18_bears_104 : decode cX18_bears 104 = .ok (.ifCond .ne 44, 3) := by decide +kernel
theorem dX18_bears_107 : decode cX18_bears 107 = .ok (.iload_n 2, 1) := by decide +kernel
theorem dX18_bears_108 : decode cX18_bears 108 = .ok (.aload_n 0, 1) := by decide +kernel
theorem dX18_bears_109 : decode cX18_bears 109 = .ok (.getfield 20, 3) := by decide +kernel
theorem dX18_bears_112 : decode cX18_bears 112 = .ok (.invokevirtual 288, 3) := by decide +kernel
theorem dX18_bears_115 : decode cX18_bears 115 = .ok (.if_icmp .ge 33, 3) := by decide +kernel
theorem dX18_bears_118 : decode cX18_bears 118 = .ok (.aload_n 0, 1) := by decide +kernel
theorem dX18_bears_119 : decode cX18_bears 119 = .ok (.iload_n 2, 1) := by decide +kernel
theorem dX18_bears_120 : decode cX18_bears 120 = .ok (.invokevirtual 392, 3) := by decide +kernel
theorem dX18_bears_123 : decode cX18_bears 123 = .ok (.aload_n 1, 1) := by decide +kernel
theorem dX18_bears_124 : decode cX18_bears 124 = .ok (.getfield 333, 3) := by decide +kernel
theorem dX18_bears_127 : decode cX18_bears 127 = .ok (.if_icmp .ne 15, 3) := by decide +kernel
theorem dX18_bears_130 : decode cX18_bears 130 = .ok (.new 379, 3) := by decide +kernel
theorem dX18_bears_133 : decode cX18_bears 133 = .ok (.dup, 1) := by decide +kernel
theorem dX18_bears_134 : decode cX18_bears 134 = .ok (.iload_n 2, 1) := by decide +kernel
theorem dX18_bears_135 : decode cX18_bears 135 = .ok (.iconst 0, 1) := by decide +kernel
theorem dX18_bears_136 : decode cX18_bears 136 = .ok (.newarray .int, 2) := by decide +kernel
theorem dX18_bears_138 : decode cX18_bears 138 = .ok (.invokespecial 389, 3) := by decide +kernel
theorem dX18_bears_141 : decode cX18_bears 141 = .ok (.areturn, 1) := by decide +kernel
theorem dX18_bears_142 : decode cX18_bears 142 = .ok (.iinc 2 1, 3) := by decide +kernel
theorem dX18_bears_145 : decode cX18_bears 145 = .ok (.goto (-45), 3) := by decide +kernel
theorem dX18_bears_148 : decode cX18_bears 148 = .ok (.aload_n 1, 1) := by decide +kernel
theorem dX18_bears_149 : decode cX18_bears 149 = .ok (.getfield 310, 3) := by decide +kernel
theorem dX18_bears_152 : decode cX18_bears 152 = .ok (.ifCond .ge 7, 3) := by decide +kernel
theorem dX18_bears_155 : decode cX18_bears 155 = .ok (.aconst_null, 1) := by decide +kernel
theorem dX18_bears_156 : decode cX18_bears 156 = .ok (.goto 21, 3) := by decide +kernel
theorem dX18_bears_159 : decode cX18_bears 159 = .ok (.aload_n 0, 1) := by decide +kernel
theorem dX18_bears_160 : decode cX18_bears 160 = .ok (.aload_n 0, 1) := by decide +kernel
theorem dX18_bears_161 : decode cX18_bears 161 = .ok (.getfield 16, 3) := by decide +kernel
theorem dX18_bears_164 : decode cX18_bears 164 = .ok (.aload_n 1, 1) := by decide +kernel
theorem dX18_bears_165 : decode cX18_bears 165 = .ok (.getfield 310, 3) := by decide +kernel
theorem dX18_bears_168 : decode cX18_bears 168 = .ok (.invokevirtual 294, 3) := by decide +kernel
theorem dX18_bears_171 : decode cX18_bears 171 = .ok (.checkcast 298, 3) := by decide +kernel
theorem dX18_bears_174 : decode cX18_bears 174 = .ok (.invokevirtual 347, 3) := by decide +kernel
theorem dX18_bears_177 : decode cX18_bears 177 = .ok (.astore_n 2, 1) := by decide +kernel
theorem dX18_bears_178 : decode cX18_bears 178 = .ok (.aload_n 2, 1) := by decide +kernel
theorem dX18_bears_179 : decode cX18_bears 179 = .ok (.ifnull 18, 3) := by decide +kernel
theorem dX18_bears_182 : decode cX18_bears 182 = .ok (.aload_n 1, 1) := by decide +kernel
theorem dX18_bears_183 : decode cX18_bears 183 = .ok (.getfield 300, 3) := by decide +kernel
theorem dX18_bears_186 : decode cX18_bears 186 = .ok (.ifCond .eq 11, 3) := by decide +kernel
theorem dX18_bears_189 : decode cX18_bears 189 = .ok (.aload_n 0, 1) := by decide +kernel
theorem dX18_bears_190 : decode cX18_bears 190 = .ok (.aload_n 1, 1) := by decide +kernel
theorem dX18_bears_191 : decode cX18_bears 191 = .ok (.invokevirtual 358, 3) := by decide +kernel
theorem dX18_bears_194 : decode cX18_bears 194 = .ok (.ifCond .eq 5, 3) := by decide +kernel
theorem dX18_bears_197 : decode cX18_bears 197 = .ok (.aload_n 2, 1) := by decide +kernel
theorem dX18_bears_198 : decode cX18_bears 198 = .ok (.areturn, 1) := by decide +kernel
theorem dX18_bears_199 : decode cX18_bears 199 = .ok (.iconst 0, 1) := by decide +kernel
theorem dX18_bears_200 : decode cX18_bears 200 = .ok (.istore_n 3, 1) := by decide +kernel
theorem dX18_bears_201 : decode cX18_bears 201 = .ok (.aload_n 0, 1) := by decide +kernel
theorem dX18_bears_202 : decode cX18_bears 202 = .ok (.getfield 16, 3) := by decide +kernel
theorem dX18_bears_205 : decode cX18_bears 205 = .ok (.invokevirtual 313, 3) := by decide +kernel
theorem dX18_bears_208 : decode cX18_bears 208 = .ok (.astore 4, 2) := by decide +kernel
theorem dX18_bears_210 : decode cX18_bears 210 = .ok (.aload 4, 2) := by decide +kernel
theorem dX18_bears_212 : decode cX18_bears 212 = .ok (.invokeinterface 317 1, 5) := by decide +kernel
theorem dX18_bears_217 : decode cX18_bears 217 = .ok (.ifCond .eq 51, 3) := by decide +kernel
theorem dX18_bears_220 : decode cX18_bears 220 = .ok (.aload 4, 2) := by decide +kernel
theorem dX18_bears_222 : decode cX18_bears 222 = .ok (.invokeinterface 322 1, 5) := by decide +kernel
theorem dX18_bears_227 : decode cX18_bears 227 = .ok (.checkcast 298, 3) := by decide +kernel
theorem dX18_bears_230 : decode cX18_bears 230 = .ok (.astore 5, 2) := by decide +kernel
theorem dX18_bears_232 : decode cX18_bears 232 = .ok (.iload_n 3, 1) := by decide +kernel
theorem dX18_bears_233 : decode cX18_bears 233 = .ok (.aload_n 0, 1) := by decide +kernel
theorem dX18_bears_234 : decode cX18_bears 234 = .ok (.aload 5, 2) := by decide +kernel
theorem dX18_bears_236 : decode cX18_bears 236 = .ok (.aload_n 1, 1) := by decide +kernel
theorem dX18_bears_237 : decode cX18_bears 237 = .ok (.getfield 310, 3) := by decide +kernel
theorem dX18_bears_240 : decode cX18_bears 240 = .ok (.invokevirtual 326, 3) := by decide +kernel
theorem dX18_bears_243 : decode cX18_bears 243 = .ok (.ifCond .eq 19, 3) := by decide +kernel
theorem dX18_bears_246 : decode cX18_bears 246 = .ok (.aload 5, 2) := by decide +kernel
theorem dX18_bears_248 : decode cX18_bears 248 = .ok (.getfield 333, 3) := by decide +kernel
theorem dX18_bears_251 : decode cX18_bears 251 = .ok (.aload_n 1, 1) := by decide +kernel
theorem dX18_bears_252 : decode cX18_bears 252 = .ok (.getfield 333, 3) := by decide +kernel
theorem dX18_bears_255 : decode cX18_bears 255 = .ok (.if_icmp .gt 7, 3) := by decide +kernel
theorem dX18_bears_258 : decode cX18_bears 258 = .ok (.iconst 1, 1) := by decide +kernel
theorem dX18_bears_259 : decode cX18_bears 259 = .ok (.goto 4, 3) := by decide +kernel
theorem dX18_bears_262 : decode cX18_bears 262 = .ok (.iconst 0, 1) := by decide +kernel
theorem dX18_bears_263 : decode cX18_bears 263 = .ok (.iadd, 1) := by decide +kernel
theorem dX18_bears_264 : decode cX18_bears 264 = .ok (.istore_n 3, 1) := by decide +kernel
theorem dX18_bears_265 : decode cX18_bears 265 = .ok (.goto (-55), 3) := by decide +kernel
theorem dX18_bears_268 : decode cX18_bears 268 = .ok (.new 379, 3) := by decide +kernel
theorem dX18_bears_271 : decode cX18_bears 271 = .ok (.dup, 1) := by decide +kernel
theorem dX18_bears_272 : decode cX18_bears 272 = .ok (.aload_n 2, 1) := by decide +kernel
theorem dX18_bears_273 : decode cX18_bears 273 = .ok (.getfield 378, 3) := by decide +kernel
theorem dX18_bears_276 : decode cX18_bears 276 = .ok (.aload_n 2, 1) := by decide +kernel
theorem dX18_bears_277 : decode cX18_bears 277 = .ok (.getfield 395, 3) := by decide +kernel
theorem dX18_bears_280 : decode cX18_bears 280 = .ok (.iload_n 3, 1) := by decide +kernel
theorem dX18_bears_281 : decode cX18_bears 281 = .ok (.invokestatic 398, 3) := by decide +kernel
theorem dX18_bears_284 : decode cX18_bears 284 = .ok (.invokespecial 389, 3) := by decide +kernel
theorem dX18_bears_287 : decode cX18_bears 287 = .ok (.areturn, 1) := by decide +kernel
set_option maxRecDepth 20000 in
theorem ggX18_lastBearer_Jx4a65c_get_915e3 : GoodIn wsX18_lastBearer wsJx4a65c_get_915e3 := goodIn_r _ [7, 8, 9, 10, 11, 12, 13, 14, 15, 16, 17, 18, 19, 6, 20, 21, 107, 108, 109] (by decide +kernel) (by decide +kernel)
set_option maxRecDepth 20000 in
theorem gX18_lastBearer_Jx4a65c_get_915e3 : GoodIn wsX18_lastBearer (wsV RX18 294 RJx4a65c yJx4a65c_get_915e3 wsJx4a65c_get_915e3) := goodIn_app (goodIn_of _ (by decide +kernel)) ggX18_lastBearer_Jx4a65c_get_915e3
set_option maxRecDepth 20000 in
theorem ggX18_lastBearer_Jx4a65c_iterator_32c93 : GoodIn wsX18_lastBearer wsJx4a65c_iterator_32c93 := goodIn_r _ [25, 26, 27, 28, 29, 30, 31, 32, 33, 34, 35, 36, 37, 38, 39, 110, 111, 112, 113, 107, 108, 109] (by decide +kernel) (by decide +kernel)
set_option maxRecDepth 20000 in
theorem gX18_lastBearer_Jx4a65c_iterator_32c93 : GoodIn wsX18_lastBearer (wsV RX18 313 RJx4a65c yJx4a65c_iterator_32c93 wsJx4a65c_iterator_32c93) := goodIn_app (goodIn_of _ (by decide +kernel)) ggX18_lastBearer_Jx4a65c_iterator_32c93
set_option maxRecDepth 20000 in
theorem ggX18_lastBearer_Jx35411_hasNext_aae02 : GoodIn wsX18_lastBearer wsJx35411_hasNext_aae02 := goodIn_r _ [43, 44, 32, 110, 111, 112, 113, 107, 108, 109] (by decide +kernel) (by decide +kernel)
set_option maxRecDepth 20000 in
theorem gX18_lastBearer_Jx35411_hasNext_aae02_f317Jx35411 : GoodIn wsX18_lastBearer (va_wsF RX18 317 RJx35411 ⟨"java/util/Iterator", "hasNext", "()Z"⟩ yJx35411_hasNext_aae02 wsJx35411_hasNext_aae02) := goodIn_app (goodIn_of _ (by decide +kernel)) ggX18_lastBearer_Jx35411_hasNext_aae02
set_option maxRecDepth 20000 in
theorem ggX18_lastBearer_Jx35411_next_0502b : GoodIn wsX18_lastBearer wsJx35411_next_0502b := goodIn_r _ [48, 44, 32, 49, 36, 50, 51, 52, 28, 53, 37, 38, 39, 110, 111, 112, 113, 107, 108, 109] (by decide +kernel) (by decide +kernel)
set_option maxRecDepth 20000 in
theorem gX18_lastBearer_Jx35411_next_0502b_f322Jx35411 : GoodIn wsX18_lastBearer (va_wsF RX18 322 RJx35411 ⟨"java/util/Iterator", "next", "()Ljava/lang/Object;"⟩ yJx35411_next_0502b wsJx35411_next_0502b) := goodIn_app (goodIn_of _ (by decide +kernel)) ggX18_lastBearer_Jx35411_next_0502b
set_option maxRecDepth 20000 in
theorem ggX18_lastBearer_X18_isSonOf : GoodIn wsX18_lastBearer wsX18_isSonOf := goodIn_r _ [58, 90, 91, 92, 93, 94, 95, 96, 97, 98, 99, 100, 101, 102, 103, 104] (by decide +kernel) (by decide +kernel)
set_option maxRecDepth 20000 in
theorem gX18_lastBearer_X18_isSonOf : GoodIn wsX18_lastBearer (wsV RX18 326 RX18 yX18_isSonOf wsX18_isSonOf) := goodIn_app (goodIn_of _ (by decide +kernel)) ggX18_lastBearer_X18_isSonOf
set_option maxRecDepth 20000 in
theorem ggX18_lastBearer_X18_lastBearer : GoodIn wsX18_lastBearer wsX18_lastBearer := goodIn_r _ [0, 1, 2, 3, 4, 5, 6, 7, 8, 9, 10, 11, 12, 13, 14, 15, 16, 17, 18, 19, 20, 21, 22, 23, 24, 25, 26, 27, 28, 29, 30, 31, 32, 33, 34, 35, 36, 37, 38, 39, 40, 41, 42, 43, 44, 45, 46, 47, 48, 49, 50, 51, 52, 53, 54, 55, 56, 57, 58, 59, 60, 61, 62, 63, 64, 65, 66, 67, 68, 69, 70, 71, 72, 73, 74, 75, 76, 77, 78, 79, 80, 81, 82, 83, 84, 85, 86, 87, 88, 89, 90, 91, 92, 93, 94, 95, 96, 97, 98, 99, 100, 101, 102, 103, 104, 105, 106, 107, 108, 109, 110, 111, 112, 113] (by decide +kernel) (by decide +kernel)
set_option maxRecDepth 20000 in
theorem gX18_lastBearer_X18_lastBearer : GoodIn wsX18_lastBearer (wsV RX18 402 RX18 yX18_lastBearer wsX18_lastBearer) := goodIn_app (goodIn_of _ (by decide +kernel)) ggX18_lastBearer_X18_lastBearer
theorem dX18_lastBearer_0 : decode cX18_lastBearer 0 = .ok (.aload_n 0, 1) := by decide +kernel
theorem dX18_lastBearer_1 : decode cX18_lastBearer 1 = .ok (.getfield 16, 3) := by decide +kernel
theorem dX18_lastBearer_4 : decode cX18_lastBearer 4 = .ok (.iload_n 2, 1) := by decide +kernel
theorem dX18_lastBearer_5 : decode cX18_lastBearer 5 = .ok (.invokevirtual 294, 3) := by decide +kernel
theorem dX18_lastBearer_8 : decode cX18_lastBearer 8 = .ok (.checkcast 298, 3) := by decide +kernel
theorem dX18_lastBearer_11 : decode cX18_lastBearer 11 = .ok (.astore 4, 2) := by decide +kernel
theorem dX18_lastBearer_13 : decode cX18_lastBearer 13 = .ok (.iload_n 3, 1) := by decide +kernel
theorem dX18_lastBearer_14 : decode cX18_lastBearer 14 = .ok (.istore 5, 2) := by decide +kernel
theorem dX18_lastBearer_16 : decode cX18_lastBearer 16 = .ok (.aload 4, 2) := by decide +kernel
theorem dX18_lastBearer_18 : decode cX18_lastBearer 18 = .ok (.getfield 351, 3) := by decide +kernel
theorem dX18_lastBearer_21 : decode cX18_lastBearer 21 = .ok (.ifnull 99, 3) := by decide +kernel
theorem dX18_lastBearer_24 : decode cX18_lastBearer 24 = .ok (.aload 4, 2) := by decide +kernel
theorem dX18_lastBearer_26 : decode cX18_lastBearer 26 = .ok (.getfield 351, 3) := by decide +kernel
theorem dX18_lastBearer_29 : decode cX18_lastBearer 29 = .ok (.getfield 378, 3) := by decide +kernel
theorem dX18_lastBearer_32 : decode cX18_lastBearer 32 = .ok (.iload_n 1, 1) := by decide +kernel
theorem dX18_lastBearer_33 : decode cX18_lastBearer 33 = .ok (.if_icmp .ne 87, 3) := by decide +kernel
theorem dX18_lastBearer_36 : decode cX18_lastBearer 36 = .ok (.iload 5, 2) := by decide +kernel
theorem dX18_lastBearer_38 : decode cX18_lastBearer 38 = .ok (.ifCond .ge 7, 3) := by decide +kernel
theorem dX18_lastBearer_41 : decode cX18_lastBearer 41 = .ok (.aconst_null, 1) := by decide +kernel
theorem dX18_lastBearer_42 : decode cX18_lastBearer 42 = .ok (.goto 15, 3) := by decide +kernel
theorem dX18_lastBearer_45 : decode cX18_lastBearer 45 = .ok (.aload_n 0, 1) := by decide +kernel
theorem dX18_lastBearer_46 : decode cX18_lastBearer 46 = .ok (.getfield 16, 3) := by decide +kernel
theorem dX18_lastBearer_49 : decode cX18_lastBearer 49 = .ok (.iload 5, 2) := by decide +kernel
theorem dX18_lastBearer_51 : decode cX18_lastBearer 51 = .ok (.invokevirtual 294, 3) := by decide +kernel
theorem dX18_lastBearer_54 : decode cX18_lastBearer 54 = .ok (.checkcast 298, 3) := by decide +kernel
theorem dX18_lastBearer_57 : decode cX18_lastBearer 57 = .ok (.astore 6, 2) := by decide +kernel
theorem dX18_lastBearer_59 : decode cX18_lastBearer 59 = .ok (.aload 6, 2) := by decide +kernel
theorem dX18_lastBearer_61 : decode cX18_lastBearer 61 = .ok (.ifnonnull 7, 3) := by decide +kernel
theorem dX18_lastBearer_64 : decode cX18_lastBearer 64 = .ok (.iconst (-1), 1) := by decide +kernel
theorem dX18_lastBearer_65 : decode cX18_lastBearer 65 = .ok (.goto 22, 3) := by decide +kernel
theorem dX18_lastBearer_68 : decode cX18_lastBearer 68 = .ok (.aload 4, 2) := by decide +kernel
theorem dX18_lastBearer_70 : decode cX18_lastBearer 70 = .ok (.getfield 351, 3) := by decide +kernel
theorem dX18_lastBearer_73 : decode cX18_lastBearer 73 = .ok (.getfield 395, 3) := by decide +kernel
theorem dX18_lastBearer_76 : decode cX18_lastBearer 76 = .ok (.arraylength, 1) := by decide +kernel
theorem dX18_lastBearer_77 : decode cX18_lastBearer 77 = .ok (.aload 6, 2) := by decide +kernel
theorem dX18_lastBearer_79 : decode cX18_lastBearer 79 = .ok (.getfield 351, 3) := by decide +kernel
theorem dX18_lastBearer_82 : decode cX18_lastBearer 82 = .ok (.getfield 395, 3) := by decide +kernel
theorem dX18_lastBearer_85 : decode cX18_lastBearer 85 = .ok (.arraylength, 1) := by decide +kernel
theorem dX18_lastBearer_86 : decode cX18_lastBearer 86 = .ok (.isub, 1) := by decide +kernel
theorem dX18_lastBearer_87 : decode cX18_lastBearer 87 = .ok (.istore 7, 2) := by decide +kernel
theorem dX18_lastBearer_89 : decode cX18_lastBearer 89 = .ok (.iload 7, 2) := by decide +kernel
theorem dX18_lastBearer_91 : decode cX18_lastBearer 91 = .ok (.ifCond .lt 21, 3) := by decide +kernel
theorem dX18_lastBearer_94 : decode cX18_lastBearer 94 = .ok (.iload 7, 2) := by decide +kernel
theorem dX18_lastBearer_96 : decode cX18_lastBearer 96 = .ok (.ifCond .ne 20, 3) := by decide +kernel
theorem dX18_lastBearer_99 : decode cX18_lastBearer 99 = .ok (.aload 4, 2) := by decide +kernel
theorem dX18_lastBearer_101 : decode cX18_lastBearer 101 = .ok (.getfield 367, 3) := by decide +kernel
theorem dX18_lastBearer_104 : decode cX18_lastBearer 104 = .ok (.aload 6, 2) := by decide +kernel
theorem dX18_lastBearer_106 : decode cX18_lastBearer 106 = .ok (.getfield 367, 3) := by decide +kernel
theorem dX18_lastBearer_109 : decode cX18_lastBearer 109 = .ok (.if_icmp .le 7, 3) := by decide +kernel
theorem dX18_lastBearer_112 : decode cX18_lastBearer 112 = .ok (.iload_n 2, 1) := by decide +kernel
theorem dX18_lastBearer_113 : decode cX18_lastBearer 113 = .ok (.goto 5, 3) := by decide +kernel
theorem dX18_lastBearer_116 : decode cX18_lastBearer 116 = .ok (.iload 5, 2) := by decide +kernel
theorem dX18_lastBearer_118 : decode cX18_lastBearer 118 = .ok (.istore 5, 2) := by decide +kernel
theorem dX18_lastBearer_120 : decode cX18_lastBearer 120 = .ok (.aload_n 0, 1) := by decide +kernel
theorem dX18_lastBearer_121 : decode cX18_lastBearer 121 = .ok (.getfield 16, 3) := by decide +kernel
theorem dX18_lastBearer_124 : decode cX18_lastBearer 124 = .ok (.invokevirtual 313, 3) := by decide +kernel
theorem dX18_lastBearer_127 : decode cX18_lastBearer 127 = .ok (.astore 6, 2) := by decide +kernel
theorem dX18_lastBearer_129 : decode cX18_lastBearer 129 = .ok (.aload 6, 2) := by decide +kernel
theorem dX18_lastBearer_131 : decode cX18_lastBearer 131 = .ok (.invokeinterface 317 1, 5) := by decide +kernel
theorem dX18_lastBearer_136 : decode cX18_lastBearer 136 = .ok (.ifCond .eq 47, 3) := by decide +kernel
theorem dX18_lastBearer_139 : decode cX18_lastBearer 139 = .ok (.aload 6, 2) := by decide +kernel
theorem dX18_lastBearer_141 : decode cX18_lastBearer 141 = .ok (.invokeinterface 322 1, 5) := by decide +kernel
theorem dX18_lastBearer_146 : decode cX18_lastBearer 146 = .ok (.checkcast 298, 3) := by decide +kernel
theorem dX18_lastBearer_149 : decode cX18_lastBearer 149 = .ok (.astore 7, 2) := by decide +kernel
theorem dX18_lastBearer_151 : decode cX18_lastBearer 151 = .ok (.aload_n 0, 1) := by decide +kernel
theorem dX18_lastBearer_152 : decode cX18_lastBearer 152 = .ok (.aload 7, 2) := by decide +kernel
theorem dX18_lastBearer_154 : decode cX18_lastBearer 154 = .ok (.iload_n 2, 1) := by decide +kernel
theorem dX18_lastBearer_155 : decode cX18_lastBearer 155 = .ok (.invokevirtual 326, 3) := by decide +kernel
theorem dX18_lastBearer_158 : decode cX18_lastBearer 158 = .ok (.ifCond .eq 18, 3) := by decide +kernel
theorem dX18_lastBearer_161 : decode cX18_lastBearer 161 = .ok (.aload_n 0, 1) := by decide +kernel
theorem dX18_lastBearer_162 : decode cX18_lastBearer 162 = .ok (.iload_n 1, 1) := by decide +kernel
theorem dX18_lastBearer_163 : decode cX18_lastBearer 163 = .ok (.aload 7, 2) := by decide +kernel
theorem dX18_lastBearer_165 : decode cX18_lastBearer 165 = .ok (.getfield 333, 3) := by decide +kernel
theorem dX18_lastBearer_168 : decode cX18_lastBearer 168 = .ok (.iload 5, 2) := by decide +kernel
theorem dX18_lastBearer_170 : decode cX18_lastBearer 170 = .ok (.invokevirtual 402, 3) := by decide +kernel
theorem dX18_lastBearer_173 : decode cX18_lastBearer 173 = .ok (.goto 5, 3) := by decide +kernel
theorem dX18_lastBearer_176 : decode cX18_lastBearer 176 = .ok (.iload 5, 2) := by decide +kernel
theorem dX18_lastBearer_178 : decode cX18_lastBearer 178 = .ok (.istore 5, 2) := by decide +kernel
theorem dX18_lastBearer_180 : decode cX18_lastBearer 180 = .ok (.goto (-51), 3) := by decide +kernel
theorem dX18_lastBearer_183 : decode cX18_lastBearer 183 = .ok (.iload 5, 2) := by decide +kernel
theorem dX18_lastBearer_185 : decode cX18_lastBearer 185 = .ok (.ireturn, 1) := by decide +kernel
set_option maxRecDepth 20000 in
theorem ggX18_lastMan_Jx4a65c_get_915e3 : GoodIn wsX18_lastMan wsJx4a65c_get_915e3 := goodIn_r _ [9, 10, 11, 12, 13, 14, 15, 16, 17, 18, 19, 20, 21, 8, 22, 23, 122, 123, 124] (by decide +kernel) (by decide +kernel)
set_option maxRecDepth 20000 in
theorem gX18_lastMan_Jx4a65c_get_915e3 : GoodIn wsX18_lastMan (wsV RX18 294 RJx4a65c yJx4a65c_get_915e3 wsJx4a65c_get_915e3) := goodIn_app (goodIn_of _ (by decide +kernel)) ggX18_lastMan_Jx4a65c_get_915e3
set_option maxRecDepth 20000 in
theorem ggX18_lastMan_X18_countLine : GoodIn wsX18_lastMan wsX18_countLine := goodIn_r _ [28, 3, 4, 29, 30, 31, 8, 32, 33, 34, 35, 36, 37, 38, 39, 40, 41, 42, 43, 44, 45, 46, 47, 48, 49, 50, 51, 52, 53, 54, 55, 56, 57, 58, 59, 60, 61, 62, 63, 27, 64, 24, 25, 26, 69, 70, 71, 72, 73, 74, 75, 76, 77, 78, 79, 80, 81, 82, 83, 84, 85, 86, 87, 88, 89, 90, 91, 92, 93, 94, 95, 96, 107, 108, 109, 110, 111, 112, 113, 114, 115, 116, 117, 118, 119, 120, 121, 125, 126, 127, 128, 122, 123, 124] (by decide +kernel) (by decide +kernel)
set_option maxRecDepth 20000 in
theorem gX18_lastMan_X18_countLine : GoodIn wsX18_lastMan (wsV RX18 334 RX18 yX18_countLine wsX18_countLine) := goodIn_app (goodIn_of _ (by decide +kernel)) ggX18_lastMan_X18_countLine
set_option maxRecDepth 20000 in
theorem ggX18_lastMan_X18_lastBearer : GoodIn wsX18_lastMan wsX18_lastBearer := goodIn_r _ [68, 3, 4, 5, 6, 7, 8, 9, 10, 11, 12, 13, 14, 15, 16, 17, 18, 19, 20, 21, 22, 23, 29, 30, 31, 32, 33, 34, 35, 36, 37, 38, 39, 40, 41, 42, 43, 44, 45, 46, 47, 48, 49, 50, 51, 52, 53, 54, 55, 56, 57, 58, 59, 60, 61, 62, 63, 27, 64, 65, 66, 67, 69, 70, 71, 72, 73, 74, 75, 76, 77, 78, 79, 80, 81, 82, 83, 84, 85, 86, 87, 88, 89, 90, 91, 92, 93, 94, 95, 96, 107, 108, 109, 110, 111, 112, 113, 114, 115, 116, 117, 118, 119, 120, 121, 129, 130, 122, 123, 124, 125, 126, 127, 128] (by decide +kernel) (by decide +kernel)
set_option maxRecDepth 20000 in
theorem gX18_lastMan_X18_lastBearer : GoodIn wsX18_lastMan (wsV RX18 402 RX18 yX18_lastBearer wsX18_lastBearer) := goodIn_app (goodIn_of _ (by decide +kernel)) ggX18_lastMan_X18_lastBearer
theorem dX18_lastMan_0 : decode cX18_lastMan 0 = .ok (.aload_n 0, 1) := by decide +kernel
theorem dX18_lastMan_1 : decode cX18_lastMan 1 = .ok (.getfield 20, 3) := by decide +kernel
theorem dX18_lastMan_4 : decode cX18_lastMan 4 = .ok (.iload_n 1, 1) := by decide +kernel
theorem dX18_lastMan_5 : decode cX18_lastMan 5 = .ok (.invokevirtual 294, 3) := by decide +kernel
theorem dX18_lastMan_8 : decode cX18_lastMan 8 = .ok (.checkcast 373, 3) := by decide +kernel
theorem dX18_lastMan_11 : decode cX18_lastMan 11 = .ok (.astore_n 2, 1) := by decide +kernel
theorem dX18_lastMan_12 : decode cX18_lastMan 12 = .ok (.aload_n 0, 1) := by decide +kernel
theorem dX18_lastMan_13 : decode cX18_lastMan 13 = .ok (.getfield 16, 3) := by decide +kernel
theorem dX18_lastMan_16 : decode cX18_lastMan 16 = .ok (.aload_n 2, 1) := by decide +kernel
theorem dX18_lastMan_17 : decode cX18_lastMan 17 = .ok (.getfield 386, 3) := by decide +kernel
theorem dX18_lastMan_20 : decode cX18_lastMan 20 = .ok (.invokevirtual 294, 3) := by decide +kernel
theorem dX18_lastMan_23 : decode cX18_lastMan 23 = .ok (.checkcast 298, 3) := by decide +kernel
theorem dX18_lastMan_26 : decode cX18_lastMan 26 = .ok (.astore_n 3, 1) := by decide +kernel
theorem dX18_lastMan_27 : decode cX18_lastMan 27 = .ok (.aload_n 2, 1) := by decide +kernel
theorem dX18_lastMan_28 : decode cX18_lastMan 28 = .ok (.getfield 375, 3) := by decide +kernel
theorem dX18_lastMan_31 : decode cX18_lastMan 31 = .ok (.bipush 118, 2) := by decide +kernel
theorem dX18_lastMan_33 : decode cX18_lastMan 33 = .ok (.if_icmp .eq 32, 3) := by decide +kernel
theorem dX18_lastMan_36 : decode cX18_lastMan 36 = .ok (.aload_n 3, 1) := by decide +kernel
theorem dX18_lastMan_37 : decode cX18_lastMan 37 = .ok (.getfield 300, 3) := by decide +kernel
theorem dX18_lastMan_40 : decode cX18_lastMan 40 = .ok (.ifCond .eq 25, 3) := by decide +kernel
theorem dX18_lastMan_43 : decode cX18_lastMan 43 = .ok (.aload_n 3, 1) := by decide +kernel
theorem dX18_lastMan_44 : decode cX18_lastMan 44 = .ok (.getfield 330, 3) := by decide +kernel
theorem dX18_lastMan_47 : decode cX18_lastMan 47 = .ok (.ifCond .ne 18, 3) := by decide +kernel
theorem dX18_lastMan_50 : decode cX18_lastMan 50 = .ok (.aload_n 0, 1) := by decide +kernel
theorem dX18_lastMan_51 : decode cX18_lastMan 51 = .ok (.aload_n 2, 1) := by decide +kernel
theorem dX18_lastMan_52 : decode cX18_lastMan 52 = .ok (.getfield 386, 3) := by decide +kernel
theorem dX18_lastMan_55 : decode cX18_lastMan 55 = .ok (.invokevirtual 334, 3) := by decide +kernel
theorem dX18_lastMan_58 : decode cX18_lastMan 58 = .ok (.ifCond .ne 7, 3) := by decide +kernel
theorem dX18_lastMan_61 : decode cX18_lastMan 61 = .ok (.iconst 1, 1) := by decide +kernel
theorem dX18_lastMan_62 : decode cX18_lastMan 62 = .ok (.goto 4, 3) := by decide +kernel
theorem dX18_lastMan_65 : decode cX18_lastMan 65 = .ok (.iconst 0, 1) := by decide +kernel
theorem dX18_lastMan_66 : decode cX18_lastMan 66 = .ok (.istore 4, 2) := by decide +kernel
theorem dX18_lastMan_68 : decode cX18_lastMan 68 = .ok (.iload 4, 2) := by decide +kernel
theorem dX18_lastMan_70 : decode cX18_lastMan 70 = .ok (.ifCond .eq 16, 3) := by decide +kernel
theorem dX18_lastMan_73 : decode cX18_lastMan 73 = .ok (.aload_n 0, 1) := by decide +kernel
theorem dX18_lastMan_74 : decode cX18_lastMan 74 = .ok (.iload_n 1, 1) := by decide +kernel
theorem dX18_lastMan_75 : decode cX18_lastMan 75 = .ok (.aload_n 2, 1) := by decide +kernel
theorem dX18_lastMan_76 : decode cX18_lastMan 76 = .ok (.getfield 386, 3) := by decide +kernel
theorem dX18_lastMan_79 : decode cX18_lastMan 79 = .ok (.iconst (-1), 1) := by decide +kernel
theorem dX18_lastMan_80 : decode cX18_lastMan 80 = .ok (.invokevirtual 402, 3) := by decide +kernel
theorem dX18_lastMan_83 : decode cX18_lastMan 83 = .ok (.goto 4, 3) := by decide +kernel
theorem dX18_lastMan_86 : decode cX18_lastMan 86 = .ok (.iconst (-1), 1) := by decide +kernel
theorem dX18_lastMan_87 : decode cX18_lastMan 87 = .ok (.ireturn, 1) := by decide +kernel
theorem dX18_isLastHeiress_0 : decode cX18_isLastHeiress 0 = .ok (.iload_n 1, 1) := by decide +kernel
theorem dX18_isLastHeiress_1 : decode cX18_isLastHeiress 1 = .ok (.ifCond .lt 29, 3) := by decide +kernel
theorem dX18_isLastHeiress_4 : decode cX18_isLastHeiress 4 = .ok (.aload_n 2, 1) := by decide +kernel
theorem dX18_isLastHeiress_5 : decode cX18_isLastHeiress 5 = .ok (.getfield 330, 3) := by decide +kernel
theorem dX18_isLastHeiress_8 : decode cX18_isLastHeiress 8 = .ok (.ifCond .eq 22, 3) := by decide +kernel
theorem dX18_isLastHeiress_11 : decode cX18_isLastHeiress 11 = .ok (.aload_n 2, 1) := by decide +kernel
theorem dX18_isLastHeiress_12 : decode cX18_isLastHeiress 12 = .ok (.getfield 300, 3) := by decide +kernel
theorem dX18_isLastHeiress_15 : decode cX18_isLastHeiress 15 = .ok (.ifCond .ne 15, 3) := by decide +kernel
theorem dX18_isLastHeiress_18 : decode cX18_isLastHeiress 18 = .ok (.aload_n 2, 1) := by decide +kernel
theorem dX18_isLastHeiress_19 : decode cX18_isLastHeiress 19 = .ok (.getfield 310, 3) := by decide +kernel
theorem dX18_isLastHeiress_22 : decode cX18_isLastHeiress 22 = .ok (.iload_n 1, 1) := by decide +kernel
theorem dX18_isLastHeiress_23 : decode cX18_isLastHeiress 23 = .ok (.if_icmp .ne 7, 3) := by decide +kernel
theorem dX18_isLastHeiress_26 : decode cX18_isLastHeiress 26 = .ok (.iconst 1, 1) := by decide +kernel
theorem dX18_isLastHeiress_27 : decode cX18_isLastHeiress 27 = .ok (.goto 4, 3) := by decide +kernel
theorem dX18_isLastHeiress_30 : decode cX18_isLastHeiress 30 = .ok (.iconst 0, 1) := by decide +kernel
theorem dX18_isLastHeiress_31 : decode cX18_isLastHeiress 31 = .ok (.ireturn, 1) := by decide +kernel
set_option maxRecDepth 20000 in
theorem ggX18_countHeiresses_X18_lastMan : GoodIn wsX18_countHeiresses wsX18_lastMan := goodIn_r _ [7, 8, 9, 1, 2, 10, 11, 12, 13, 14, 15, 16, 17, 18, 19, 20, 21, 22, 23, 24, 25, 26, 27, 28, 29, 30, 31, 6, 32, 33, 34, 35, 36, 37, 38, 39, 40, 41, 42, 43, 44, 45, 46, 47, 48, 49, 50, 51, 52, 53, 54, 55, 56, 57, 58, 59, 60, 61, 62, 63, 64, 65, 66, 67, 68, 69, 70, 71, 72, 77, 78, 79, 80, 81, 82, 83, 84, 85, 86, 87, 88, 89, 90, 91, 92, 93, 94, 95, 96, 97, 98, 99, 100, 101, 102, 103, 104, 105, 106, 107, 108, 109, 110, 111, 112, 113, 114, 115, 116, 117, 118, 119, 120, 121, 122, 123, 124, 125, 126, 127, 128, 129, 130, 131, 132, 133, 134, 135, 136, 137, 138] (by decide +kernel) (by decide +kernel)
set_option maxRecDepth 20000 in
theorem gX18_countHeiresses_X18_lastMan : GoodIn wsX18_countHeiresses (wsV RX18 406 RX18 yX18_lastMan wsX18_lastMan) := goodIn_app (goodIn_of _ (by decide +kernel)) ggX18_countHeiresses_X18_lastMan
set_option maxRecDepth 20000 in
theorem ggX18_countHeiresses_Jx4a65c_iterator_32c93 : GoodIn wsX18_countHeiresses wsJx4a65c_iterator_32c93 := goodIn_r _ [36, 37, 38, 39, 40, 41, 42, 43, 44, 45, 46, 47, 48, 49, 50, 133, 134, 135, 136, 130, 131, 132] (by decide +kernel) (by decide +kernel)
set_option maxRecDepth 20000 in
theorem gX18_countHeiresses_Jx4a65c_iterator_32c93 : GoodIn wsX18_countHeiresses (wsV RX18 313 RJx4a65c yJx4a65c_iterator_32c93 wsJx4a65c_iterator_32c93) := goodIn_app (goodIn_of _ (by decide +kernel)) ggX18_countHeiresses_Jx4a65c_iterator_32c93
set_option maxRecDepth 20000 in
theorem ggX18_countHeiresses_Jx35411_hasNext_aae02 : GoodIn wsX18_countHeiresses wsJx35411_hasNext_aae02 := goodIn_r _ [54, 55, 43, 133, 134, 135, 136, 130, 131, 132] (by decide +kernel) (by decide +kernel)
set_option maxRecDepth 20000 in
theorem gX18_countHeiresses_Jx35411_hasNext_aae02_f317Jx35411 : GoodIn wsX18_countHeiresses (va_wsF RX18 317 RJx35411 ⟨"java/util/Iterator", "hasNext", "()Z"⟩ yJx35411_hasNext_aae02 wsJx35411_hasNext_aae02) := goodIn_app (goodIn_of _ (by decide +kernel)) ggX18_countHeiresses_Jx35411_hasNext_aae02
set_option maxRecDepth 20000 in
theorem ggX18_countHeiresses_Jx35411_next_0502b : GoodIn wsX18_countHeiresses wsJx35411_next_0502b := goodIn_r _ [59, 55, 43, 60, 47, 61, 62, 63, 39, 64, 48, 49, 50, 133, 134, 135, 136, 130, 131, 132] (by decide +kernel) (by decide +kernel)
set_option maxRecDepth 20000 in
theorem gX18_countHeiresses_Jx35411_next_0502b_f322Jx35411 : GoodIn wsX18_countHeiresses (va_wsF RX18 322 RJx35411 ⟨"java/util/Iterator", "next", "()Ljava/lang/Object;"⟩ yJx35411_next_0502b wsJx35411_next_0502b) := goodIn_app (goodIn_of _ (by decide +kernel)) ggX18_countHeiresses_Jx35411_next_0502b
set_option maxRecDepth 20000 in
theorem ggX18_countHeiresses_X18_isLastHeiress : GoodIn wsX18_countHeiresses wsX18_isLastHeiress := goodIn_r _ [76, 115, 116, 117, 118, 119, 120, 121, 122, 123, 124, 125, 126, 127, 128, 129] (by decide +kernel) (by decide +kernel)
set_option maxRecDepth 20000 in
theorem gX18_countHeiresses_X18_isLastHeiress : GoodIn wsX18_countHeiresses (wsV RX18 409 RX18 yX18_isLastHeiress wsX18_isLastHeiress) := goodIn_app (goodIn_of _ (by decide +kernel)) ggX18_countHeiresses_X18_isLastHeiress
theorem dX18_countHeiresses_0 : decode cX18_countHeiresses 0 = .ok (.aload_n 0, 1) := by decide +kernel
theorem dX18_countHeiresses_1 : decode cX18_countHeiresses 1 = .ok (.iload_n 1, 1) := by decide +kernel
theorem dX18_countHeiresses_2 : decode cX18_countHeiresses 2 = .ok (.invokevirtual 406, 3) := by decide +kernel
theorem dX18_countHeiresses_5 : decode cX18_countHeiresses 5 = .ok (.istore_n 2, 1) := by decide +kernel
theorem dX18_countHeiresses_6 : decode cX18_countHeiresses 6 = .ok (.iconst 0, 1) := by decide +kernel
theorem dX18_countHeiresses_7 : decode cX18_countHeiresses 7 = .ok (.istore_n 3, 1) := by decide +kernel
theorem dX18_countHeiresses_8 : decode cX18_countHeiresses 8 = .ok (.aload_n 0, 1) := by decide +kernel
theorem dX18_countHeiresses_9 : decode cX18_countHeiresses 9 = .ok (.getfield 16, 3) := by decide +kernel
theorem dX18_countHeiresses_12 : decode cX18_countHeiresses 12 = .ok (.invokevirtual 313, 3) := by decide +kernel
theorem dX18_countHeiresses_15 : decode cX18_countHeiresses 15 = .ok (.astore 4, 2) := by decide +kernel
theorem dX18_countHeiresses_17 : decode cX18_countHeiresses 17 = .ok (.aload 4, 2) := by decide +kernel
theorem dX18_countHeiresses_19 : decode cX18_countHeiresses 19 = .ok (.invokeinterface 317 1, 5) := by decide +kernel
theorem dX18_countHeiresses_24 : decode cX18_countHeiresses 24 = .ok (.ifCond .eq 36, 3) := by decide +kernel
theorem dX18_countHeiresses_27 : decode cX18_countHeiresses 27 = .ok (.aload 4, 2) := by decide +kernel
theorem dX18_countHeiresses_29 : decode cX18_countHeiresses 29 = .ok (.invokeinterface 322 1, 5) := by decide +kernel
theorem dX18_countHeiresses_34 : decode cX18_countHeiresses 34 = .ok (.checkcast 298, 3) := by decide +kernel
theorem dX18_countHeiresses_37 : decode cX18_countHeiresses 37 = .ok (.astore 5, 2) := by decide +kernel
theorem dX18_countHeiresses_39 : decode cX18_countHeiresses 39 = .ok (.iload_n 3, 1) := by decide +kernel
theorem dX18_countHeiresses_40 : decode cX18_countHeiresses 40 = .ok (.aload_n 0, 1) := by decide +kernel
theorem dX18_countHeiresses_41 : decode cX18_countHeiresses 41 = .ok (.iload_n 2, 1) := by decide +kernel
theorem dX18_countHeiresses_42 : decode cX18_countHeiresses 42 = .ok (.aload 5, 2) := by decide +kernel
theorem dX18_countHeiresses_44 : decode cX18_countHeiresses 44 = .ok (.invokevirtual 409, 3) := by decide +kernel
theorem dX18_countHeiresses_47 : decode cX18_countHeiresses 47 = .ok (.ifCond .eq 7, 3) := by decide +kernel
theorem dX18_countHeiresses_50 : decode cX18_countHeiresses 50 = .ok (.iconst 1, 1) := by decide +kernel
theorem dX18_countHeiresses_51 : decode cX18_countHeiresses 51 = .ok (.goto 4, 3) := by decide +kernel
theorem dX18_countHeiresses_54 : decode cX18_countHeiresses 54 = .ok (.iconst 0, 1) := by decide +kernel
theorem dX18_countHeiresses_55 : decode cX18_countHeiresses 55 = .ok (.iadd, 1) := by decide +kernel
theorem dX18_countHeiresses_56 : decode cX18_countHeiresses 56 = .ok (.istore_n 3, 1) := by decide +kernel
theorem dX18_countHeiresses_57 : decode cX18_countHeiresses 57 = .ok (.goto (-40), 3) := by decide +kernel
theorem dX18_countHeiresses_60 : decode cX18_countHeiresses 60 = .ok (.iload_n 3, 1) := by decide +kernel
theorem dX18_countHeiresses_61 : decode cX18_countHeiresses 61 = .ok (.ireturn, 1) := by decide +kernel
set_option maxRecDepth 20000 in
theorem ggX18_fallsTo_X18_lastMan : GoodIn wsX18_fallsTo wsX18_lastMan := goodIn_r _ [9, 3, 4, 1, 2, 10, 11, 12, 13, 14, 15, 16, 17, 18, 19, 20, 21, 22, 23, 24, 25, 26, 27, 28, 29, 30, 31, 8, 32, 33, 34, 35, 36, 37, 38, 39, 40, 41, 42, 43, 44, 45, 46, 47, 48, 49, 50, 51, 52, 53, 54, 55, 56, 57, 58, 59, 60, 61, 62, 63, 64, 65, 66, 67, 68, 69, 70, 71, 72, 77, 78, 79, 80, 81, 82, 83, 84, 85, 86, 87, 88, 89, 90, 91, 92, 93, 94, 95, 96, 97, 98, 99, 100, 101, 102, 103, 104, 120, 121, 122, 123, 124, 125, 126, 127, 128, 129, 105, 106, 107, 108, 109, 110, 111, 112, 113, 114, 115, 116, 117, 118, 119, 130, 131, 132, 133, 134, 135, 136, 137, 138] (by decide +kernel) (by decide +kernel)
set_option maxRecDepth 20000 in
theorem gX18_fallsTo_X18_lastMan : GoodIn wsX18_fallsTo (wsV RX18 406 RX18 yX18_lastMan wsX18_lastMan) := goodIn_app (goodIn_of _ (by decide +kernel)) ggX18_fallsTo_X18_lastMan
set_option maxRecDepth 20000 in
theorem ggX18_fallsTo_Jx4a65c_iterator_32c93 : GoodIn wsX18_fallsTo wsJx4a65c_iterator_32c93 := goodIn_r _ [36, 37, 38, 39, 40, 41, 42, 43, 44, 45, 46, 47, 48, 49, 50, 133, 134, 135, 136, 130, 131, 132] (by decide +kernel) (by decide +kernel)
set_option maxRecDepth 20000 in
theorem gX18_fallsTo_Jx4a65c_iterator_32c93 : GoodIn wsX18_fallsTo (wsV RX18 313 RJx4a65c yJx4a65c_iterator_32c93 wsJx4a65c_iterator_32c93) := goodIn_app (goodIn_of _ (by decide +kernel)) ggX18_fallsTo_Jx4a65c_iterator_32c93
set_option maxRecDepth 20000 in
theorem ggX18_fallsTo_Jx35411_hasNext_aae02 : GoodIn wsX18_fallsTo wsJx35411_hasNext_aae02 := goodIn_r _ [54, 55, 43, 133, 134, 135, 136, 130, 131, 132] (by decide +kernel) (by decide +kernel)
set_option maxRecDepth 20000 in
theorem gX18_fallsTo_Jx35411_hasNext_aae02_f317Jx35411 : GoodIn wsX18_fallsTo (va_wsF RX18 317 RJx35411 ⟨"java/util/Iterator", "hasNext", "()Z"⟩ yJx35411_hasNext_aae02 wsJx35411_hasNext_aae02) := goodIn_app (goodIn_of _ (by decide +kernel)) ggX18_fallsTo_Jx35411_hasNext_aae02
set_option maxRecDepth 20000 in
theorem ggX18_fallsTo_Jx35411_next_0502b : GoodIn wsX18_fallsTo wsJx35411_next_0502b := goodIn_r _ [59, 55, 43, 60, 47, 61, 62, 63, 39, 64, 48, 49, 50, 133, 134, 135, 136, 130, 131, 132] (by decide +kernel) (by decide +kernel)
set_option maxRecDepth 20000 in
theorem gX18_fallsTo_Jx35411_next_0502b_f322Jx35411 : GoodIn wsX18_fallsTo (va_wsF RX18 322 RJx35411 ⟨"java/util/Iterator", "next", "()Ljava/lang/Object;"⟩ yJx35411_next_0502b wsJx35411_next_0502b) := goodIn_app (goodIn_of _ (by decide +kernel)) ggX18_fallsTo_Jx35411_next_0502b
set_option maxRecDepth 20000 in
theorem ggX18_fallsTo_X18_isLastHeiress : GoodIn wsX18_fallsTo wsX18_isLastHeiress := goodIn_r _ [76, 105, 106, 107, 108, 109, 110, 111, 112, 113, 114, 115, 116, 117, 118, 119] (by decide +kernel) (by decide +kernel)
set_option maxRecDepth 20000 in
theorem gX18_fallsTo_X18_isLastHeiress : GoodIn wsX18_fallsTo (wsV RX18 409 RX18 yX18_isLastHeiress wsX18_isLastHeiress) := goodIn_app (goodIn_of _ (by decide +kernel)) ggX18_fallsTo_X18_isLastHeiress
set_option maxRecDepth 20000 in
theorem ggX18_fallsTo_Jx4a65c_get_915e3 : GoodIn wsX18_fallsTo wsJx4a65c_get_915e3 := goodIn_r _ [14, 15, 16, 17, 18, 19, 20, 21, 22, 23, 24, 25, 26, 13, 27, 28, 130, 131, 132] (by decide +kernel) (by decide +kernel)
set_option maxRecDepth 20000 in
theorem gX18_fallsTo_Jx4a65c_get_915e3 : GoodIn wsX18_fallsTo (wsV RX18 294 RJx4a65c yJx4a65c_get_915e3 wsJx4a65c_get_915e3) := goodIn_app (goodIn_of _ (by decide +kernel)) ggX18_fallsTo_Jx4a65c_get_915e3
theorem dX18_fallsTo_0 : decode cX18_fallsTo 0 = .ok (.aload_n 0, 1) := by decide +kernel
theorem dX18_fallsTo_1 : decode cX18_fallsTo 1 = .ok (.iload_n 1, 1) := by decide +kernel
theorem dX18_fallsTo_2 : decode cX18_fallsTo 2 = .ok (.invokevirtual 406, 3) := by decide +kernel
theorem dX18_fallsTo_5 : decode cX18_fallsTo 5 = .ok (.istore_n 2, 1) := by decide +kernel
theorem dX18_fallsTo_6 : decode cX18_fallsTo 6 = .ok (.iconst 0, 1) := by decide +kernel
theorem dX18_fallsTo_7 : decode cX18_fallsTo 7 = .ok (.istore_n 3, 1) := by decide +kernel
theorem dX18_fallsTo_8 : decode cX18_fallsTo 8 = .ok (.iconst (-1), 1) := by decide +kernel
theorem dX18_fallsTo_9 : decode cX18_fallsTo 9 = .ok (.istore 4, 2) := by decide +kernel
theorem dX18_fallsTo_11 : decode cX18_fallsTo 11 = .ok (.aload_n 0, 1) := by decide +kernel
theorem dX18_fallsTo_12 : decode cX18_fallsTo 12 = .ok (.getfield 16, 3) := by decide +kernel
theorem dX18_fallsTo_15 : decode cX18_fallsTo 15 = .ok (.invokevirtual 313, 3) := by decide +kernel
theorem dX18_fallsTo_18 : decode cX18_fallsTo 18 = .ok (.astore 5, 2) := by decide +kernel
theorem dX18_fallsTo_20 : decode cX18_fallsTo 20 = .ok (.aload 5, 2) := by decide +kernel
theorem dX18_fallsTo_22 : decode cX18_fallsTo 22 = .ok (.invokeinterface 317 1, 5) := by decide +kernel
theorem dX18_fallsTo_27 : decode cX18_fallsTo 27 = .ok (.ifCond .eq 58, 3) := by decide +kernel
theorem dX18_fallsTo_30 : decode cX18_fallsTo 30 = .ok (.aload 5, 2) := by decide +kernel
theorem dX18_fallsTo_32 : decode cX18_fallsTo 32 = .ok (.invokeinterface 322 1, 5) := by decide +kernel
theorem dX18_fallsTo_37 : decode cX18_fallsTo 37 = .ok (.checkcast 298, 3) := by decide +kernel
theorem dX18_fallsTo_40 : decode cX18_fallsTo 40 = .ok (.astore 6, 2) := by decide +kernel
theorem dX18_fallsTo_42 : decode cX18_fallsTo 42 = .ok (.iload_n 3, 1) := by decide +kernel
theorem dX18_fallsTo_43 : decode cX18_fallsTo 43 = .ok (.aload_n 0, 1) := by decide +kernel
theorem dX18_fallsTo_44 : decode cX18_fallsTo 44 = .ok (.iload_n 2, 1) := by decide +kernel
theorem dX18_fallsTo_45 : decode cX18_fallsTo 45 = .ok (.aload 6, 2) := by decide +kernel
theorem dX18_fallsTo_47 : decode cX18_fallsTo 47 = .ok (.invokevirtual 409, 3) := by decide +kernel
theorem dX18_fallsTo_50 : decode cX18_fallsTo 50 = .ok (.ifCond .eq 7, 3) := by decide +kernel
theorem dX18_fallsTo_53 : decode cX18_fallsTo 53 = .ok (.iconst 1, 1) := by decide +kernel
theorem dX18_fallsTo_54 : decode cX18_fallsTo 54 = .ok (.goto 4, 3) := by decide +kernel
theorem dX18_fallsTo_57 : decode cX18_fallsTo 57 = .ok (.iconst 0, 1) := by decide +kernel
theorem dX18_fallsTo_58 : decode cX18_fallsTo 58 = .ok (.iadd, 1) := by decide +kernel
theorem dX18_fallsTo_59 : decode cX18_fallsTo 59 = .ok (.istore_n 3, 1) := by decide +kernel
theorem dX18_fallsTo_60 : decode cX18_fallsTo 60 = .ok (.aload_n 0, 1) := by decide +kernel
theorem dX18_fallsTo_61 : decode cX18_fallsTo 61 = .ok (.iload_n 2, 1) := by decide +kernel
theorem dX18_fallsTo_62 : decode cX18_fallsTo 62 = .ok (.aload 6, 2) := by decide +kernel
theorem dX18_fallsTo_64 : decode cX18_fallsTo 64 = .ok (.invokevirtual 409, 3) := by decide +kernel
theorem dX18_fallsTo_67 : decode cX18_fallsTo 67 = .ok (.ifCond .eq 11, 3) := by decide +kernel
theorem dX18_fallsTo_70 : decode cX18_fallsTo 70 = .ok (.aload 6, 2) := by decide +kernel
theorem dX18_fallsTo_72 : decode cX18_fallsTo 72 = .ok (.getfield 333, 3) := by decide +kernel
theorem dX18_fallsTo_75 : decode cX18_fallsTo 75 = .ok (.goto 5, 3) := by decide +kernel
theorem dX18_fallsTo_78 : decode cX18_fallsTo 78 = .ok (.iload 4, 2) := by decide +kernel
theorem dX18_fallsTo_80 : decode cX18_fallsTo 80 = .ok (.istore 4, 2) := by decide +kernel
theorem dX18_fallsTo_82 : decode cX18_fallsTo 82 = .ok (.goto (-62), 3) := by decide +kernel
theorem dX18_fallsTo_85 : decode cX18_fallsTo 85 = .ok (.aload_n 0, 1) := by decide +kernel
theorem dX18_fallsTo_86 : decode cX18_fallsTo 86 = .ok (.getfield 20, 3) := by decide +kernel
theorem dX18_fallsTo_89 : decode cX18_fallsTo 89 = .ok (.iload_n 1, 1) := by decide +kernel
theorem dX18_fallsTo_90 : decode cX18_fallsTo 90 = .ok (.invokevirtual 294, 3) := by decide +kernel
theorem dX18_fallsTo_93 : decode cX18_fallsTo 93 = .ok (.checkcast 373, 3) := by decide +kernel
theorem dX18_fallsTo_96 : decode cX18_fallsTo 96 = .ok (.getfield 413, 3) := by decide +kernel
theorem dX18_fallsTo_99 : decode cX18_fallsTo 99 = .ok (.istore 5, 2) := by decide +kernel
theorem dX18_fallsTo_101 : decode cX18_fallsTo 101 = .ok (.iload_n 3, 1) := by decide +kernel
theorem dX18_fallsTo_102 : decode cX18_fallsTo 102 = .ok (.iconst 1, 1) := by decide +kernel
theorem dX18_fallsTo_103 : decode cX18_fallsTo 103 = .ok (.if_icmp .ne 8, 3) := by decide +kernel
theorem dX18_fallsTo_106 : decode cX18_fallsTo 106 = .ok (.iload 4, 2) := by decide +kernel
theorem dX18_fallsTo_108 : decode cX18_fallsTo 108 = .ok (.goto 39, 3) := by decide +kernel
theorem dX18_fallsTo_111 : decode cX18_fallsTo 111 = .ok (.iload_n 3, 1) := by decide +kernel
theorem dX18_fallsTo_112 : decode cX18_fallsTo 112 = .ok (.iconst 1, 1) := by decide +kernel
theorem dX18_fallsTo_113 : decode cX18_fallsTo 113 = .ok (.if_icmp .le 33, 3) := by decide +kernel
theorem dX18_fallsTo_116 : decode cX18_fallsTo 116 = .ok (.iload 5, 2) := by decide +kernel
theorem dX18_fallsTo_118 : decode cX18_fallsTo 118 = .ok (.ifCond .lt 28, 3) := by decide +kernel
theorem dX18_fallsTo_121 : decode cX18_fallsTo 121 = .ok (.aload_n 0, 1) := by decide +kernel
theorem dX18_fallsTo_122 : decode cX18_fallsTo 122 = .ok (.iload_n 2, 1) := by decide +kernel
theorem dX18_fallsTo_123 : decode cX18_fallsTo 123 = .ok (.aload_n 0, 1) := by decide +kernel
theorem dX18_fallsTo_124 : decode cX18_fallsTo 124 = .ok (.getfield 16, 3) := by decide +kernel
theorem dX18_fallsTo_127 : decode cX18_fallsTo 127 = .ok (.iload 5, 2) := by decide +kernel
theorem dX18_fallsTo_129 : decode cX18_fallsTo 129 = .ok (.invokevirtual 294, 3) := by decide +kernel
theorem dX18_fallsTo_132 : decode cX18_fallsTo 132 = .ok (.checkcast 298, 3) := by decide +kernel
theorem dX18_fallsTo_135 : decode cX18_fallsTo 135 = .ok (.invokevirtual 409, 3) := by decide +kernel
theorem dX18_fallsTo_138 : decode cX18_fallsTo 138 = .ok (.ifCond .eq 8, 3) := by decide +kernel
theorem dX18_fallsTo_141 : decode cX18_fallsTo 141 = .ok (.iload 5, 2) := by decide +kernel
theorem dX18_fallsTo_143 : decode cX18_fallsTo 143 = .ok (.goto 4, 3) := by decide +kernel
theorem dX18_fallsTo_146 : decode cX18_fallsTo 146 = .ok (.iconst (-1), 1) := by decide +kernel
theorem dX18_fallsTo_147 : decode cX18_fallsTo 147 = .ok (.ireturn, 1) := by decide +kernel
set_option maxRecDepth 20000 in
theorem ggX18_abeyant_X18_countHeiresses : GoodIn wsX18_abeyant wsX18_countHeiresses := goodIn_r _ [5, 6, 7, 8, 9, 10, 4, 11, 12, 13, 14, 15, 16, 17, 18, 19, 20, 21, 22, 23, 24, 25, 26, 27, 28, 29, 30, 31, 32, 33, 34, 35, 36, 37, 38, 39, 40, 41, 42, 43, 44, 45, 46, 47, 48, 49, 50, 51, 52, 53, 54, 55, 56, 57, 58, 59, 60, 61, 62, 63, 64, 65, 66, 67, 68, 69, 70, 71, 72, 73, 74, 75, 76, 77, 78, 79, 80, 85, 86, 87, 88, 89, 90, 91, 92, 93, 94, 95, 96, 97, 98, 99, 100, 101, 102, 103, 104, 105, 106, 107, 108, 109, 110, 111, 112, 113, 114, 115, 116, 117, 118, 119, 120, 121, 122, 123, 124, 125, 126, 127, 128, 129, 130, 131, 132, 133, 134, 135, 136, 137, 138, 139, 140, 141, 142, 143, 144, 145, 146] (by decide +kernel) (by decide +kernel)
set_option maxRecDepth 20000 in
theorem gX18_abeyant_X18_countHeiresses : GoodIn wsX18_abeyant (wsV RX18 416 RX18 yX18_countHeiresses wsX18_countHeiresses) := goodIn_app (goodIn_of _ (by decide +kernel)) ggX18_abeyant_X18_countHeiresses
set_option maxRecDepth 20000 in
theorem ggX18_abeyant_X18_fallsTo : GoodIn wsX18_abeyant wsX18_fallsTo := goodIn_r _ [84, 6, 7, 12, 13, 8, 9, 10, 4, 11, 14, 15, 16, 17, 18, 19, 20, 21, 22, 23, 24, 25, 26, 27, 28, 29, 30, 31, 32, 33, 34, 35, 36, 37, 38, 39, 40, 41, 42, 43, 44, 45, 46, 47, 48, 49, 50, 51, 52, 53, 54, 55, 56, 57, 58, 59, 60, 61, 62, 63, 64, 65, 66, 67, 68, 69, 70, 71, 72, 73, 74, 75, 76, 77, 78, 79, 80, 85, 86, 87, 88, 89, 90, 91, 92, 93, 94, 95, 96, 97, 98, 99, 100, 101, 102, 103, 104, 105, 106, 107, 108, 109, 110, 111, 112, 123, 124, 125, 126, 127, 128, 129, 130, 131, 132, 133, 134, 135, 136, 137, 113, 114, 115, 116, 117, 118, 119, 120, 121, 122, 138, 139, 140, 141, 142, 143, 144, 145, 146] (by decide +kernel) (by decide +kernel)
set_option maxRecDepth 20000 in
theorem gX18_abeyant_X18_fallsTo : GoodIn wsX18_abeyant (wsV RX18 392 RX18 yX18_fallsTo wsX18_fallsTo) := goodIn_app (goodIn_of _ (by decide +kernel)) ggX18_abeyant_X18_fallsTo
theorem dX18_abeyant_0 : decode cX18_abeyant 0 = .ok (.aload_n 0, 1) := by decide +kernel
theorem dX18_abeyant_1 : decode cX18_abeyant 1 = .ok (.iload_n 1, 1) := by decide +kernel
theorem dX18_abeyant_2 : decode cX18_abeyant 2 = .ok (.invokevirtual 416, 3) := by decide +kernel
theorem dX18_abeyant_5 : decode cX18_abeyant 5 = .ok (.iconst 1, 1) := by decide +kernel
theorem dX18_abeyant_6 : decode cX18_abeyant 6 = .ok (.if_icmp .le 15, 3) := by decide +kernel
theorem dX18_abeyant_9 : decode cX18_abeyant 9 = .ok (.aload_n 0, 1) := by decide +kernel
theorem dX18_abeyant_10 : decode cX18_abeyant 10 = .ok (.iload_n 1, 1) := by decide +kernel
theorem dX18_abeyant_11 : decode cX18_abeyant 11 = .ok (.invokevirtual 392, 3) := by decide +kernel
theorem dX18_abeyant_14 : decode cX18_abeyant 14 = .ok (.ifCond .ge 7, 3) := by decide +kernel
theorem dX18_abeyant_17 : decode cX18_abeyant 17 = .ok (.iconst 1, 1) := by decide +kernel
theorem dX18_abeyant_18 : decode cX18_abeyant 18 = .ok (.goto 4, 3) := by decide +kernel
theorem dX18_abeyant_21 : decode cX18_abeyant 21 = .ok (.iconst 0, 1) := by decide +kernel
theorem dX18_abeyant_22 : decode cX18_abeyant 22 = .ok (.ireturn, 1) := by decide +kernel
set_option maxRecDepth 20000 in
theorem ggX18_conflictsWith_Jx4a65c_get_915e3 : GoodIn wsX18_conflictsWith wsJx4a65c_get_915e3 := goodIn_r _ [11, 12, 13, 14, 15, 16, 17, 18, 19, 20, 21, 22, 23, 10, 24, 25, 268, 269, 270] (by decide +kernel) (by decide +kernel)
set_option maxRecDepth 20000 in
theorem gX18_conflictsWith_Jx4a65c_get_915e3 : GoodIn wsX18_conflictsWith (wsV RX18 294 RJx4a65c yJx4a65c_get_915e3 wsJx4a65c_get_915e3) := goodIn_app (goodIn_of _ (by decide +kernel)) ggX18_conflictsWith_Jx4a65c_get_915e3
set_option maxRecDepth 20000 in
theorem ggX18_conflictsWith_X18_isVoid : GoodIn wsX18_conflictsWith wsX18_isVoid := goodIn_r _ [30, 1, 2, 7, 8, 9, 10, 11, 12, 13, 14, 15, 16, 17, 18, 19, 20, 21, 22, 23, 24, 25, 213, 214, 215, 216, 217, 218, 219, 220, 221, 222, 223, 224, 225, 226, 227, 228, 229, 230, 231, 232, 233, 234, 235, 236, 237, 238, 239, 240, 241, 242, 243, 244, 245, 246, 247, 248, 249, 250, 268, 269, 270] (by decide +kernel) (by decide +kernel)
set_option maxRecDepth 20000 in
theorem gX18_conflictsWith_X18_isVoid : GoodIn wsX18_conflictsWith (wsV RX18 383 RX18 yX18_isVoid wsX18_isVoid) := goodIn_app (goodIn_of _ (by decide +kernel)) ggX18_conflictsWith_X18_isVoid
set_option maxRecDepth 20000 in
theorem ggX18_conflictsWith_X18_drawArms : GoodIn wsX18_conflictsWith wsX18_drawArms := goodIn_ca (goodIn_r _ [34, 1, 2, 35, 36, 37, 7, 8, 9, 10, 11, 12, 13, 14, 15, 16, 17, 18, 19, 20, 21, 22, 23, 24, 25, 38, 39, 40, 41, 42, 43, 44, 45, 46, 47, 48, 49, 50, 51, 52, 53, 54, 55, 56, 57, 58, 59, 60, 61, 62, 63, 64, 65, 66, 67, 68, 69, 70, 71, 72, 73, 74, 75, 76, 77, 78, 79, 80, 81, 82, 29, 83, 84, 85, 86, 87, 88, 89, 90, 91, 92, 93, 94, 95, 96, 97, 98, 99, 100, 101, 102, 103, 104, 105, 106, 107, 108, 109, 110, 111, 112, 113, 114, 115, 116, 117, 118, 119, 120, 121, 122, 123, 124, 125, 126, 127, 128, 129, 130, 131, 213, 214, 215, 216, 217, 218, 219, 220, 221, 222, 223, 224, 225, 226, 227, 228, 229, 230, 231, 232, 233, 234, 235, 236, 237, 238, 239, 240, 271, 272, 273, 274, 275, 276, 241, 242, 243, 244, 245, 246, 247, 248, 249, 250, 268, 269, 270, 277, 278, 279, 280, 281, 282, 283, 284, 285, 286, 287, 288, 289, 290, 291] (by decide +kernel) (by decide +kernel)) (goodIn_sub (fun _ h => List.mem_cons_of_mem _ (List.mem_append_right _ h)) (by decide +kernel))
set_option maxRecDepth 20000 in
theorem gX18_conflictsWith_X18_drawArms : GoodIn wsX18_conflictsWith (wsV RX18 422 RX18 yX18_drawArms wsX18_drawArms) := goodIn_app (goodIn_of _ (by decide +kernel)) ggX18_conflictsWith_X18_drawArms
set_option maxRecDepth 20000 in
theorem ggX18_conflictsWith_Jx4a65c_iterator_32c93 : GoodIn wsX18_conflictsWith wsJx4a65c_iterator_32c93 := goodIn_r _ [135, 136, 137, 138, 139, 140, 141, 142, 143, 41, 42, 144, 145, 146, 147, 292, 293, 294, 295, 268, 269, 270] (by decide +kernel) (by decide +kernel)
set_option maxRecDepth 20000 in
theorem gX18_conflictsWith_Jx4a65c_iterator_32c93 : GoodIn wsX18_conflictsWith (wsV RX18 313 RJx4a65c yJx4a65c_iterator_32c93 wsJx4a65c_iterator_32c93) := goodIn_app (goodIn_of _ (by decide +kernel)) ggX18_conflictsWith_Jx4a65c_iterator_32c93
set_option maxRecDepth 20000 in
theorem ggX18_conflictsWith_Jx35411_hasNext_aae02 : GoodIn wsX18_conflictsWith wsJx35411_hasNext_aae02 := goodIn_r _ [151, 152, 142, 292, 293, 294, 295, 268, 269, 270] (by decide +kernel) (by decide +kernel)
set_option maxRecDepth 20000 in
theorem gX18_conflictsWith_Jx35411_hasNext_aae02_f317Jx35411 : GoodIn wsX18_conflictsWith (va_wsF RX18 317 RJx35411 ⟨"java/util/Iterator", "hasNext", "()Z"⟩ yJx35411_hasNext_aae02 wsJx35411_hasNext_aae02) := goodIn_app (goodIn_of _ (by decide +kernel)) ggX18_conflictsWith_Jx35411_hasNext_aae02
set_option maxRecDepth 20000 in
theorem ggX18_conflictsWith_Jx35411_next_0502b : GoodIn wsX18_conflictsWith wsJx35411_next_0502b := goodIn_r _ [156, 152, 142, 157, 144, 158, 159, 160, 138, 161, 145, 146, 147, 292, 293, 294, 295, 268, 269, 270] (by decide +kernel) (by decide +kernel)
set_option maxRecDepth 20000 in
theorem gX18_conflictsWith_Jx35411_next_0502b_f322Jx35411 : GoodIn wsX18_conflictsWith (va_wsF RX18 322 RJx35411 ⟨"java/util/Iterator", "next", "()Ljava/lang/Object;"⟩ yJx35411_next_0502b wsJx35411_next_0502b) := goodIn_app (goodIn_of _ (by decide +kernel)) ggX18_conflictsWith_Jx35411_next_0502b
set_option maxRecDepth 20000 in
theorem ggX18_conflictsWith_X18_bears : GoodIn wsX18_conflictsWith wsX18_bears := goodIn_ca (goodIn_r _ [165, 1, 2, 166, 167, 168, 3, 5, 6, 26, 27, 28, 29, 30, 7, 8, 9, 10, 11, 12, 13, 14, 15, 16, 17, 18, 19, 20, 21, 22, 23, 24, 25, 169, 170, 171, 172, 173, 174, 175, 176, 41, 42, 177, 178, 179, 180, 181, 182, 183, 184, 185, 186, 187, 188, 189, 190, 132, 133, 134, 135, 136, 137, 138, 139, 140, 141, 142, 143, 144, 145, 146, 147, 148, 149, 150, 151, 152, 153, 154, 155, 156, 157, 158, 159, 160, 161, 191, 192, 193, 194, 195, 196, 197, 198, 199, 200, 201, 202, 162, 163, 164, 203, 204, 205, 206, 207, 208, 209, 251, 252, 253, 254, 255, 256, 257, 258, 259, 260, 261, 262, 263, 264, 265, 266, 267, 213, 214, 215, 216, 217, 218, 219, 220, 221, 222, 223, 224, 225, 226, 227, 228, 229, 230, 231, 232, 233, 234, 235, 236, 237, 238, 239, 240, 241, 242, 243, 244, 245, 246, 247, 248, 249, 250, 268, 269, 270, 292, 293, 294, 295] (by decide +kernel) (by decide +kernel)) (goodIn_sub (fun _ h => List.mem_cons_of_mem _ (List.mem_append_right _ h)) (by decide +kernel))
set_option maxRecDepth 20000 in
theorem gX18_conflictsWith_X18_bears : GoodIn wsX18_conflictsWith (wsV RX18 347 RX18 yX18_bears wsX18_bears) := goodIn_app (goodIn_of _ (by decide +kernel)) ggX18_conflictsWith_X18_bears
set_option maxRecDepth 20000 in
theorem ggX18_conflictsWith_X18_unlike : GoodIn wsX18_conflictsWith wsX18_unlike := goodIn_ca (goodIn_r _ [212] (by decide +kernel) (by decide +kernel)) (goodIn_sub (fun _ h => List.mem_cons_of_mem _ (List.mem_append_right _ h)) (by decide +kernel))
set_option maxRecDepth 20000 in
theorem gX18_conflictsWith_X18_unlike : GoodIn wsX18_conflictsWith (va_wsS RX18 426 yX18_unlike wsX18_unlike) := goodIn_app (goodIn_of _ (by decide +kernel)) ggX18_conflictsWith_X18_unlike
theorem dX18_conflictsWith_0 : decode cX18_conflictsWith 0 = .ok (.aload_n 0, 1) := by decide +kernel
theorem dX18_conflictsWith_1 : decode cX18_conflictsWith 1 = .ok (.getfield 20, 3) := by decide +kernel
theorem dX18_conflictsWith_4 : decode cX18_conflictsWith 4 = .ok (.iload_n 1, 1) := by decide +kernel
theorem dX18_conflictsWith_5 : decode cX18_conflictsWith 5 = .ok (.invokevirtual 294, 3) := by decide +kernel
theorem dX18_conflictsWith_8 : decode cX18_conflictsWith 8 = .ok (.checkcast 373, 3) := by decide +kernel
theorem dX18_conflictsWith_11 : decode cX18_conflictsWith 11 = .ok (.getfield 419, 3) := by decide +kernel
theorem dX18_conflictsWith_14 : decode cX18_conflictsWith 14 = .ok (.iload 4, 2) := by decide +kernel
theorem dX18_conflictsWith_16 : decode cX18_conflictsWith 16 = .ok (.if_icmp .ne 11, 3) := by decide +kernel
theorem dX18_conflictsWith_19 : decode cX18_conflictsWith 19 = .ok (.aload_n 0, 1) := by decide +kernel
theorem dX18_conflictsWith_20 : decode cX18_conflictsWith 20 = .ok (.iload_n 1, 1) := by decide +kernel
theorem dX18_conflictsWith_21 : decode cX18_conflictsWith 21 = .ok (.invokevirtual 383, 3) := by decide +kernel
theorem dX18_conflictsWith_24 : decode cX18_conflictsWith 24 = .ok (.ifCond .eq 5, 3) := by decide +kernel
theorem dX18_conflictsWith_27 : decode cX18_conflictsWith 27 = .ok (.iconst 0, 1) := by decide +kernel
theorem dX18_conflictsWith_28 : decode cX18_conflictsWith 28 = .ok (.ireturn, 1) := by decide +kernel
theorem dX18_conflictsWith_29 : decode cX18_conflictsWith 29 = .ok (.aload_n 0, 1) := by decide +kernel
theorem dX18_conflictsWith_30 : decode cX18_conflictsWith 30 = .ok (.iload_n 1, 1) := by decide +kernel
theorem dX18_conflictsWith_31 : decode cX18_conflictsWith 31 = .ok (.iconst 0, 1) := by decide +kernel
theorem dX18_conflictsWith_32 : decode cX18_conflictsWith 32 = .ok (.newarray .int, 2) := by decide +kernel
theorem dX18_conflictsWith_34 : decode cX18_conflictsWith 34 = .ok (.aload_n 0, 1) := by decide +kernel
theorem dX18_conflictsWith_35 : decode cX18_conflictsWith 35 = .ok (.getfield 43, 3) := by decide +kernel
theorem dX18_conflictsWith_38 : decode cX18_conflictsWith 38 = .ok (.invokevirtual 422, 3) := by decide +kernel
theorem dX18_conflictsWith_41 : decode cX18_conflictsWith 41 = .ok (.iconst 0, 1) := by decide +kernel
theorem dX18_conflictsWith_42 : decode cX18_conflictsWith 42 = .ok (.istore 5, 2) := by decide +kernel
theorem dX18_conflictsWith_44 : decode cX18_conflictsWith 44 = .ok (.aload_n 0, 1) := by decide +kernel
theorem dX18_conflictsWith_45 : decode cX18_conflictsWith 45 = .ok (.getfield 16, 3) := by decide +kernel
theorem dX18_conflictsWith_48 : decode cX18_conflictsWith 48 = .ok (.invokevirtual 313, 3) := by decide +kernel
theorem dX18_conflictsWith_51 : decode cX18_conflictsWith 51 = .ok (.astore 6, 2) := by decide +kernel
theorem dX18_conflictsWith_53 : decode cX18_conflictsWith 53 = .ok (.aload 6, 2) := by decide +kernel
theorem dX18_conflictsWith_55 : decode cX18_conflictsWith 55 = .ok (.invokeinterface 317 1, 5) := by decide +kernel
theorem dX18_conflictsWith_60 : decode cX18_conflictsWith 60 = .ok (.ifCond .eq 73, 3) := by decide +kernel
theorem dX18_conflictsWith_63 : decode cX18_conflictsWith 63 = .ok (.aload 6, 2) := by decide +kernel
theorem dX18_conflictsWith_65 : decode cX18_conflictsWith 65 = .ok (.invokeinterface 322 1, 5) := by decide +kernel
theorem dX18_conflictsWith_70 : decode cX18_conflictsWith 70 = .ok (.checkcast 298, 3) := by decide +kernel
theorem dX18_conflictsWith_73 : decode cX18_conflictsWith 73 = .ok (.astore 7, 2) := by decide +kernel
theorem dX18_conflictsWith_75 : decode cX18_conflictsWith 75 = .ok (.aload 7, 2) := by decide +kernel
theorem dX18_conflictsWith_77 : decode cX18_conflictsWith 77 = .ok (.getfield 330, 3) := by decide +kernel
theorem dX18_conflictsWith_80 : decode cX18_conflictsWith 80 = .ok (.ifCond .eq 21, 3) := by decide +kernel
theorem dX18_conflictsWith_83 : decode cX18_conflictsWith 83 = .ok (.aload 7, 2) := by decide +kernel
theorem dX18_conflictsWith_85 : decode cX18_conflictsWith 85 = .ok (.getfield 333, 3) := by decide +kernel
theorem dX18_conflictsWith_88 : decode cX18_conflictsWith 88 = .ok (.iload_n 3, 1) := by decide +kernel
theorem dX18_conflictsWith_89 : decode cX18_conflictsWith 89 = .ok (.if_icmp .eq 12, 3) := by decide +kernel
theorem dX18_conflictsWith_92 : decode cX18_conflictsWith 92 = .ok (.aload_n 0, 1) := by decide +kernel
theorem dX18_conflictsWith_93 : decode cX18_conflictsWith 93 = .ok (.aload 7, 2) := by decide +kernel
theorem dX18_conflictsWith_95 : decode cX18_conflictsWith 95 = .ok (.invokevirtual 347, 3) := by decide +kernel
theorem dX18_conflictsWith_98 : decode cX18_conflictsWith 98 = .ok (.goto 4, 3) := by decide +kernel
theorem dX18_conflictsWith_101 : decode cX18_conflictsWith 101 = .ok (.aconst_null, 1) := by decide +kernel
theorem dX18_conflictsWith_102 : decode cX18_conflictsWith 102 = .ok (.astore 8, 2) := by decide +kernel
theorem dX18_conflictsWith_104 : decode cX18_conflictsWith 104 = .ok (.iload 5, 2) := by decide +kernel
theorem dX18_conflictsWith_106 : decode cX18_conflictsWith 106 = .ok (.ifCond .ne 17, 3) := by decide +kernel
theorem dX18_conflictsWith_109 : decode cX18_conflictsWith 109 = .ok (.aload 8, 2) := by decide +kernel
theorem dX18_conflictsWith_111 : decode cX18_conflictsWith 111 = .ok (.ifnull 16, 3) := by decide +kernel
theorem dX18_conflictsWith_114 : decode cX18_conflictsWith 114 = .ok (.aload 8, 2) := by decide +kernel
theorem dX18_conflictsWith_116 : decode cX18_conflictsWith 116 = .ok (.getfield 378, 3) := by decide +kernel
theorem dX18_conflictsWith_119 : decode cX18_conflictsWith 119 = .ok (.iload_n 1, 1) := by decide +kernel
theorem dX18_conflictsWith_120 : decode cX18_conflictsWith 120 = .ok (.if_icmp .ne 7, 3) := by decide +kernel
theorem dX18_conflictsWith_123 : decode cX18_conflictsWith 123 = .ok (.iconst 1, 1) := by decide +kernel
theorem dX18_conflictsWith_124 : decode cX18_conflictsWith 124 = .ok (.goto 4, 3) := by decide +kernel
theorem dX18_conflictsWith_127 : decode cX18_conflictsWith 127 = .ok (.iconst 0, 1) := by decide +kernel
theorem dX18_conflictsWith_128 : decode cX18_conflictsWith 128 = .ok (.istore 5, 2) := by decide +kernel
theorem dX18_conflictsWith_130 : decode cX18_conflictsWith 130 = .ok (.goto (-77), 3) := by decide +kernel
theorem dX18_conflictsWith_133 : decode cX18_conflictsWith 133 = .ok (.iload 5, 2) := by decide +kernel
theorem dX18_conflictsWith_135 : decode cX18_conflictsWith 135 = .ok (.ifCond .eq 20, 3) := by decide +kernel
theorem dX18_conflictsWith_138 : decode cX18_conflictsWith 138 = .ok (.aload_n 2, 1) := by decide +kernel
theorem dX18_conflictsWith_139 : decode cX18_conflictsWith 139 = .ok (.aload_n 0, 1) := by decide +kernel
theorem dX18_conflictsWith_140 : decode cX18_conflictsWith 140 = .ok (.getfield 43, 3) := by decide +kernel
theorem dX18_conflictsWith_143 : decode cX18_conflictsWith 143 = .ok (.invokestatic 426, 3) := by decide +kernel
theorem dX18_conflictsWith_146 : decode cX18_conflictsWith 146 = .ok (.bipush 24, 2) := by decide +kernel
theorem dX18_conflictsWith_148 : decode cX18_conflictsWith 148 = .ok (.if_icmp .ge 7, 3) := by decide +kernel
theorem dX18_conflictsWith_151 : decode cX18_conflictsWith 151 = .ok (.iconst 1, 1) := by decide +kernel
theorem dX18_conflictsWith_152 : decode cX18_conflictsWith 152 = .ok (.goto 4, 3) := by decide +kernel
theorem dX18_conflictsWith_155 : decode cX18_conflictsWith 155 = .ok (.iconst 0, 1) := by decide +kernel
theorem dX18_conflictsWith_156 : decode cX18_conflictsWith 156 = .ok (.ireturn, 1) := by decide +kernel
set_option maxRecDepth 20000 in
theorem ggX18_countConflicts_X18_draw : GoodIn wsX18_countConflicts wsX18_draw := goodIn_ca (goodIn_r _ [8, 9, 10, 11, 7, 12, 13, 14, 15, 16, 17, 18, 19, 20, 21, 22, 23, 24, 25, 26, 27, 28, 29, 30, 31, 32, 33, 34, 35, 36, 37, 38, 39, 40, 41, 42, 43, 44, 45, 46, 47, 48, 247, 248, 249, 250, 251, 252, 219, 220, 221, 222, 223, 224, 225, 226, 227, 228, 229, 230, 231, 232, 233, 234, 235, 236, 237, 238, 239, 240, 241, 242, 243, 244, 245, 246, 253, 254, 255, 256, 257, 258, 259, 260, 261, 262, 263, 264, 265, 266, 267] (by decide +kernel) (by decide +kernel)) (goodIn_sub (fun _ h => List.mem_cons_of_mem _ (List.mem_append_right _ h)) (by decide +kernel))
set_option maxRecDepth 20000 in
theorem gX18_countConflicts_X18_draw : GoodIn wsX18_countConflicts (wsV RX18 235 RX18 yX18_draw wsX18_draw) := goodIn_app (goodIn_of _ (by decide +kernel)) ggX18_countConflicts_X18_draw
set_option maxRecDepth 20000 in
theorem ggX18_countConflicts_Jx4a65c_size_8abf5 : GoodIn wsX18_countConflicts wsJx4a65c_size_8abf5 := goodIn_r _ [53, 54, 268, 269, 270] (by decide +kernel) (by decide +kernel)
set_option maxRecDepth 20000 in
theorem gX18_countConflicts_Jx4a65c_size_8abf5 : GoodIn wsX18_countConflicts (wsV RX18 288 RJx4a65c yJx4a65c_size_8abf5 wsJx4a65c_size_8abf5) := goodIn_app (goodIn_of _ (by decide +kernel)) ggX18_countConflicts_Jx4a65c_size_8abf5
set_option maxRecDepth 20000 in
theorem ggX18_countConflicts_X18_conflictsWith : GoodIn wsX18_countConflicts wsX18_conflictsWith := goodIn_ca (goodIn_r _ [58, 3, 59, 60, 61, 62, 63, 64, 65, 66, 52, 67, 54, 68, 69, 70, 71, 72, 73, 74, 75, 76, 77, 78, 79, 80, 81, 82, 83, 7, 84, 85, 86, 87, 88, 89, 90, 91, 92, 93, 94, 95, 96, 97, 98, 99, 100, 101, 102, 103, 104, 105, 106, 107, 108, 109, 110, 111, 112, 113, 114, 115, 116, 117, 118, 119, 120, 121, 122, 123, 124, 125, 126, 127, 128, 129, 130, 131, 132, 133, 134, 135, 136, 137, 138, 139, 140, 141, 4, 5, 6, 8, 9, 10, 11, 12, 13, 14, 15, 16, 17, 18, 19, 20, 21, 22, 23, 24, 25, 26, 27, 28, 29, 30, 31, 32, 33, 34, 35, 36, 37, 38, 39, 40, 41, 42, 43, 44, 45, 46, 47, 48, 142, 143, 144, 145, 146, 147, 148, 149, 150, 151, 152, 153, 154, 155, 156, 157, 158, 159, 160, 161, 162, 163, 164, 165, 166, 167, 168, 169, 170, 171, 172, 173, 174, 175, 176, 177, 178, 49, 50, 51, 53, 179, 180, 181, 182, 183, 184, 185, 186, 187, 188, 189, 190, 191, 192, 193, 194, 195, 196, 197, 198, 199, 200, 201, 202, 203, 204, 205, 206, 207, 208, 209, 210, 211, 212, 213, 214, 215, 216, 217, 218, 219, 220, 221, 222, 223, 224, 225, 226, 227, 228, 229, 230, 231, 232, 233, 234, 235, 236, 237, 238, 239, 240, 241, 242, 243, 244, 245, 246, 271, 272, 273, 274, 275, 276, 277, 278, 279, 280, 281, 282, 283, 284, 285, 286, 287, 288, 289, 290, 291, 292, 293, 294, 295, 296, 297, 268, 269, 270, 247, 248, 249, 250, 251, 252, 253, 254, 255, 256, 257, 258, 259, 260, 261, 262, 263, 264, 265, 266, 267, 298, 299, 300, 301] (by decide +kernel) (by decide +kernel)) (goodIn_sub (fun _ h => List.mem_cons_of_mem _ (List.mem_append_right _ h)) (by decide +kernel))
set_option maxRecDepth 20000 in
theorem gX18_countConflicts_X18_conflictsWith : GoodIn wsX18_countConflicts (wsV RX18 430 RX18 yX18_conflictsWith wsX18_conflictsWith) := goodIn_app (goodIn_of _ (by decide +kernel)) ggX18_countConflicts_X18_conflictsWith
theorem dX18_countConflicts_0 : decode cX18_countConflicts 0 = .ok (.aload_n 0, 1) := by decide +kernel
theorem dX18_countConflicts_1 : decode cX18_countConflicts 1 = .ok (.aload_n 0, 1) := by decide +kernel
theorem dX18_countConflicts_2 : decode cX18_countConflicts 2 = .ok (.getfield 29, 3) := by decide +kernel
theorem dX18_countConflicts_5 : decode cX18_countConflicts 5 = .ok (.aload_n 0, 1) := by decide +kernel
theorem dX18_countConflicts_6 : decode cX18_countConflicts 6 = .ok (.getfield 40, 3) := by decide +kernel
theorem dX18_countConflicts_9 : decode cX18_countConflicts 9 = .ok (.invokevirtual 235, 3) := by decide +kernel
theorem dX18_countConflicts_12 : decode cX18_countConflicts 12 = .ok (.iconst 0, 1) := by decide +kernel
theorem dX18_countConflicts_13 : decode cX18_countConflicts 13 = .ok (.istore_n 3, 1) := by decide +kernel
theorem dX18_countConflicts_14 : decode cX18_countConflicts 14 = .ok (.iconst 0, 1) := by decide +kernel
theorem dX18_countConflicts_15 : decode cX18_countConflicts 15 = .ok (.istore 4, 2) := by decide +kernel
theorem dX18_countConflicts_17 : decode cX18_countConflicts 17 = .ok (.iload 4, 2) := by decide +kernel
theorem dX18_countConflicts_19 : decode cX18_countConflicts 19 = .ok (.aload_n 0, 1) := by decide +kernel
theorem dX18_countConflicts_20 : decode cX18_countConflicts 20 = .ok (.getfield 20, 3) := by decide +kernel
theorem dX18_countConflicts_23 : decode cX18_countConflicts 23 = .ok (.invokevirtual 288, 3) := by decide +kernel
theorem dX18_countConflicts_26 : decode cX18_countConflicts 26 = .ok (.if_icmp .ge 32, 3) := by decide +kernel
theorem dX18_countConflicts_29 : decode cX18_countConflicts 29 = .ok (.iload_n 3, 1) := by decide +kernel
theorem dX18_countConflicts_30 : decode cX18_countConflicts 30 = .ok (.aload_n 0, 1) := by decide +kernel
theorem dX18_countConflicts_31 : decode cX18_countConflicts 31 = .ok (.iload 4, 2) := by decide +kernel
theorem dX18_countConflicts_33 : decode cX18_countConflicts 33 = .ok (.aload_n 0, 1) := by decide +kernel
theorem dX18_countConflicts_34 : decode cX18_countConflicts 34 = .ok (.getfield 40, 3) := by decide +kernel
theorem dX18_countConflicts_37 : decode cX18_countConflicts 37 = .ok (.iload_n 1, 1) := by decide +kernel
theorem dX18_countConflicts_38 : decode cX18_countConflicts 38 = .ok (.iload_n 2, 1) := by decide +kernel
theorem dX18_countConflicts_39 : decode cX18_countConflicts 39 = .ok (.invokevirtual 430, 3) := by decide +kernel
theorem dX18_countConflicts_42 : decode cX18_countConflicts 42 = .ok (.ifCond .eq 7, 3) := by decide +kernel
theorem dX18_countConflicts_45 : decode cX18_countConflicts 45 = .ok (.iconst 1, 1) := by decide +kernel
theorem dX18_countConflicts_46 : decode cX18_countConflicts 46 = .ok (.goto 4, 3) := by decide +kernel
theorem dX18_countConflicts_49 : decode cX18_countConflicts 49 = .ok (.iconst 0, 1) := by decide +kernel
theorem dX18_countConflicts_50 : decode cX18_countConflicts 50 = .ok (.iadd, 1) := by decide +kernel
theorem dX18_countConflicts_51 : decode cX18_countConflicts 51 = .ok (.istore_n 3, 1) := by decide +kernel
theorem dX18_countConflicts_52 : decode cX18_countConflicts 52 = .ok (.iinc 4 1, 3) := by decide +kernel
theorem dX18_countConflicts_55 : decode cX18_countConflicts 55 = .ok (.goto (-38), 3) := by decide +kernel
theorem dX18_countConflicts_58 : decode cX18_countConflicts 58 = .ok (.iload_n 3, 1) := by decide +kernel
theorem dX18_countConflicts_59 : decode cX18_countConflicts 59 = .ok (.ireturn, 1) := by decide +kernel
set_option maxRecDepth 20000 in
theorem ggX18_add_X12_init : GoodIn wsX18_add wsX12_init := goodIn_r _ [15, 16, 17, 18, 19, 20, 21, 22, 23, 24, 25, 119, 120, 121, 122, 123, 124, 125, 126, 127, 128] (by decide +kernel) (by decide +kernel)
set_option maxRecDepth 20000 in
theorem gX18_add_X12_init : GoodIn wsX18_add (wsX12_init) := ggX18_add_X12_init
set_option maxRecDepth 20000 in
theorem ggX18_add_Jx4a65c_add_9ea2d : GoodIn wsX18_add wsJx4a65c_add_9ea2d := goodIn_r _ [30, 31, 32, 33, 34, 35, 36, 37, 29, 38, 39, 40, 41, 42, 43, 44, 45, 46, 47, 48, 49, 50, 51, 52, 53, 54, 55, 56, 57, 58, 59, 60, 61, 62, 63, 64, 65, 66, 67, 68, 69, 70, 71, 72, 73, 74, 75, 76, 77, 78, 79, 80, 81, 135, 136, 137] (by decide +kernel) (by decide +kernel)
set_option maxRecDepth 20000 in
theorem gX18_add_Jx4a65c_add_9ea2d : GoodIn wsX18_add (wsV RX18 306 RJx4a65c yJx4a65c_add_9ea2d wsJx4a65c_add_9ea2d) := goodIn_app (goodIn_of _ (by decide +kernel)) ggX18_add_Jx4a65c_add_9ea2d
set_option maxRecDepth 20000 in
theorem ggX18_add_X14_init : GoodIn wsX18_add wsX14_init := goodIn_r _ [83, 84, 17, 18, 85, 86, 129, 130, 131, 132, 133, 134] (by decide +kernel) (by decide +kernel)
set_option maxRecDepth 20000 in
theorem gX18_add_X14_init_n28 : GoodIn wsX18_add (wsX14_init) := ggX18_add_X14_init
set_option maxRecDepth 20000 in
theorem ggX18_add_Jx4a65c_size_8abf5 : GoodIn wsX18_add wsJx4a65c_size_8abf5 := goodIn_r _ [90, 34, 135, 136, 137] (by decide +kernel) (by decide +kernel)
set_option maxRecDepth 20000 in
theorem gX18_add_Jx4a65c_size_8abf5 : GoodIn wsX18_add (wsV RX18 288 RJx4a65c yJx4a65c_size_8abf5 wsJx4a65c_size_8abf5) := goodIn_app (goodIn_of _ (by decide +kernel)) ggX18_add_Jx4a65c_size_8abf5
theorem dX18_add_0 : decode cX18_add 0 = .ok (.aload_n 0, 1) := by decide +kernel
theorem dX18_add_1 : decode cX18_add 1 = .ok (.getfield 81, 3) := by decide +kernel
theorem dX18_add_4 : decode cX18_add 4 = .ok (.newarray .int, 2) := by decide +kernel
theorem dX18_add_6 : decode cX18_add 6 = .ok (.astore 4, 2) := by decide +kernel
theorem dX18_add_8 : decode cX18_add 8 = .ok (.iconst 0, 1) := by decide +kernel
theorem dX18_add_9 : decode cX18_add 9 = .ok (.istore 5, 2) := by decide +kernel
theorem dX18_add_11 : decode cX18_add 11 = .ok (.iload 5, 2) := by decide +kernel
theorem dX18_add_13 : decode cX18_add 13 = .ok (.aload_n 0, 1) := by decide +kernel
theorem dX18_add_14 : decode cX18_add 14 = .ok (.getfield 81, 3) := by decide +kernel
theorem dX18_add_17 : decode cX18_add 17 = .ok (.if_icmp .ge 21, 3) := by decide +kernel
theorem dX18_add_20 : decode cX18_add 20 = .ok (.aload 4, 2) := by decide +kernel
theorem dX18_add_22 : decode cX18_add 22 = .ok (.iload 5, 2) := by decide +kernel
theorem dX18_add_24 : decode cX18_add 24 = .ok (.aload_n 0, 1) := by decide +kernel
theorem dX18_add_25 : decode cX18_add 25 = .ok (.getfield 9, 3) := by decide +kernel
theorem dX18_add_28 : decode cX18_add 28 = .ok (.iload 5, 2) := by decide +kernel
theorem dX18_add_30 : decode cX18_add 30 = .ok (.iaload, 1) := by decide +kernel
theorem dX18_add_31 : decode cX18_add 31 = .ok (.iastore, 1) := by decide +kernel
theorem dX18_add_32 : decode cX18_add 32 = .ok (.iinc 5 1, 3) := by decide +kernel
theorem dX18_add_35 : decode cX18_add 35 = .ok (.goto (-24), 3) := by decide +kernel
theorem dX18_add_38 : decode cX18_add 38 = .ok (.aload_n 0, 1) := by decide +kernel
theorem dX18_add_39 : decode cX18_add 39 = .ok (.getfield 20, 3) := by decide +kernel
theorem dX18_add_42 : decode cX18_add 42 = .ok (.new 373, 3) := by decide +kernel
theorem dX18_add_45 : decode cX18_add 45 = .ok (.dup, 1) := by decide +kernel
theorem dX18_add_46 : decode cX18_add 46 = .ok (.aload 4, 2) := by decide +kernel
theorem dX18_add_48 : decode cX18_add 48 = .ok (.aload_n 0, 1) := by decide +kernel
theorem dX18_add_49 : decode cX18_add 49 = .ok (.getfield 29, 3) := by decide +kernel
theorem dX18_add_52 : decode cX18_add 52 = .ok (.iload_n 2, 1) := by decide +kernel
theorem dX18_add_53 : decode cX18_add 53 = .ok (.iload_n 1, 1) := by decide +kernel
theorem dX18_add_54 : decode cX18_add 54 = .ok (.aload_n 0, 1) := by decide +kernel
theorem dX18_add_55 : decode cX18_add 55 = .ok (.getfield 285, 3) := by decide +kernel
theorem dX18_add_58 : decode cX18_add 58 = .ok (.iload_n 3, 1) := by decide +kernel
theorem dX18_add_59 : decode cX18_add 59 = .ok (.invokespecial 434, 3) := by decide +kernel
theorem dX18_add_62 : decode cX18_add 62 = .ok (.invokevirtual 306, 3) := by decide +kernel
theorem dX18_add_65 : decode cX18_add 65 = .ok (.istore 5, 2) := by decide +kernel
theorem dX18_add_67 : decode cX18_add 67 = .ok (.aload_n 0, 1) := by decide +kernel
theorem dX18_add_68 : decode cX18_add 68 = .ok (.new 26, 3) := by decide +kernel
theorem dX18_add_71 : decode cX18_add 71 = .ok (.dup, 1) := by decide +kernel
theorem dX18_add_72 : decode cX18_add 72 = .ok (.invokespecial 28, 3) := by decide +kernel
theorem dX18_add_75 : decode cX18_add 75 = .ok (.putfield 29, 3) := by decide +kernel
theorem dX18_add_78 : decode cX18_add 78 = .ok (.aload_n 0, 1) := by decide +kernel
theorem dX18_add_79 : decode cX18_add 79 = .ok (.iconst 0, 1) := by decide +kernel
theorem dX18_add_80 : decode cX18_add 80 = .ok (.putfield 81, 3) := by decide +kernel
theorem dX18_add_83 : decode cX18_add 83 = .ok (.aload_n 0, 1) := by decide +kernel
theorem dX18_add_84 : decode cX18_add 84 = .ok (.getfield 20, 3) := by decide +kernel
theorem dX18_add_87 : decode cX18_add 87 = .ok (.invokevirtual 288, 3) := by decide +kernel
theorem dX18_add_90 : decode cX18_add 90 = .ok (.iconst 1, 1) := by decide +kernel
theorem dX18_add_91 : decode cX18_add 91 = .ok (.isub, 1) := by decide +kernel
theorem dX18_add_92 : decode cX18_add 92 = .ok (.ireturn, 1) := by decide +kernel
set_option maxRecDepth 20000 in
theorem ggX18_grant_X18_failsPerson : GoodIn wsX18_grant wsX18_failsPerson := goodIn_r _ [9, 10, 11, 12, 8, 13, 2, 14, 15, 16, 17, 18, 19, 20, 21, 22, 23, 24, 25, 26, 27, 340, 341, 342, 343, 344, 345, 346, 347, 348, 349, 350, 351, 352, 353, 354, 355, 356, 357, 358, 359, 360, 361, 362, 363, 364, 365, 366, 367, 383, 384, 385] (by decide +kernel) (by decide +kernel)
set_option maxRecDepth 20000 in
theorem gX18_grant_X18_failsPerson : GoodIn wsX18_grant (wsV RX18 337 RX18 yX18_failsPerson wsX18_failsPerson) := goodIn_app (goodIn_of _ (by decide +kernel)) ggX18_grant_X18_failsPerson
set_option maxRecDepth 20000 in
theorem ggX18_grant_X18_in : GoodIn wsX18_grant wsX18_in := goodIn_r _ [22] (by decide +kernel) (by decide +kernel)
set_option maxRecDepth 20000 in
theorem gX18_grant_X18_in : GoodIn wsX18_grant (va_wsS RX18 77 yX18_in wsX18_in) := goodIn_app (goodIn_of _ (by decide +kernel)) ggX18_grant_X18_in
set_option maxRecDepth 20000 in
theorem ggX18_grant_X18_fails : GoodIn wsX18_grant wsX18_fails := goodIn_r _ [26, 27, 340, 341, 342, 343, 344, 345, 346, 347, 348, 349, 350, 351, 352, 353, 354, 355, 356, 357, 358, 359, 360, 361, 362, 363, 364, 365, 366, 367] (by decide +kernel) (by decide +kernel)
set_option maxRecDepth 20000 in
theorem gX18_grant_X18_fails : GoodIn wsX18_grant (wsV RX18 84 RX18 yX18_fails wsX18_fails) := goodIn_app (goodIn_of _ (by decide +kernel)) ggX18_grant_X18_fails
set_option maxRecDepth 20000 in
theorem ggX18_grant_X18_read : GoodIn wsX18_grant wsX18_read := goodIn_ca (goodIn_r _ [31, 32, 33, 34, 35, 1, 36, 37, 38, 39, 40, 41, 42, 43, 44, 45, 46, 47, 48, 8, 49, 50, 51, 52, 53, 54, 20, 21, 22, 55, 56, 57, 58, 59, 60, 61, 62, 63, 64, 65, 66, 67, 68, 69, 70, 71, 72, 73, 74, 75, 76, 77, 78, 79, 80, 81, 386, 387, 388, 389, 390, 391, 340, 341, 342, 343, 344, 345, 346, 347, 348, 349, 350, 351, 352, 353, 354, 355, 356, 357, 358, 359, 360, 361, 362, 363, 364, 365, 366, 367, 392, 393, 394, 395, 396, 397, 398, 399, 400, 401, 402, 403, 404, 405, 406] (by decide +kernel) (by decide +kernel)) (goodIn_sub (fun _ h => List.mem_cons_of_mem _ (List.mem_append_right _ h)) (by decide +kernel))
set_option maxRecDepth 20000 in
theorem gX18_grant_X18_read : GoodIn wsX18_grant (wsV RX18 176 RX18 yX18_read wsX18_read) := goodIn_app (goodIn_of _ (by decide +kernel)) ggX18_grant_X18_read
set_option maxRecDepth 20000 in
theorem ggX18_grant_Jx4a65c_get_915e3 : GoodIn wsX18_grant wsJx4a65c_get_915e3 := goodIn_r _ [85, 19, 86, 87, 88, 89, 90, 91, 92, 93, 94, 95, 96, 17, 97, 98, 383, 384, 385] (by decide +kernel) (by decide +kernel)
set_option maxRecDepth 20000 in
theorem gX18_grant_Jx4a65c_get_915e3 : GoodIn wsX18_grant (wsV RX18 294 RJx4a65c yJx4a65c_get_915e3 wsJx4a65c_get_915e3) := goodIn_app (goodIn_of _ (by decide +kernel)) ggX18_grant_Jx4a65c_get_915e3
set_option maxRecDepth 20000 in
theorem ggX18_grant_X18_countConflicts : GoodIn wsX18_grant wsX18_countConflicts := goodIn_ca (goodIn_r _ [102, 35, 103, 4, 104, 105, 106, 8, 107, 108, 109, 110, 111, 112, 113, 114, 115, 116, 117, 118, 119, 120, 121, 122, 123, 124, 125, 20, 21, 22, 126, 127, 128, 129, 130, 131, 132, 133, 134, 135, 136, 137, 138, 139, 140, 141, 142, 143, 144, 14, 15, 16, 17, 18, 19, 145, 146, 147, 148, 149, 150, 151, 2, 3, 82, 83, 84, 85, 86, 87, 88, 89, 90, 91, 92, 93, 94, 95, 96, 97, 98, 152, 153, 154, 155, 156, 157, 158, 159, 32, 33, 34, 39, 40, 41, 42, 43, 44, 45, 160, 161, 162, 163, 164, 165, 166, 167, 72, 168, 69, 70, 71, 73, 74, 75, 76, 77, 169, 170, 171, 172, 173, 174, 175, 176, 177, 178, 179, 180, 181, 182, 183, 184, 185, 186, 187, 188, 189, 68, 190, 191, 192, 193, 194, 195, 196, 197, 198, 199, 200, 201, 202, 203, 204, 205, 206, 207, 208, 209, 210, 211, 212, 213, 214, 215, 216, 217, 218, 219, 220, 221, 222, 223, 224, 225, 226, 227, 228, 229, 230, 231, 232, 233, 234, 235, 236, 237, 238, 239, 240, 241, 242, 243, 244, 245, 246, 247, 248, 249, 250, 251, 252, 253, 254, 255, 256, 257, 258, 259, 260, 261, 262, 263, 264, 265, 266, 267, 268, 269, 340, 341, 342, 343, 344, 345, 346, 347, 348, 349, 350, 351, 352, 353, 354, 355, 356, 357, 358, 359, 360, 361, 362, 363, 364, 365, 366, 367, 386, 387, 388, 389, 390, 391, 392, 393, 394, 395, 396, 397, 398, 399, 400, 401, 402, 403, 404, 405, 406, 383, 384, 385, 407, 408, 409, 410, 411, 412, 413, 414, 415, 416, 368, 369, 370, 371, 372, 373, 374, 375, 376, 377, 378, 379, 380, 381, 382, 417, 418, 419, 420, 421, 422] (by decide +kernel) (by decide +kernel)) (goodIn_sub (fun _ h => List.mem_cons_of_mem _ (List.mem_append_right _ h)) (by decide +kernel))
set_option maxRecDepth 20000 in
theorem gX18_grant_X18_countConflicts : GoodIn wsX18_grant (wsV RX18 437 RX18 yX18_countConflicts wsX18_countConflicts) := goodIn_app (goodIn_of _ (by decide +kernel)) ggX18_grant_X18_countConflicts
set_option maxRecDepth 20000 in
theorem ggX18_grant_Jx4a65c_size_8abf5 : GoodIn wsX18_grant wsJx4a65c_size_8abf5 := goodIn_r _ [18, 19, 383, 384, 385] (by decide +kernel) (by decide +kernel)
set_option maxRecDepth 20000 in
theorem gX18_grant_Jx4a65c_size_8abf5 : GoodIn wsX18_grant (wsV RX18 288 RJx4a65c yJx4a65c_size_8abf5 wsJx4a65c_size_8abf5) := goodIn_app (goodIn_of _ (by decide +kernel)) ggX18_grant_Jx4a65c_size_8abf5
set_option maxRecDepth 20000 in
theorem ggX18_grant_X18_add : GoodIn wsX18_grant wsX18_add := goodIn_ca (goodIn_r _ [273, 38, 150, 54, 4, 274, 275, 276, 35, 277, 32, 33, 34, 278, 279, 280, 281, 42, 43, 282, 283, 284, 285, 286, 287, 288, 289, 290, 291, 17, 292, 293, 207, 98, 19, 294, 295, 296, 297, 298, 299, 300, 301, 302, 303, 304, 305, 306, 307, 308, 114, 309, 310, 311, 312, 313, 314, 315, 316, 317, 318, 319, 320, 321, 322, 323, 324, 325, 326, 327, 328, 329, 330, 331, 332, 333, 334, 335, 336, 337, 338, 339, 39, 40, 41, 44, 45, 14, 15, 16, 18, 340, 341, 342, 343, 344, 345, 346, 347, 348, 349, 350, 351, 352, 353, 354, 355, 356, 357, 358, 359, 360, 361, 362, 363, 364, 365, 366, 367, 407, 408, 409, 410, 411, 412, 413, 414, 415, 416, 386, 387, 388, 389, 390, 391, 383, 384, 385] (by decide +kernel) (by decide +kernel)) (goodIn_sub (fun _ h => List.mem_cons_of_mem _ (List.mem_append_right _ h)) (by decide +kernel))
set_option maxRecDepth 20000 in
theorem gX18_grant_X18_add : GoodIn wsX18_grant (wsV RX18 440 RX18 yX18_add wsX18_add) := goodIn_app (goodIn_of _ (by decide +kernel)) ggX18_grant_X18_add
theorem dX18_grant_0 : decode cX18_grant 0 = .ok (.aload_n 0, 1) := by decide +kernel
theorem dX18_grant_1 : decode cX18_grant 1 = .ok (.iload_n 1, 1) := by decide +kernel
theorem dX18_grant_2 : decode cX18_grant 2 = .ok (.invokevirtual 337, 3) := by decide +kernel
theorem dX18_grant_5 : decode cX18_grant 5 = .ok (.ifCond .ne 24, 3) := by decide +kernel
theorem dX18_grant_8 : decode cX18_grant 8 = .ok (.aload_n 0, 1) := by decide +kernel
theorem dX18_grant_9 : decode cX18_grant 9 = .ok (.iload_n 2, 1) := by decide +kernel
theorem dX18_grant_10 : decode cX18_grant 10 = .ok (.iconst 0, 1) := by decide +kernel
theorem dX18_grant_11 : decode cX18_grant 11 = .ok (.iconst 3, 1) := by decide +kernel
theorem dX18_grant_12 : decode cX18_grant 12 = .ok (.invokestatic 77, 3) := by decide +kernel
theorem dX18_grant_15 : decode cX18_grant 15 = .ok (.ifCond .eq 7, 3) := by decide +kernel
theorem dX18_grant_18 : decode cX18_grant 18 = .ok (.iconst 0, 1) := by decide +kernel
theorem dX18_grant_19 : decode cX18_grant 19 = .ok (.goto 4, 3) := by decide +kernel
theorem dX18_grant_22 : decode cX18_grant 22 = .ok (.iconst 2, 1) := by decide +kernel
theorem dX18_grant_23 : decode cX18_grant 23 = .ok (.invokevirtual 84, 3) := by decide +kernel
theorem dX18_grant_26 : decode cX18_grant 26 = .ok (.ifCond .eq 5, 3) := by decide +kernel
theorem dX18_grant_29 : decode cX18_grant 29 = .ok (.iconst 0, 1) := by decide +kernel
theorem dX18_grant_30 : decode cX18_grant 30 = .ok (.ireturn, 1) := by decide +kernel
theorem dX18_grant_31 : decode cX18_grant 31 = .ok (.aload_n 0, 1) := by decide +kernel
theorem dX18_grant_32 : decode cX18_grant 32 = .ok (.invokevirtual 176, 3) := by decide +kernel
theorem dX18_grant_35 : decode cX18_grant 35 = .ok (.aload_n 0, 1) := by decide +kernel
theorem dX18_grant_36 : decode cX18_grant 36 = .ok (.getfield 91, 3) := by decide +kernel
theorem dX18_grant_39 : decode cX18_grant 39 = .ok (.ifCond .ge 33, 3) := by decide +kernel
theorem dX18_grant_42 : decode cX18_grant 42 = .ok (.aload_n 0, 1) := by decide +kernel
theorem dX18_grant_43 : decode cX18_grant 43 = .ok (.getfield 16, 3) := by decide +kernel
theorem dX18_grant_46 : decode cX18_grant 46 = .ok (.iload_n 1, 1) := by decide +kernel
theorem dX18_grant_47 : decode cX18_grant 47 = .ok (.invokevirtual 294, 3) := by decide +kernel
theorem dX18_grant_50 : decode cX18_grant 50 = .ok (.checkcast 298, 3) := by decide +kernel
theorem dX18_grant_53 : decode cX18_grant 53 = .ok (.getfield 330, 3) := by decide +kernel
theorem dX18_grant_56 : decode cX18_grant 56 = .ok (.ifCond .eq 16, 3) := by decide +kernel
theorem dX18_grant_59 : decode cX18_grant 59 = .ok (.aload_n 0, 1) := by decide +kernel
theorem dX18_grant_60 : decode cX18_grant 60 = .ok (.iload_n 1, 1) := by decide +kernel
theorem dX18_grant_61 : decode cX18_grant 61 = .ok (.iload_n 2, 1) := by decide +kernel
theorem dX18_grant_62 : decode cX18_grant 62 = .ok (.invokevirtual 437, 3) := by decide +kernel
theorem dX18_grant_65 : decode cX18_grant 65 = .ok (.ifCond .ne 7, 3) := by decide +kernel
theorem dX18_grant_68 : decode cX18_grant 68 = .ok (.iconst 1, 1) := by decide +kernel
theorem dX18_grant_69 : decode cX18_grant 69 = .ok (.goto 4, 3) := by decide +kernel
theorem dX18_grant_72 : decode cX18_grant 72 = .ok (.iconst 0, 1) := by decide +kernel
theorem dX18_grant_73 : decode cX18_grant 73 = .ok (.istore_n 3, 1) := by decide +kernel
theorem dX18_grant_74 : decode cX18_grant 74 = .ok (.aload_n 0, 1) := by decide +kernel
theorem dX18_grant_75 : decode cX18_grant 75 = .ok (.iload_n 3, 1) := by decide +kernel
theorem dX18_grant_76 : decode cX18_grant 76 = .ok (.ifCond .ne 7, 3) := by decide +kernel
theorem dX18_grant_79 : decode cX18_grant 79 = .ok (.iconst 3, 1) := by decide +kernel
theorem dX18_grant_80 : decode cX18_grant 80 = .ok (.goto 20, 3) := by decide +kernel
theorem dX18_grant_83 : decode cX18_grant 83 = .ok (.aload_n 0, 1) := by decide +kernel
theorem dX18_grant_84 : decode cX18_grant 84 = .ok (.getfield 20, 3) := by decide +kernel
theorem dX18_grant_87 : decode cX18_grant 87 = .ok (.invokevirtual 288, 3) := by decide +kernel
theorem dX18_grant_90 : decode cX18_grant 90 = .ok (.bipush 24, 2) := by decide +kernel
theorem dX18_grant_92 : decode cX18_grant 92 = .ok (.if_icmp .ne 7, 3) := by decide +kernel
theorem dX18_grant_95 : decode cX18_grant 95 = .ok (.iconst 4, 1) := by decide +kernel
theorem dX18_grant_96 : decode cX18_grant 96 = .ok (.goto 4, 3) := by decide +kernel
theorem dX18_grant_99 : decode cX18_grant 99 = .ok (.iconst 0, 1) := by decide +kernel
theorem dX18_grant_100 : decode cX18_grant 100 = .ok (.invokevirtual 84, 3) := by decide +kernel
theorem dX18_grant_103 : decode cX18_grant 103 = .ok (.ifCond .eq 7, 3) := by decide +kernel
theorem dX18_grant_106 : decode cX18_grant 106 = .ok (.iconst 0, 1) := by decide +kernel
theorem dX18_grant_107 : decode cX18_grant 107 = .ok (.goto 11, 3) := by decide +kernel
theorem dX18_grant_110 : decode cX18_grant 110 = .ok (.aload_n 0, 1) := by decide +kernel
theorem dX18_grant_111 : decode cX18_grant 111 = .ok (.iload_n 1, 1) := by decide +kernel
theorem dX18_grant_112 : decode cX18_grant 112 = .ok (.iload_n 2, 1) := by decide +kernel
theorem dX18_grant_113 : decode cX18_grant 113 = .ok (.bipush 103, 2) := by decide +kernel
theorem dX18_grant_115 : decode cX18_grant 115 = .ok (.invokevirtual 440, 3) := by decide +kernel
theorem dX18_grant_118 : decode cX18_grant 118 = .ok (.ireturn, 1) := by decide +kernel
set_option maxRecDepth 20000 in
theorem ggX18_assume_X18_failsPerson : GoodIn wsX18_assume wsX18_failsPerson := goodIn_r _ [10, 11, 12, 13, 9, 14, 1, 15, 16, 17, 18, 19, 20, 21, 22, 23, 24, 25, 26, 27, 28, 250, 251, 252, 253, 254, 255, 256, 257, 258, 259, 260, 261, 262, 263, 264, 265, 266, 267, 268, 269, 270, 271, 272, 273, 274, 275, 276, 277, 305, 306, 307] (by decide +kernel) (by decide +kernel)
set_option maxRecDepth 20000 in
theorem gX18_assume_X18_failsPerson : GoodIn wsX18_assume (wsV RX18 337 RX18 yX18_failsPerson wsX18_failsPerson) := goodIn_app (goodIn_of _ (by decide +kernel)) ggX18_assume_X18_failsPerson
set_option maxRecDepth 20000 in
theorem ggX18_assume_X18_in : GoodIn wsX18_assume wsX18_in := goodIn_r _ [23] (by decide +kernel) (by decide +kernel)
set_option maxRecDepth 20000 in
theorem gX18_assume_X18_in : GoodIn wsX18_assume (va_wsS RX18 77 yX18_in wsX18_in) := goodIn_app (goodIn_of _ (by decide +kernel)) ggX18_assume_X18_in
set_option maxRecDepth 20000 in
theorem ggX18_assume_X18_fails : GoodIn wsX18_assume wsX18_fails := goodIn_r _ [27, 28, 250, 251, 252, 253, 254, 255, 256, 257, 258, 259, 260, 261, 262, 263, 264, 265, 266, 267, 268, 269, 270, 271, 272, 273, 274, 275, 276, 277] (by decide +kernel) (by decide +kernel)
set_option maxRecDepth 20000 in
theorem gX18_assume_X18_fails : GoodIn wsX18_assume (wsV RX18 84 RX18 yX18_fails wsX18_fails) := goodIn_app (goodIn_of _ (by decide +kernel)) ggX18_assume_X18_fails
set_option maxRecDepth 20000 in
theorem ggX18_assume_X18_read : GoodIn wsX18_assume wsX18_read := goodIn_ca (goodIn_r _ [32, 33, 34, 35, 36, 3, 37, 38, 39, 40, 41, 42, 43, 44, 45, 46, 47, 48, 49, 9, 50, 51, 52, 53, 54, 55, 21, 22, 23, 56, 57, 58, 59, 60, 61, 62, 63, 64, 65, 66, 67, 68, 69, 70, 71, 72, 73, 74, 75, 76, 77, 78, 79, 80, 81, 82, 308, 309, 310, 311, 312, 313, 250, 251, 252, 253, 254, 255, 256, 257, 258, 259, 260, 261, 262, 263, 264, 265, 266, 267, 268, 269, 270, 271, 272, 273, 274, 275, 276, 277, 314, 315, 316, 317, 318, 319, 320, 321, 322, 323, 324, 325, 326, 327, 328] (by decide +kernel) (by decide +kernel)) (goodIn_sub (fun _ h => List.mem_cons_of_mem _ (List.mem_append_right _ h)) (by decide +kernel))
set_option maxRecDepth 20000 in
theorem gX18_assume_X18_read : GoodIn wsX18_assume (wsV RX18 176 RX18 yX18_read wsX18_read) := goodIn_app (goodIn_of _ (by decide +kernel)) ggX18_assume_X18_read
set_option maxRecDepth 20000 in
theorem ggX18_assume_Jx4a65c_get_915e3 : GoodIn wsX18_assume wsJx4a65c_get_915e3 := goodIn_r _ [86, 20, 87, 88, 89, 90, 91, 92, 93, 94, 95, 96, 97, 18, 98, 99, 305, 306, 307] (by decide +kernel) (by decide +kernel)
set_option maxRecDepth 20000 in
theorem gX18_assume_Jx4a65c_get_915e3 : GoodIn wsX18_assume (wsV RX18 294 RJx4a65c yJx4a65c_get_915e3 wsJx4a65c_get_915e3) := goodIn_app (goodIn_of _ (by decide +kernel)) ggX18_assume_Jx4a65c_get_915e3
set_option maxRecDepth 20000 in
theorem ggX18_assume_X18_bears : GoodIn wsX18_assume wsX18_bears := goodIn_ca (goodIn_r _ [103, 4, 5, 104, 105, 106, 107, 1, 2, 108, 109, 110, 9, 111, 83, 84, 85, 18, 86, 20, 87, 88, 89, 90, 91, 92, 93, 94, 95, 96, 97, 98, 99, 15, 16, 17, 19, 112, 113, 114, 115, 43, 44, 116, 117, 118, 119, 120, 121, 122, 123, 124, 125, 126, 127, 128, 129, 130, 131, 132, 133, 134, 135, 136, 137, 138, 139, 140, 141, 142, 143, 144, 145, 146, 147, 148, 149, 150, 151, 152, 153, 154, 155, 156, 157, 158, 159, 160, 161, 162, 163, 164, 165, 166, 167, 168, 169, 170, 171, 100, 101, 102, 172, 173, 174, 175, 176, 177, 178, 278, 279, 280, 281, 282, 283, 284, 285, 286, 287, 288, 289, 290, 291, 292, 293, 294, 250, 251, 252, 253, 254, 255, 256, 257, 258, 259, 260, 261, 262, 263, 264, 265, 266, 267, 268, 269, 270, 271, 272, 273, 274, 275, 276, 277, 295, 296, 297, 298, 299, 300, 301, 302, 303, 304, 305, 306, 307, 329, 330, 331, 332] (by decide +kernel) (by decide +kernel)) (goodIn_sub (fun _ h => List.mem_cons_of_mem _ (List.mem_append_right _ h)) (by decide +kernel))
set_option maxRecDepth 20000 in
theorem gX18_assume_X18_bears : GoodIn wsX18_assume (wsV RX18 347 RX18 yX18_bears wsX18_bears) := goodIn_app (goodIn_of _ (by decide +kernel)) ggX18_assume_X18_bears
set_option maxRecDepth 20000 in
theorem ggX18_assume_Jx4a65c_size_8abf5 : GoodIn wsX18_assume wsJx4a65c_size_8abf5 := goodIn_r _ [19, 20, 305, 306, 307] (by decide +kernel) (by decide +kernel)
set_option maxRecDepth 20000 in
theorem gX18_assume_Jx4a65c_size_8abf5 : GoodIn wsX18_assume (wsV RX18 288 RJx4a65c yJx4a65c_size_8abf5 wsJx4a65c_size_8abf5) := goodIn_app (goodIn_of _ (by decide +kernel)) ggX18_assume_Jx4a65c_size_8abf5
set_option maxRecDepth 20000 in
theorem ggX18_assume_X18_add : GoodIn wsX18_assume wsX18_add := goodIn_ca (goodIn_r _ [182, 39, 107, 55, 4, 183, 184, 185, 36, 186, 33, 34, 35, 187, 188, 189, 190, 43, 44, 191, 192, 193, 194, 195, 196, 197, 198, 199, 200, 18, 201, 202, 144, 99, 20, 203, 204, 205, 206, 207, 208, 209, 210, 211, 212, 213, 214, 215, 216, 217, 218, 219, 220, 221, 222, 223, 224, 225, 226, 227, 228, 229, 230, 231, 232, 233, 234, 235, 236, 237, 238, 239, 240, 241, 242, 243, 244, 245, 246, 247, 248, 249, 40, 41, 42, 45, 46, 15, 16, 17, 19, 250, 251, 252, 253, 254, 255, 256, 257, 258, 259, 260, 261, 262, 263, 264, 265, 266, 267, 268, 269, 270, 271, 272, 273, 274, 275, 276, 277, 295, 296, 297, 298, 299, 300, 301, 302, 303, 304, 308, 309, 310, 311, 312, 313, 305, 306, 307] (by decide +kernel) (by decide +kernel)) (goodIn_sub (fun _ h => List.mem_cons_of_mem _ (List.mem_append_right _ h)) (by decide +kernel))
set_option maxRecDepth 20000 in
theorem gX18_assume_X18_add : GoodIn wsX18_assume (wsV RX18 440 RX18 yX18_add wsX18_add) := goodIn_app (goodIn_of _ (by decide +kernel)) ggX18_assume_X18_add
theorem dX18_assume_0 : decode cX18_assume 0 = .ok (.aload_n 0, 1) := by decide +kernel
theorem dX18_assume_1 : decode cX18_assume 1 = .ok (.iload_n 1, 1) := by decide +kernel
theorem dX18_assume_2 : decode cX18_assume 2 = .ok (.invokevirtual 337, 3) := by decide +kernel
theorem dX18_assume_5 : decode cX18_assume 5 = .ok (.ifCond .ne 24, 3) := by decide +kernel
theorem dX18_assume_8 : decode cX18_assume 8 = .ok (.aload_n 0, 1) := by decide +kernel
theorem dX18_assume_9 : decode cX18_assume 9 = .ok (.iload_n 2, 1) := by decide +kernel
theorem dX18_assume_10 : decode cX18_assume 10 = .ok (.iconst 0, 1) := by decide +kernel
theorem dX18_assume_11 : decode cX18_assume 11 = .ok (.iconst 3, 1) := by decide +kernel
theorem dX18_assume_12 : decode cX18_assume 12 = .ok (.invokestatic 77, 3) := by decide +kernel
theorem dX18_assume_15 : decode cX18_assume 15 = .ok (.ifCond .eq 7, 3) := by decide +kernel
theorem dX18_assume_18 : decode cX18_assume 18 = .ok (.iconst 0, 1) := by decide +kernel
theorem dX18_assume_19 : decode cX18_assume 19 = .ok (.goto 4, 3) := by decide +kernel
theorem dX18_assume_22 : decode cX18_assume 22 = .ok (.iconst 2, 1) := by decide +kernel
theorem dX18_assume_23 : decode cX18_assume 23 = .ok (.invokevirtual 84, 3) := by decide +kernel
theorem dX18_assume_26 : decode cX18_assume 26 = .ok (.ifCond .eq 5, 3) := by decide +kernel
theorem dX18_assume_29 : decode cX18_assume 29 = .ok (.iconst 0, 1) := by decide +kernel
theorem dX18_assume_30 : decode cX18_assume 30 = .ok (.ireturn, 1) := by decide +kernel
theorem dX18_assume_31 : decode cX18_assume 31 = .ok (.aload_n 0, 1) := by decide +kernel
theorem dX18_assume_32 : decode cX18_assume 32 = .ok (.invokevirtual 176, 3) := by decide +kernel
theorem dX18_assume_35 : decode cX18_assume 35 = .ok (.aload_n 0, 1) := by decide +kernel
theorem dX18_assume_36 : decode cX18_assume 36 = .ok (.getfield 16, 3) := by decide +kernel
theorem dX18_assume_39 : decode cX18_assume 39 = .ok (.iload_n 1, 1) := by decide +kernel
theorem dX18_assume_40 : decode cX18_assume 40 = .ok (.invokevirtual 294, 3) := by decide +kernel
theorem dX18_assume_43 : decode cX18_assume 43 = .ok (.checkcast 298, 3) := by decide +kernel
theorem dX18_assume_46 : decode cX18_assume 46 = .ok (.getfield 330, 3) := by decide +kernel
theorem dX18_assume_49 : decode cX18_assume 49 = .ok (.ifCond .eq 21, 3) := by decide +kernel
theorem dX18_assume_52 : decode cX18_assume 52 = .ok (.aload_n 0, 1) := by decide +kernel
theorem dX18_assume_53 : decode cX18_assume 53 = .ok (.aload_n 0, 1) := by decide +kernel
theorem dX18_assume_54 : decode cX18_assume 54 = .ok (.getfield 16, 3) := by decide +kernel
theorem dX18_assume_57 : decode cX18_assume 57 = .ok (.iload_n 1, 1) := by decide +kernel
theorem dX18_assume_58 : decode cX18_assume 58 = .ok (.invokevirtual 294, 3) := by decide +kernel
theorem dX18_assume_61 : decode cX18_assume 61 = .ok (.checkcast 298, 3) := by decide +kernel
theorem dX18_assume_64 : decode cX18_assume 64 = .ok (.invokevirtual 347, 3) := by decide +kernel
theorem dX18_assume_67 : decode cX18_assume 67 = .ok (.goto 4, 3) := by decide +kernel
theorem dX18_assume_70 : decode cX18_assume 70 = .ok (.aconst_null, 1) := by decide +kernel
theorem dX18_assume_71 : decode cX18_assume 71 = .ok (.astore_n 3, 1) := by decide +kernel
theorem dX18_assume_72 : decode cX18_assume 72 = .ok (.aload_n 0, 1) := by decide +kernel
theorem dX18_assume_73 : decode cX18_assume 73 = .ok (.getfield 91, 3) := by decide +kernel
theorem dX18_assume_76 : decode cX18_assume 76 = .ok (.ifCond .ge 49, 3) := by decide +kernel
theorem dX18_assume_79 : decode cX18_assume 79 = .ok (.aload_n 0, 1) := by decide +kernel
theorem dX18_assume_80 : decode cX18_assume 80 = .ok (.getfield 16, 3) := by decide +kernel
theorem dX18_assume_83 : decode cX18_assume 83 = .ok (.iload_n 1, 1) := by decide +kernel
theorem dX18_assume_84 : decode cX18_assume 84 = .ok (.invokevirtual 294, 3) := by decide +kernel
theorem dX18_assume_87 : decode cX18_assume 87 = .ok (.checkcast 298, 3) := by decide +kernel
theorem dX18_assume_90 : decode cX18_assume 90 = .ok (.getfield 330, 3) := by decide +kernel
theorem dX18_assume_93 : decode cX18_assume 93 = .ok (.ifCond .eq 32, 3) := by decide +kernel
theorem dX18_assume_96 : decode cX18_assume 96 = .ok (.aload_n 3, 1) := by decide +kernel
theorem dX18_assume_97 : decode cX18_assume 97 = .ok (.ifnull 24, 3) := by decide +kernel
theorem dX18_assume_100 : decode cX18_assume 100 = .ok (.aload_n 0, 1) := by decide +kernel
theorem dX18_assume_101 : decode cX18_assume 101 = .ok (.getfield 20, 3) := by decide +kernel
theorem dX18_assume_104 : decode cX18_assume 104 = .ok (.aload_n 3, 1) := by decide +kernel
theorem dX18_assume_105 : decode cX18_assume 105 = .ok (.getfield 378, 3) := by decide +kernel
theorem dX18_assume_108 : decode cX18_assume 108 = .ok (.invokevirtual 294, 3) := by decide +kernel
theorem dX18_assume_111 : decode cX18_assume 111 = .ok (.checkcast 373, 3) := by decide +kernel
theorem dX18_assume_114 : decode cX18_assume 114 = .ok (.getfield 419, 3) := by decide +kernel
theorem dX18_assume_117 : decode cX18_assume 117 = .ok (.iload_n 2, 1) := by decide +kernel
theorem dX18_assume_118 : decode cX18_assume 118 = .ok (.if_icmp .eq 7, 3) := by decide +kernel
theorem dX18_assume_121 : decode cX18_assume 121 = .ok (.iconst 1, 1) := by decide +kernel
theorem dX18_assume_122 : decode cX18_assume 122 = .ok (.goto 4, 3) := by decide +kernel
theorem dX18_assume_125 : decode cX18_assume 125 = .ok (.iconst 0, 1) := by decide +kernel
theorem dX18_assume_126 : decode cX18_assume 126 = .ok (.istore 4, 2) := by decide +kernel
theorem dX18_assume_128 : decode cX18_assume 128 = .ok (.aload_n 0, 1) := by decide +kernel
theorem dX18_assume_129 : decode cX18_assume 129 = .ok (.iload 4, 2) := by decide +kernel
theorem dX18_assume_131 : decode cX18_assume 131 = .ok (.ifCond .ne 7, 3) := by decide +kernel
theorem dX18_assume_134 : decode cX18_assume 134 = .ok (.iconst 3, 1) := by decide +kernel
theorem dX18_assume_135 : decode cX18_assume 135 = .ok (.goto 20, 3) := by decide +kernel
theorem dX18_assume_138 : decode cX18_assume 138 = .ok (.aload_n 0, 1) := by decide +kernel
theorem dX18_assume_139 : decode cX18_assume 139 = .ok (.getfield 20, 3) := by decide +kernel
theorem dX18_assume_142 : decode cX18_assume 142 = .ok (.invokevirtual 288, 3) := by decide +kernel
theorem dX18_assume_145 : decode cX18_assume 145 = .ok (.bipush 24, 2) := by decide +kernel
theorem dX18_assume_147 : decode cX18_assume 147 = .ok (.if_icmp .ne 7, 3) := by decide +kernel
theorem dX18_assume_150 : decode cX18_assume 150 = .ok (.iconst 4, 1) := by decide +kernel
theorem dX18_assume_151 : decode cX18_assume 151 = .ok (.goto 4, 3) := by decide +kernel
theorem dX18_assume_154 : decode cX18_assume 154 = .ok (.iconst 0, 1) := by decide +kernel
theorem dX18_assume_155 : decode cX18_assume 155 = .ok (.invokevirtual 84, 3) := by decide +kernel
theorem dX18_assume_158 : decode cX18_assume 158 = .ok (.ifCond .eq 7, 3) := by decide +kernel
theorem dX18_assume_161 : decode cX18_assume 161 = .ok (.iconst 0, 1) := by decide +kernel
theorem dX18_assume_162 : decode cX18_assume 162 = .ok (.goto 11, 3) := by decide +kernel
theorem dX18_assume_165 : decode cX18_assume 165 = .ok (.aload_n 0, 1) := by decide +kernel
theorem dX18_assume_166 : decode cX18_assume 166 = .ok (.iload_n 1, 1) := by decide +kernel
theorem dX18_assume_167 : decode cX18_assume 167 = .ok (.iload_n 2, 1) := by decide +kernel
theorem dX18_assume_168 : decode cX18_assume 168 = .ok (.bipush 117, 2) := by decide +kernel
theorem dX18_assume_170 : decode cX18_assume 170 = .ok (.invokevirtual 440, 3) := by decide +kernel
theorem dX18_assume_173 : decode cX18_assume 173 = .ok (.ireturn, 1) := by decide +kernel
set_option maxRecDepth 20000 in
theorem ggX18_isArms_Jx4a65c_size_8abf5 : GoodIn wsX18_isArms wsJx4a65c_size_8abf5 := goodIn_r _ [6, 7, 40, 41, 42] (by decide +kernel) (by decide +kernel)
set_option maxRecDepth 20000 in
theorem gX18_isArms_Jx4a65c_size_8abf5 : GoodIn wsX18_isArms (wsV RX18 288 RJx4a65c yJx4a65c_size_8abf5 wsJx4a65c_size_8abf5) := goodIn_app (goodIn_of _ (by decide +kernel)) ggX18_isArms_Jx4a65c_size_8abf5
set_option maxRecDepth 20000 in
theorem ggX18_isArms_X18_in : GoodIn wsX18_isArms wsX18_in := goodIn_r _ [11] (by decide +kernel) (by decide +kernel)
set_option maxRecDepth 20000 in
theorem gX18_isArms_X18_in : GoodIn wsX18_isArms (va_wsS RX18 77 yX18_in wsX18_in) := goodIn_app (goodIn_of _ (by decide +kernel)) ggX18_isArms_X18_in
theorem dX18_isArms_0 : decode cX18_isArms 0 = .ok (.iload_n 1, 1) := by decide +kernel
theorem dX18_isArms_1 : decode cX18_isArms 1 = .ok (.iconst 0, 1) := by decide +kernel
theorem dX18_isArms_2 : decode cX18_isArms 2 = .ok (.aload_n 0, 1) := by decide +kernel
theorem dX18_isArms_3 : decode cX18_isArms 3 = .ok (.getfield 20, 3) := by decide +kernel
theorem dX18_isArms_6 : decode cX18_isArms 6 = .ok (.invokevirtual 288, 3) := by decide +kernel
theorem dX18_isArms_9 : decode cX18_isArms 9 = .ok (.iconst 1, 1) := by decide +kernel
theorem dX18_isArms_10 : decode cX18_isArms 10 = .ok (.isub, 1) := by decide +kernel
theorem dX18_isArms_11 : decode cX18_isArms 11 = .ok (.invokestatic 77, 3) := by decide +kernel
theorem dX18_isArms_14 : decode cX18_isArms 14 = .ok (.ireturn, 1) := by decide +kernel
set_option maxRecDepth 20000 in
theorem ggX18_failsArms_X18_isArms : GoodIn wsX18_failsArms wsX18_isArms := goodIn_r _ [5, 6, 7, 8, 9, 10, 11, 12, 13, 14, 4, 15, 21, 22, 23, 24, 25, 26, 27, 28, 29, 30, 31, 32, 33, 34, 35, 36, 37, 38, 39, 40, 41, 42, 43, 44, 45, 46, 47, 48, 49, 50, 51] (by decide +kernel) (by decide +kernel)
set_option maxRecDepth 20000 in
theorem gX18_failsArms_X18_isArms : GoodIn wsX18_failsArms (wsV RX18 443 RX18 yX18_isArms wsX18_isArms) := goodIn_app (goodIn_of _ (by decide +kernel)) ggX18_failsArms_X18_isArms
set_option maxRecDepth 20000 in
theorem ggX18_failsArms_X18_fails : GoodIn wsX18_failsArms wsX18_fails := goodIn_r _ [19, 20, 21, 22, 23, 24, 25, 26, 27, 28, 29, 30, 31, 32, 33, 34, 35, 36, 37, 38, 39, 40, 41, 42, 43, 44, 45, 46, 47, 48] (by decide +kernel) (by decide +kernel)
set_option maxRecDepth 20000 in
theorem gX18_failsArms_X18_fails : GoodIn wsX18_failsArms (wsV RX18 84 RX18 yX18_fails wsX18_fails) := goodIn_app (goodIn_of _ (by decide +kernel)) ggX18_failsArms_X18_fails
theorem dX18_failsArms_0 : decode cX18_failsArms 0 = .ok (.aload_n 0, 1) := by decide +kernel
theorem dX18_failsArms_1 : decode cX18_failsArms 1 = .ok (.aload_n 0, 1) := by decide +kernel
theorem dX18_failsArms_2 : decode cX18_failsArms 2 = .ok (.iload_n 1, 1) := by decide +kernel
theorem dX18_failsArms_3 : decode cX18_failsArms 3 = .ok (.invokevirtual 443, 3) := by decide +kernel
theorem dX18_failsArms_6 : decode cX18_failsArms 6 = .ok (.ifCond .eq 7, 3) := by decide +kernel
theorem dX18_failsArms_9 : decode cX18_failsArms 9 = .ok (.iconst 0, 1) := by decide +kernel
theorem dX18_failsArms_10 : decode cX18_failsArms 10 = .ok (.goto 4, 3) := by decide +kernel
theorem dX18_failsArms_13 : decode cX18_failsArms 13 = .ok (.iconst 1, 1) := by decide +kernel
theorem dX18_failsArms_14 : decode cX18_failsArms 14 = .ok (.invokevirtual 84, 3) := by decide +kernel
theorem dX18_failsArms_17 : decode cX18_failsArms 17 = .ok (.ireturn, 1) := by decide +kernel
set_option maxRecDepth 20000 in
theorem ggX18_cameBy_X18_failsArms : GoodIn wsX18_cameBy wsX18_failsArms := goodIn_r _ [7, 8, 9, 10, 6, 11, 1, 12, 13, 14, 15, 16, 17, 18, 19, 20, 21, 22, 23, 24, 25, 43, 44, 45, 46, 47, 48, 49, 50, 51, 52, 53, 54, 55, 56, 57, 58, 59, 60, 61, 62, 63, 64, 65, 66, 67, 68, 69, 70, 81, 82, 83] (by decide +kernel) (by decide +kernel)
set_option maxRecDepth 20000 in
theorem gX18_cameBy_X18_failsArms : GoodIn wsX18_cameBy (wsV RX18 446 RX18 yX18_failsArms wsX18_failsArms) := goodIn_app (goodIn_of _ (by decide +kernel)) ggX18_cameBy_X18_failsArms
set_option maxRecDepth 20000 in
theorem ggX18_cameBy_Jx4a65c_get_915e3 : GoodIn wsX18_cameBy wsJx4a65c_get_915e3 := goodIn_r _ [29, 17, 30, 31, 32, 33, 34, 35, 36, 37, 38, 39, 40, 15, 41, 42, 81, 82, 83] (by decide +kernel) (by decide +kernel)
set_option maxRecDepth 20000 in
theorem gX18_cameBy_Jx4a65c_get_915e3 : GoodIn wsX18_cameBy (wsV RX18 294 RJx4a65c yJx4a65c_get_915e3 wsJx4a65c_get_915e3) := goodIn_app (goodIn_of _ (by decide +kernel)) ggX18_cameBy_Jx4a65c_get_915e3
theorem dX18_cameBy_0 : decode cX18_cameBy 0 = .ok (.aload_n 0, 1) := by decide +kernel
theorem dX18_cameBy_1 : decode cX18_cameBy 1 = .ok (.iload_n 1, 1) := by decide +kernel
theorem dX18_cameBy_2 : decode cX18_cameBy 2 = .ok (.invokevirtual 446, 3) := by decide +kernel
theorem dX18_cameBy_5 : decode cX18_cameBy 5 = .ok (.ifCond .eq 7, 3) := by decide +kernel
theorem dX18_cameBy_8 : decode cX18_cameBy 8 = .ok (.iconst 0, 1) := by decide +kernel
theorem dX18_cameBy_9 : decode cX18_cameBy 9 = .ok (.goto 17, 3) := by decide +kernel
theorem dX18_cameBy_12 : decode cX18_cameBy 12 = .ok (.aload_n 0, 1) := by decide +kernel
theorem dX18_cameBy_13 : decode cX18_cameBy 13 = .ok (.getfield 20, 3) := by decide +kernel
theorem dX18_cameBy_16 : decode cX18_cameBy 16 = .ok (.iload_n 1, 1) := by decide +kernel
theorem dX18_cameBy_17 : decode cX18_cameBy 17 = .ok (.invokevirtual 294, 3) := by decide +kernel
theorem dX18_cameBy_20 : decode cX18_cameBy 20 = .ok (.checkcast 373, 3) := by decide +kernel
theorem dX18_cameBy_23 : decode cX18_cameBy 23 = .ok (.getfield 375, 3) := by decide +kernel
theorem dX18_cameBy_26 : decode cX18_cameBy 26 = .ok (.ireturn, 1) := by decide +kernel
set_option maxRecDepth 20000 in
theorem ggX18_yearOf_X18_failsArms : GoodIn wsX18_yearOf wsX18_failsArms := goodIn_r _ [7, 8, 9, 10, 6, 11, 1, 12, 13, 14, 15, 16, 17, 18, 19, 20, 21, 22, 23, 24, 25, 43, 44, 45, 46, 47, 48, 49, 50, 51, 52, 53, 54, 55, 56, 57, 58, 59, 60, 61, 62, 63, 64, 65, 66, 67, 68, 69, 70, 81, 82, 83] (by decide +kernel) (by decide +kernel)
set_option maxRecDepth 20000 in
theorem gX18_yearOf_X18_failsArms : GoodIn wsX18_yearOf (wsV RX18 446 RX18 yX18_failsArms wsX18_failsArms) := goodIn_app (goodIn_of _ (by decide +kernel)) ggX18_yearOf_X18_failsArms
set_option maxRecDepth 20000 in
theorem ggX18_yearOf_Jx4a65c_get_915e3 : GoodIn wsX18_yearOf wsJx4a65c_get_915e3 := goodIn_r _ [29, 17, 30, 31, 32, 33, 34, 35, 36, 37, 38, 39, 40, 15, 41, 42, 81, 82, 83] (by decide +kernel) (by decide +kernel)
set_option maxRecDepth 20000 in
theorem gX18_yearOf_Jx4a65c_get_915e3 : GoodIn wsX18_yearOf (wsV RX18 294 RJx4a65c yJx4a65c_get_915e3 wsJx4a65c_get_915e3) := goodIn_app (goodIn_of _ (by decide +kernel)) ggX18_yearOf_Jx4a65c_get_915e3
theorem dX18_yearOf_0 : decode cX18_yearOf 0 = .ok (.aload_n 0, 1) := by decide +kernel
theorem dX18_yearOf_1 : decode cX18_yearOf 1 = .ok (.iload_n 1, 1) := by decide +kernel
theorem dX18_yearOf_2 : decode cX18_yearOf 2 = .ok (.invokevirtual 446, 3) := by decide +kernel
theorem dX18_yearOf_5 : decode cX18_yearOf 5 = .ok (.ifCond .eq 7, 3) := by decide +kernel
theorem dX18_yearOf_8 : decode cX18_yearOf 8 = .ok (.iconst 0, 1) := by decide +kernel
theorem dX18_yearOf_9 : decode cX18_yearOf 9 = .ok (.goto 17, 3) := by decide +kernel
theorem dX18_yearOf_12 : decode cX18_yearOf 12 = .ok (.aload_n 0, 1) := by decide +kernel
theorem dX18_yearOf_13 : decode cX18_yearOf 13 = .ok (.getfield 20, 3) := by decide +kernel
theorem dX18_yearOf_16 : decode cX18_yearOf 16 = .ok (.iload_n 1, 1) := by decide +kernel
theorem dX18_yearOf_17 : decode cX18_yearOf 17 = .ok (.invokevirtual 294, 3) := by decide +kernel
theorem dX18_yearOf_20 : decode cX18_yearOf 20 = .ok (.checkcast 373, 3) := by decide +kernel
theorem dX18_yearOf_23 : decode cX18_yearOf 23 = .ok (.getfield 449, 3) := by decide +kernel
theorem dX18_yearOf_26 : decode cX18_yearOf 26 = .ok (.ireturn, 1) := by decide +kernel
set_option maxRecDepth 20000 in
theorem ggX18_borne_X18_failsPerson : GoodIn wsX18_borne wsX18_failsPerson := goodIn_r _ [7, 8, 9, 10, 6, 11, 1, 12, 13, 14, 15, 16, 17, 18, 19, 20, 21, 22, 23, 24, 25, 126, 127, 128, 129, 130, 131, 132, 133, 134, 135, 136, 137, 138, 139, 140, 141, 142, 143, 144, 145, 146, 147, 148, 149, 150, 151, 152, 153, 156, 157, 158] (by decide +kernel) (by decide +kernel)
set_option maxRecDepth 20000 in
theorem gX18_borne_X18_failsPerson : GoodIn wsX18_borne (wsV RX18 337 RX18 yX18_failsPerson wsX18_failsPerson) := goodIn_app (goodIn_of _ (by decide +kernel)) ggX18_borne_X18_failsPerson
set_option maxRecDepth 20000 in
theorem ggX18_borne_Jx4a65c_get_915e3 : GoodIn wsX18_borne wsJx4a65c_get_915e3 := goodIn_r _ [29, 17, 30, 31, 32, 33, 34, 35, 36, 37, 38, 39, 40, 15, 41, 42, 156, 157, 158] (by decide +kernel) (by decide +kernel)
set_option maxRecDepth 20000 in
theorem gX18_borne_Jx4a65c_get_915e3 : GoodIn wsX18_borne (wsV RX18 294 RJx4a65c yJx4a65c_get_915e3 wsJx4a65c_get_915e3) := goodIn_app (goodIn_of _ (by decide +kernel)) ggX18_borne_Jx4a65c_get_915e3
set_option maxRecDepth 20000 in
theorem ggX18_borne_X18_bears : GoodIn wsX18_borne wsX18_bears := goodIn_ca (goodIn_r _ [46, 47, 48, 49, 50, 51, 52, 1, 2, 53, 54, 55, 6, 56, 26, 27, 28, 15, 29, 17, 30, 31, 32, 33, 34, 35, 36, 37, 38, 39, 40, 41, 42, 12, 13, 14, 16, 57, 58, 59, 60, 61, 62, 63, 64, 65, 66, 67, 68, 69, 70, 71, 72, 73, 74, 75, 76, 77, 78, 79, 80, 81, 82, 83, 84, 85, 86, 87, 88, 89, 90, 91, 92, 93, 94, 95, 96, 97, 98, 99, 100, 101, 102, 103, 104, 105, 106, 107, 108, 109, 110, 111, 112, 113, 114, 115, 116, 117, 118, 43, 44, 45, 119, 120, 121, 122, 123, 124, 125, 159, 160, 161, 162, 163, 164, 165, 166, 167, 168, 169, 170, 171, 172, 173, 154, 155, 126, 127, 128, 129, 130, 131, 132, 133, 134, 135, 136, 137, 138, 139, 140, 141, 142, 143, 144, 145, 146, 147, 148, 149, 150, 151, 152, 153, 174, 175, 176, 177, 178, 179, 180, 181, 182, 183, 156, 157, 158, 184, 185, 186, 187] (by decide +kernel) (by decide +kernel)) (goodIn_sub (fun _ h => List.mem_cons_of_mem _ (List.mem_append_right _ h)) (by decide +kernel))
set_option maxRecDepth 20000 in
theorem gX18_borne_X18_bears : GoodIn wsX18_borne (wsV RX18 347 RX18 yX18_bears wsX18_bears) := goodIn_app (goodIn_of _ (by decide +kernel)) ggX18_borne_X18_bears
set_option maxRecDepth 20000 in
theorem ggX18_borne_X18_fails : GoodIn wsX18_borne wsX18_fails := goodIn_r _ [24, 25, 126, 127, 128, 129, 130, 131, 132, 133, 134, 135, 136, 137, 138, 139, 140, 141, 142, 143, 144, 145, 146, 147, 148, 149, 150, 151, 152, 153] (by decide +kernel) (by decide +kernel)
set_option maxRecDepth 20000 in
theorem gX18_borne_X18_fails : GoodIn wsX18_borne (wsV RX18 84 RX18 yX18_fails wsX18_fails) := goodIn_app (goodIn_of _ (by decide +kernel)) ggX18_borne_X18_fails
theorem dX18_borne_0 : decode cX18_borne 0 = .ok (.aload_n 0, 1) := by decide +kernel
theorem dX18_borne_1 : decode cX18_borne 1 = .ok (.iload_n 1, 1) := by decide +kernel
theorem dX18_borne_2 : decode cX18_borne 2 = .ok (.invokevirtual 337, 3) := by decide +kernel
theorem dX18_borne_5 : decode cX18_borne 5 = .ok (.ifCond .eq 5, 3) := by decide +kernel
theorem dX18_borne_8 : decode cX18_borne 8 = .ok (.iconst 0, 1) := by decide +kernel
theorem dX18_borne_9 : decode cX18_borne 9 = .ok (.ireturn, 1) := by decide +kernel
theorem dX18_borne_10 : decode cX18_borne 10 = .ok (.aload_n 0, 1) := by decide +kernel
theorem dX18_borne_11 : decode cX18_borne 11 = .ok (.aload_n 0, 1) := by decide +kernel
theorem dX18_borne_12 : decode cX18_borne 12 = .ok (.getfield 16, 3) := by decide +kernel
theorem dX18_borne_15 : decode cX18_borne 15 = .ok (.iload_n 1, 1) := by decide +kernel
theorem dX18_borne_16 : decode cX18_borne 16 = .ok (.invokevirtual 294, 3) := by decide +kernel
theorem dX18_borne_19 : decode cX18_borne 19 = .ok (.checkcast 298, 3) := by decide +kernel
theorem dX18_borne_22 : decode cX18_borne 22 = .ok (.invokevirtual 347, 3) := by decide +kernel
theorem dX18_borne_25 : decode cX18_borne 25 = .ok (.astore_n 2, 1) := by decide +kernel
theorem dX18_borne_26 : decode cX18_borne 26 = .ok (.aload_n 0, 1) := by decide +kernel
theorem dX18_borne_27 : decode cX18_borne 27 = .ok (.aload_n 2, 1) := by decide +kernel
theorem dX18_borne_28 : decode cX18_borne 28 = .ok (.ifnonnull 7, 3) := by decide +kernel
theorem dX18_borne_31 : decode cX18_borne 31 = .ok (.iconst 2, 1) := by decide +kernel
theorem dX18_borne_32 : decode cX18_borne 32 = .ok (.goto 4, 3) := by decide +kernel
theorem dX18_borne_35 : decode cX18_borne 35 = .ok (.iconst 0, 1) := by decide +kernel
theorem dX18_borne_36 : decode cX18_borne 36 = .ok (.invokevirtual 84, 3) := by decide +kernel
theorem dX18_borne_39 : decode cX18_borne 39 = .ok (.ifCond .eq 7, 3) := by decide +kernel
theorem dX18_borne_42 : decode cX18_borne 42 = .ok (.iconst 0, 1) := by decide +kernel
theorem dX18_borne_43 : decode cX18_borne 43 = .ok (.goto 7, 3) := by decide +kernel
theorem dX18_borne_46 : decode cX18_borne 46 = .ok (.aload_n 2, 1) := by decide +kernel
theorem dX18_borne_47 : decode cX18_borne 47 = .ok (.getfield 378, 3) := by decide +kernel
theorem dX18_borne_50 : decode cX18_borne 50 = .ok (.ireturn, 1) := by decide +kernel
set_option maxRecDepth 20000 in
theorem ggX18_differences_X18_failsPerson : GoodIn wsX18_differences wsX18_failsPerson := goodIn_r _ [7, 8, 9, 10, 6, 11, 1, 12, 13, 14, 15, 16, 17, 18, 19, 20, 21, 22, 23, 24, 25, 126, 127, 128, 129, 130, 131, 132, 133, 134, 135, 136, 137, 138, 139, 140, 141, 142, 143, 144, 145, 146, 147, 148, 149, 150, 151, 152, 153, 156, 157, 158] (by decide +kernel) (by decide +kernel)
set_option maxRecDepth 20000 in
theorem gX18_differences_X18_failsPerson : GoodIn wsX18_differences (wsV RX18 337 RX18 yX18_failsPerson wsX18_failsPerson) := goodIn_app (goodIn_of _ (by decide +kernel)) ggX18_differences_X18_failsPerson
set_option maxRecDepth 20000 in
theorem ggX18_differences_Jx4a65c_get_915e3 : GoodIn wsX18_differences wsJx4a65c_get_915e3 := goodIn_r _ [29, 17, 30, 31, 32, 33, 34, 35, 36, 37, 38, 39, 40, 15, 41, 42, 156, 157, 158] (by decide +kernel) (by decide +kernel)
set_option maxRecDepth 20000 in
theorem gX18_differences_Jx4a65c_get_915e3 : GoodIn wsX18_differences (wsV RX18 294 RJx4a65c yJx4a65c_get_915e3 wsJx4a65c_get_915e3) := goodIn_app (goodIn_of _ (by decide +kernel)) ggX18_differences_Jx4a65c_get_915e3
set_option maxRecDepth 20000 in
theorem ggX18_differences_X18_bears : GoodIn wsX18_differences wsX18_bears := goodIn_ca (goodIn_r _ [46, 47, 48, 49, 50, 51, 52, 1, 2, 53, 54, 55, 6, 56, 26, 27, 28, 15, 29, 17, 30, 31, 32, 33, 34, 35, 36, 37, 38, 39, 40, 41, 42, 12, 13, 14, 16, 57, 58, 59, 60, 61, 62, 63, 64, 65, 66, 67, 68, 69, 70, 71, 72, 73, 74, 75, 76, 77, 78, 79, 80, 81, 82, 83, 84, 85, 86, 87, 88, 89, 90, 91, 92, 93, 94, 95, 96, 97, 98, 99, 100, 101, 102, 103, 104, 105, 106, 107, 108, 109, 110, 111, 112, 113, 114, 115, 116, 117, 118, 43, 44, 45, 119, 120, 121, 122, 123, 124, 125, 159, 160, 161, 162, 163, 164, 165, 166, 167, 168, 169, 170, 171, 172, 173, 154, 155, 126, 127, 128, 129, 130, 131, 132, 133, 134, 135, 136, 137, 138, 139, 140, 141, 142, 143, 144, 145, 146, 147, 148, 149, 150, 151, 152, 153, 174, 175, 176, 177, 178, 179, 180, 181, 182, 183, 156, 157, 158, 184, 185, 186, 187] (by decide +kernel) (by decide +kernel)) (goodIn_sub (fun _ h => List.mem_cons_of_mem _ (List.mem_append_right _ h)) (by decide +kernel))
set_option maxRecDepth 20000 in
theorem gX18_differences_X18_bears : GoodIn wsX18_differences (wsV RX18 347 RX18 yX18_bears wsX18_bears) := goodIn_app (goodIn_of _ (by decide +kernel)) ggX18_differences_X18_bears
set_option maxRecDepth 20000 in
theorem ggX18_differences_X18_fails : GoodIn wsX18_differences wsX18_fails := goodIn_r _ [24, 25, 126, 127, 128, 129, 130, 131, 132, 133, 134, 135, 136, 137, 138, 139, 140, 141, 142, 143, 144, 145, 146, 147, 148, 149, 150, 151, 152, 153] (by decide +kernel) (by decide +kernel)
set_option maxRecDepth 20000 in
theorem gX18_differences_X18_fails : GoodIn wsX18_differences (wsV RX18 84 RX18 yX18_fails wsX18_fails) := goodIn_app (goodIn_of _ (by decide +kernel)) ggX18_differences_X18_fails
theorem dX18_differences_0 : decode cX18_differences 0 = .ok (.aload_n 0, 1) := by decide +kernel
theorem dX18_differences_1 : decode cX18_differences 1 = .ok (.iload_n 1, 1) := by decide +kernel
theorem dX18_differences_2 : decode cX18_differences 2 = .ok (.invokevirtual 337, 3) := by decide +kernel
theorem dX18_differences_5 : decode cX18_differences 5 = .ok (.ifCond .eq 5, 3) := by decide +kernel
theorem dX18_differences_8 : decode cX18_differences 8 = .ok (.iconst 0, 1) := by decide +kernel
theorem dX18_differences_9 : decode cX18_differences 9 = .ok (.ireturn, 1) := by decide +kernel
theorem dX18_differences_10 : decode cX18_differences 10 = .ok (.aload_n 0, 1) := by decide +kernel
theorem dX18_differences_11 : decode cX18_differences 11 = .ok (.aload_n 0, 1) := by decide +kernel
theorem dX18_differences_12 : decode cX18_differences 12 = .ok (.getfield 16, 3) := by decide +kernel
theorem dX18_differences_15 : decode cX18_differences 15 = .ok (.iload_n 1, 1) := by decide +kernel
theorem dX18_differences_16 : decode cX18_differences 16 = .ok (.invokevirtual 294, 3) := by decide +kernel
theorem dX18_differences_19 : decode cX18_differences 19 = .ok (.checkcast 298, 3) := by decide +kernel
theorem dX18_differences_22 : decode cX18_differences 22 = .ok (.invokevirtual 347, 3) := by decide +kernel
theorem dX18_differences_25 : decode cX18_differences 25 = .ok (.astore_n 2, 1) := by decide +kernel
theorem dX18_differences_26 : decode cX18_differences 26 = .ok (.aload_n 0, 1) := by decide +kernel
theorem dX18_differences_27 : decode cX18_differences 27 = .ok (.aload_n 2, 1) := by decide +kernel
theorem dX18_differences_28 : decode cX18_differences 28 = .ok (.ifnonnull 7, 3) := by decide +kernel
theorem dX18_differences_31 : decode cX18_differences 31 = .ok (.iconst 2, 1) := by decide +kernel
theorem dX18_differences_32 : decode cX18_differences 32 = .ok (.goto 4, 3) := by decide +kernel
theorem dX18_differences_35 : decode cX18_differences 35 = .ok (.iconst 0, 1) := by decide +kernel
theorem dX18_differences_36 : decode cX18_differences 36 = .ok (.invokevirtual 84, 3) := by decide +kernel
theorem dX18_differences_39 : decode cX18_differences 39 = .ok (.ifCond .eq 7, 3) := by decide +kernel
theorem dX18_differences_42 : decode cX18_differences 42 = .ok (.iconst 0, 1) := by decide +kernel
theorem dX18_differences_43 : decode cX18_differences 43 = .ok (.goto 8, 3) := by decide +kernel
theorem dX18_differences_46 : decode cX18_differences 46 = .ok (.aload_n 2, 1) := by decide +kernel
theorem dX18_differences_47 : decode cX18_differences 47 = .ok (.getfield 395, 3) := by decide +kernel
theorem dX18_differences_50 : decode cX18_differences 50 = .ok (.arraylength, 1) := by decide +kernel
theorem dX18_differences_51 : decode cX18_differences 51 = .ok (.ireturn, 1) := by decide +kernel
set_option maxRecDepth 20000 in
theorem ggX18_difference_X18_failsPerson : GoodIn wsX18_difference wsX18_failsPerson := goodIn_r _ [7, 8, 9, 10, 6, 11, 1, 12, 13, 14, 15, 16, 17, 18, 19, 20, 21, 22, 23, 24, 25, 126, 127, 128, 129, 130, 131, 132, 133, 134, 135, 136, 137, 138, 139, 140, 141, 142, 143, 144, 145, 146, 147, 148, 149, 150, 151, 152, 153, 156, 157, 158] (by decide +kernel) (by decide +kernel)
set_option maxRecDepth 20000 in
theorem gX18_difference_X18_failsPerson : GoodIn wsX18_difference (wsV RX18 337 RX18 yX18_failsPerson wsX18_failsPerson) := goodIn_app (goodIn_of _ (by decide +kernel)) ggX18_difference_X18_failsPerson
set_option maxRecDepth 20000 in
theorem ggX18_difference_Jx4a65c_get_915e3 : GoodIn wsX18_difference wsJx4a65c_get_915e3 := goodIn_r _ [29, 17, 30, 31, 32, 33, 34, 35, 36, 37, 38, 39, 40, 15, 41, 42, 156, 157, 158] (by decide +kernel) (by decide +kernel)
set_option maxRecDepth 20000 in
theorem gX18_difference_Jx4a65c_get_915e3 : GoodIn wsX18_difference (wsV RX18 294 RJx4a65c yJx4a65c_get_915e3 wsJx4a65c_get_915e3) := goodIn_app (goodIn_of _ (by decide +kernel)) ggX18_difference_Jx4a65c_get_915e3
set_option maxRecDepth 20000 in
theorem ggX18_difference_X18_bears : GoodIn wsX18_difference wsX18_bears := goodIn_ca (goodIn_r _ [46, 47, 48, 49, 50, 51, 52, 1, 2, 53, 54, 55, 6, 56, 26, 27, 28, 15, 29, 17, 30, 31, 32, 33, 34, 35, 36, 37, 38, 39, 40, 41, 42, 12, 13, 14, 16, 57, 58, 59, 60, 61, 62, 63, 64, 65, 66, 67, 68, 69, 70, 71, 72, 73, 74, 75, 76, 77, 78, 79, 80, 81, 82, 83, 84, 85, 86, 87, 88, 89, 90, 91, 92, 93, 94, 95, 96, 97, 98, 99, 100, 101, 102, 103, 104, 105, 106, 107, 108, 109, 110, 111, 112, 113, 114, 115, 116, 117, 118, 43, 44, 45, 119, 120, 121, 122, 123, 124, 125, 159, 160, 161, 162, 163, 164, 165, 166, 167, 168, 169, 170, 171, 172, 173, 154, 155, 126, 127, 128, 129, 130, 131, 132, 133, 134, 135, 136, 137, 138, 139, 140, 141, 142, 143, 144, 145, 146, 147, 148, 149, 150, 151, 152, 153, 174, 175, 176, 177, 178, 179, 180, 181, 182, 183, 156, 157, 158, 184, 185, 186, 187] (by decide +kernel) (by decide +kernel)) (goodIn_sub (fun _ h => List.mem_cons_of_mem _ (List.mem_append_right _ h)) (by decide +kernel))
set_option maxRecDepth 20000 in
theorem gX18_difference_X18_bears : GoodIn wsX18_difference (wsV RX18 347 RX18 yX18_bears wsX18_bears) := goodIn_app (goodIn_of _ (by decide +kernel)) ggX18_difference_X18_bears
set_option maxRecDepth 20000 in
theorem ggX18_difference_X18_in : GoodIn wsX18_difference wsX18_in := goodIn_r _ [20] (by decide +kernel) (by decide +kernel)
set_option maxRecDepth 20000 in
theorem gX18_difference_X18_in : GoodIn wsX18_difference (va_wsS RX18 77 yX18_in wsX18_in) := goodIn_app (goodIn_of _ (by decide +kernel)) ggX18_difference_X18_in
set_option maxRecDepth 20000 in
theorem ggX18_difference_X18_fails : GoodIn wsX18_difference wsX18_fails := goodIn_r _ [24, 25, 126, 127, 128, 129, 130, 131, 132, 133, 134, 135, 136, 137, 138, 139, 140, 141, 142, 143, 144, 145, 146, 147, 148, 149, 150, 151, 152, 153] (by decide +kernel) (by decide +kernel)
set_option maxRecDepth 20000 in
theorem gX18_difference_X18_fails : GoodIn wsX18_difference (wsV RX18 84 RX18 yX18_fails wsX18_fails) := goodIn_app (goodIn_of _ (by decide +kernel)) ggX18_difference_X18_fails
theorem dX18_difference_0 : decode cX18_difference 0 = .ok (.aload_n 0, 1) := by decide +kernel
theorem dX18_difference_1 : decode cX18_difference 1 = .ok (.iload_n 1, 1) := by decide +kernel
theorem dX18_difference_2 : decode cX18_difference 2 = .ok (.invokevirtual 337, 3) := by decide +kernel
theorem dX18_difference_5 : decode cX18_difference 5 = .ok (.ifCond .eq 5, 3) := by decide +kernel
theorem dX18_difference_8 : decode cX18_difference 8 = .ok (.iconst 0, 1) := by decide +kernel
theorem dX18_difference_9 : decode cX18_difference 9 = .ok (.ireturn, 1) := by decide +kernel
theorem dX18_difference_10 : decode cX18_difference 10 = .ok (.aload_n 0, 1) := by decide +kernel
theorem dX18_difference_11 : decode cX18_difference 11 = .ok (.aload_n 0, 1) := by decide +kernel
theorem dX18_difference_12 : decode cX18_difference 12 = .ok (.getfield 16, 3) := by decide +kernel
theorem dX18_difference_15 : decode cX18_difference 15 = .ok (.iload_n 1, 1) := by decide +kernel
theorem dX18_difference_16 : decode cX18_difference 16 = .ok (.invokevirtual 294, 3) := by decide +kernel
theorem dX18_difference_19 : decode cX18_difference 19 = .ok (.checkcast 298, 3) := by decide +kernel
theorem dX18_difference_22 : decode cX18_difference 22 = .ok (.invokevirtual 347, 3) := by decide +kernel
theorem dX18_difference_25 : decode cX18_difference 25 = .ok (.astore_n 3, 1) := by decide +kernel
theorem dX18_difference_26 : decode cX18_difference 26 = .ok (.aload_n 0, 1) := by decide +kernel
theorem dX18_difference_27 : decode cX18_difference 27 = .ok (.aload_n 3, 1) := by decide +kernel
theorem dX18_difference_28 : decode cX18_difference 28 = .ok (.ifnull 18, 3) := by decide +kernel
theorem dX18_difference_31 : decode cX18_difference 31 = .ok (.iload_n 2, 1) := by decide +kernel
theorem dX18_difference_32 : decode cX18_difference 32 = .ok (.iconst 0, 1) := by decide +kernel
theorem dX18_difference_33 : decode cX18_difference 33 = .ok (.aload_n 3, 1) := by decide +kernel
theorem dX18_difference_34 : decode cX18_difference 34 = .ok (.getfield 395, 3) := by decide +kernel
theorem dX18_difference_37 : decode cX18_difference 37 = .ok (.arraylength, 1) := by decide +kernel
theorem dX18_difference_38 : decode cX18_difference 38 = .ok (.iconst 1, 1) := by decide +kernel
theorem dX18_difference_39 : decode cX18_difference 39 = .ok (.isub, 1) := by decide +kernel
theorem dX18_difference_40 : decode cX18_difference 40 = .ok (.invokestatic 77, 3) := by decide +kernel
theorem dX18_difference_43 : decode cX18_difference 43 = .ok (.ifCond .ne 7, 3) := by decide +kernel
theorem dX18_difference_46 : decode cX18_difference 46 = .ok (.iconst 2, 1) := by decide +kernel
theorem dX18_difference_47 : decode cX18_difference 47 = .ok (.goto 4, 3) := by decide +kernel
theorem dX18_difference_50 : decode cX18_difference 50 = .ok (.iconst 0, 1) := by decide +kernel
theorem dX18_difference_51 : decode cX18_difference 51 = .ok (.invokevirtual 84, 3) := by decide +kernel
theorem dX18_difference_54 : decode cX18_difference 54 = .ok (.ifCond .eq 7, 3) := by decide +kernel
theorem dX18_difference_57 : decode cX18_difference 57 = .ok (.iconst 0, 1) := by decide +kernel
theorem dX18_difference_58 : decode cX18_difference 58 = .ok (.goto 9, 3) := by decide +kernel
theorem dX18_difference_61 : decode cX18_difference 61 = .ok (.aload_n 3, 1) := by decide +kernel
theorem dX18_difference_62 : decode cX18_difference 62 = .ok (.getfield 395, 3) := by decide +kernel
theorem dX18_difference_65 : decode cX18_difference 65 = .ok (.iload_n 2, 1) := by decide +kernel
theorem dX18_difference_66 : decode cX18_difference 66 = .ok (.iaload, 1) := by decide +kernel
theorem dX18_difference_67 : decode cX18_difference 67 = .ok (.ireturn, 1) := by decide +kernel
set_option maxRecDepth 20000 in
theorem ggX18_isInAbeyance_X18_failsArms : GoodIn wsX18_isInAbeyance wsX18_failsArms := goodIn_r _ [5, 6, 7, 8, 4, 9, 10, 11, 12, 13, 14, 15, 16, 17, 18, 19, 20, 21, 22, 23, 24, 109, 110, 111, 112, 113, 114, 115, 116, 117, 118, 119, 120, 121, 122, 123, 124, 125, 126, 127, 128, 129, 130, 131, 132, 133, 134, 135, 136, 137, 138, 139] (by decide +kernel) (by decide +kernel)
set_option maxRecDepth 20000 in
theorem gX18_isInAbeyance_X18_failsArms : GoodIn wsX18_isInAbeyance (wsV RX18 446 RX18 yX18_failsArms wsX18_failsArms) := goodIn_app (goodIn_of _ (by decide +kernel)) ggX18_isInAbeyance_X18_failsArms
set_option maxRecDepth 20000 in
theorem ggX18_isInAbeyance_X18_abeyant : GoodIn wsX18_isInAbeyance wsX18_abeyant := goodIn_r _ [28, 29, 30, 31, 4, 32, 33, 34, 35, 36, 37, 38, 10, 39, 40, 41, 42, 14, 43, 16, 44, 45, 46, 47, 48, 49, 50, 51, 52, 53, 54, 55, 56, 57, 58, 59, 60, 61, 62, 63, 64, 65, 66, 67, 68, 69, 70, 71, 72, 73, 74, 75, 76, 77, 78, 79, 80, 81, 82, 83, 84, 85, 86, 87, 88, 89, 90, 91, 92, 93, 94, 95, 96, 97, 98, 99, 100, 101, 102, 103, 104, 105, 106, 107, 108, 109, 110, 111, 112, 113, 114, 115, 116, 117, 118, 119, 120, 121, 122, 123, 124, 125, 126, 127, 128, 129, 130, 131, 132, 133, 134, 135, 136, 140, 141, 142, 143, 144, 145, 146, 147, 148, 149, 150, 151, 152, 153, 154, 155, 156, 157, 158, 159, 160, 161, 162, 163, 164, 137, 138, 139, 165, 166, 167, 168, 169, 170] (by decide +kernel) (by decide +kernel)
set_option maxRecDepth 20000 in
theorem gX18_isInAbeyance_X18_abeyant : GoodIn wsX18_isInAbeyance (wsV RX18 370 RX18 yX18_abeyant wsX18_abeyant) := goodIn_app (goodIn_of _ (by decide +kernel)) ggX18_isInAbeyance_X18_abeyant
theorem dX18_isInAbeyance_0 : decode cX18_isInAbeyance 0 = .ok (.aload_n 0, 1) := by decide +kernel
theorem dX18_isInAbeyance_1 : decode cX18_isInAbeyance 1 = .ok (.iload_n 1, 1) := by decide +kernel
theorem dX18_isInAbeyance_2 : decode cX18_isInAbeyance 2 = .ok (.invokevirtual 446, 3) := by decide +kernel
theorem dX18_isInAbeyance_5 : decode cX18_isInAbeyance 5 = .ok (.ifCond .ne 15, 3) := by decide +kernel
theorem dX18_isInAbeyance_8 : decode cX18_isInAbeyance 8 = .ok (.aload_n 0, 1) := by decide +kernel
theorem dX18_isInAbeyance_9 : decode cX18_isInAbeyance 9 = .ok (.iload_n 1, 1) := by decide +kernel
theorem dX18_isInAbeyance_10 : decode cX18_isInAbeyance 10 = .ok (.invokevirtual 370, 3) := by decide +kernel
theorem dX18_isInAbeyance_13 : decode cX18_isInAbeyance 13 = .ok (.ifCond .eq 7, 3) := by decide +kernel
theorem dX18_isInAbeyance_16 : decode cX18_isInAbeyance 16 = .ok (.iconst 1, 1) := by decide +kernel
theorem dX18_isInAbeyance_17 : decode cX18_isInAbeyance 17 = .ok (.goto 4, 3) := by decide +kernel
theorem dX18_isInAbeyance_20 : decode cX18_isInAbeyance 20 = .ok (.iconst 0, 1) := by decide +kernel
theorem dX18_isInAbeyance_21 : decode cX18_isInAbeyance 21 = .ok (.ireturn, 1) := by decide +kernel
set_option maxRecDepth 20000 in
theorem ggX18_call_X18_isArms : GoodIn wsX18_call wsX18_isArms := goodIn_r _ [9, 3, 10, 11, 12, 13, 14, 15, 16, 17, 8, 18, 109, 110, 111, 112, 113, 114, 115, 116, 117, 118, 119, 120, 121, 122, 123, 124, 125, 126, 127, 128, 129, 130, 131, 132, 133, 134, 135, 136, 147, 148, 149] (by decide +kernel) (by decide +kernel)
set_option maxRecDepth 20000 in
theorem gX18_call_X18_isArms : GoodIn wsX18_call (wsV RX18 443 RX18 yX18_isArms wsX18_isArms) := goodIn_app (goodIn_of _ (by decide +kernel)) ggX18_call_X18_isArms
set_option maxRecDepth 20000 in
theorem ggX18_call_X18_isPerson : GoodIn wsX18_call wsX18_isPerson := goodIn_r _ [22, 1, 10, 11, 12, 13, 14, 15, 16, 17, 8, 18, 109, 110, 111, 112, 113, 114, 115, 116, 117, 118, 119, 120, 121, 122, 123, 124, 125, 126, 127, 128, 129, 130, 131, 132, 133, 134, 135, 136, 147, 148, 149] (by decide +kernel) (by decide +kernel)
set_option maxRecDepth 20000 in
theorem gX18_call_X18_isPerson : GoodIn wsX18_call (wsV RX18 291 RX18 yX18_isPerson wsX18_isPerson) := goodIn_app (goodIn_of _ (by decide +kernel)) ggX18_call_X18_isPerson
set_option maxRecDepth 20000 in
theorem ggX18_call_X18_fails : GoodIn wsX18_call wsX18_fails := goodIn_r _ [26, 27, 109, 110, 111, 112, 113, 114, 115, 116, 117, 118, 119, 120, 121, 122, 123, 124, 125, 126, 127, 128, 129, 130, 131, 132, 133, 134, 135, 136] (by decide +kernel) (by decide +kernel)
set_option maxRecDepth 20000 in
theorem gX18_call_X18_fails : GoodIn wsX18_call (wsV RX18 84 RX18 yX18_fails wsX18_fails) := goodIn_app (goodIn_of _ (by decide +kernel)) ggX18_call_X18_fails
set_option maxRecDepth 20000 in
theorem ggX18_call_X18_abeyant : GoodIn wsX18_call wsX18_abeyant := goodIn_r _ [31, 32, 33, 34, 8, 35, 1, 2, 36, 37, 38, 39, 3, 4, 40, 41, 42, 13, 43, 15, 44, 45, 46, 47, 48, 49, 50, 51, 52, 53, 54, 55, 56, 57, 58, 59, 60, 61, 62, 63, 64, 65, 66, 67, 68, 69, 70, 71, 72, 73, 74, 75, 76, 77, 78, 79, 80, 81, 82, 83, 84, 85, 86, 87, 88, 89, 90, 91, 92, 93, 94, 95, 96, 97, 98, 99, 100, 101, 102, 103, 104, 105, 106, 107, 108, 109, 110, 111, 112, 113, 114, 115, 116, 117, 118, 119, 120, 121, 122, 123, 124, 125, 126, 127, 128, 129, 130, 131, 132, 133, 134, 135, 136, 137, 138, 139, 140, 141, 142, 143, 144, 145, 146, 150, 151, 152, 153, 154, 155, 156, 157, 158, 159, 160, 161, 162, 163, 164, 147, 148, 149, 165, 166, 167, 168, 169, 170] (by decide +kernel) (by decide +kernel)
set_option maxRecDepth 20000 in
theorem gX18_call_X18_abeyant : GoodIn wsX18_call (wsV RX18 370 RX18 yX18_abeyant wsX18_abeyant) := goodIn_app (goodIn_of _ (by decide +kernel)) ggX18_call_X18_abeyant
set_option maxRecDepth 20000 in
theorem ggX18_call_X18_lastMan : GoodIn wsX18_call wsX18_lastMan := goodIn_r _ [39, 3, 4, 1, 2, 40, 41, 42, 13, 43, 15, 44, 45, 46, 47, 48, 49, 50, 51, 52, 53, 54, 55, 56, 57, 58, 59, 8, 60, 61, 62, 63, 64, 65, 66, 67, 68, 69, 70, 71, 72, 73, 74, 75, 76, 77, 78, 79, 80, 81, 82, 83, 84, 85, 86, 87, 88, 89, 90, 91, 92, 93, 94, 95, 96, 97, 98, 99, 100, 109, 110, 111, 112, 113, 114, 115, 116, 117, 118, 119, 120, 121, 122, 123, 124, 125, 126, 127, 128, 129, 130, 131, 132, 133, 134, 135, 136, 137, 138, 139, 140, 141, 142, 143, 144, 145, 146, 150, 151, 152, 153, 154, 155, 156, 157, 158, 159, 160, 161, 162, 163, 164, 147, 148, 149, 165, 166, 167, 168, 169, 170] (by decide +kernel) (by decide +kernel)
set_option maxRecDepth 20000 in
theorem gX18_call_X18_lastMan : GoodIn wsX18_call (wsV RX18 406 RX18 yX18_lastMan wsX18_lastMan) := goodIn_app (goodIn_of _ (by decide +kernel)) ggX18_call_X18_lastMan
set_option maxRecDepth 20000 in
theorem ggX18_call_Jx4a65c_get_915e3 : GoodIn wsX18_call wsJx4a65c_get_915e3 := goodIn_r _ [43, 15, 44, 45, 46, 47, 48, 49, 50, 51, 52, 53, 54, 13, 55, 56, 147, 148, 149] (by decide +kernel) (by decide +kernel)
set_option maxRecDepth 20000 in
theorem gX18_call_Jx4a65c_get_915e3 : GoodIn wsX18_call (wsV RX18 294 RJx4a65c yJx4a65c_get_915e3 wsJx4a65c_get_915e3) := goodIn_app (goodIn_of _ (by decide +kernel)) ggX18_call_Jx4a65c_get_915e3
set_option maxRecDepth 20000 in
theorem ggX18_call_X18_isLastHeiress : GoodIn wsX18_call wsX18_isLastHeiress := goodIn_r _ [104, 150, 151, 152, 153, 154, 155, 156, 157, 158, 159, 160, 161, 162, 163, 164] (by decide +kernel) (by decide +kernel)
set_option maxRecDepth 20000 in
theorem gX18_call_X18_isLastHeiress : GoodIn wsX18_call (wsV RX18 409 RX18 yX18_isLastHeiress wsX18_isLastHeiress) := goodIn_app (goodIn_of _ (by decide +kernel)) ggX18_call_X18_isLastHeiress
set_option maxRecDepth 20000 in
theorem ggX18_call_X18_countHeiresses : GoodIn wsX18_call wsX18_countHeiresses := goodIn_r _ [35, 1, 2, 36, 37, 38, 8, 39, 3, 4, 40, 41, 42, 13, 43, 15, 44, 45, 46, 47, 48, 49, 50, 51, 52, 53, 54, 55, 56, 57, 58, 59, 60, 61, 62, 63, 64, 65, 66, 67, 68, 69, 70, 71, 72, 73, 74, 75, 76, 77, 78, 79, 80, 81, 82, 83, 84, 85, 86, 87, 88, 89, 90, 91, 92, 93, 94, 95, 96, 97, 98, 99, 100, 101, 102, 103, 104, 109, 110, 111, 112, 113, 114, 115, 116, 117, 118, 119, 120, 121, 122, 123, 124, 125, 126, 127, 128, 129, 130, 131, 132, 133, 134, 135, 136, 137, 138, 139, 140, 141, 142, 143, 144, 145, 146, 150, 151, 152, 153, 154, 155, 156, 157, 158, 159, 160, 161, 162, 163, 164, 147, 148, 149, 165, 166, 167, 168, 169, 170] (by decide +kernel) (by decide +kernel)
set_option maxRecDepth 20000 in
theorem gX18_call_X18_countHeiresses : GoodIn wsX18_call (wsV RX18 416 RX18 yX18_countHeiresses wsX18_countHeiresses) := goodIn_app (goodIn_of _ (by decide +kernel)) ggX18_call_X18_countHeiresses
theorem dX18_call_0 : decode cX18_call 0 = .ok (.aload_n 0, 1) := by decide +kernel
theorem dX18_call_1 : decode cX18_call 1 = .ok (.aload_n 0, 1) := by decide +kernel
theorem dX18_call_2 : decode cX18_call 2 = .ok (.iload_n 1, 1) := by decide +kernel
theorem dX18_call_3 : decode cX18_call 3 = .ok (.invokevirtual 443, 3) := by decide +kernel
theorem dX18_call_6 : decode cX18_call 6 = .ok (.ifCond .eq 15, 3) := by decide +kernel
theorem dX18_call_9 : decode cX18_call 9 = .ok (.aload_n 0, 1) := by decide +kernel
theorem dX18_call_10 : decode cX18_call 10 = .ok (.iload_n 2, 1) := by decide +kernel
theorem dX18_call_11 : decode cX18_call 11 = .ok (.invokevirtual 291, 3) := by decide +kernel
theorem dX18_call_14 : decode cX18_call 14 = .ok (.ifCond .eq 7, 3) := by decide +kernel
theorem dX18_call_17 : decode cX18_call 17 = .ok (.iconst 0, 1) := by decide +kernel
theorem dX18_call_18 : decode cX18_call 18 = .ok (.goto 4, 3) := by decide +kernel
theorem dX18_call_21 : decode cX18_call 21 = .ok (.iconst 1, 1) := by decide +kernel
theorem dX18_call_22 : decode cX18_call 22 = .ok (.invokevirtual 84, 3) := by decide +kernel
theorem dX18_call_25 : decode cX18_call 25 = .ok (.ifCond .eq 5, 3) := by decide +kernel
theorem dX18_call_28 : decode cX18_call 28 = .ok (.iconst 0, 1) := by decide +kernel
theorem dX18_call_29 : decode cX18_call 29 = .ok (.ireturn, 1) := by decide +kernel
theorem dX18_call_30 : decode cX18_call 30 = .ok (.aload_n 0, 1) := by decide +kernel
theorem dX18_call_31 : decode cX18_call 31 = .ok (.iload_n 1, 1) := by decide +kernel
theorem dX18_call_32 : decode cX18_call 32 = .ok (.invokevirtual 370, 3) := by decide +kernel
theorem dX18_call_35 : decode cX18_call 35 = .ok (.ifCond .eq 30, 3) := by decide +kernel
theorem dX18_call_38 : decode cX18_call 38 = .ok (.aload_n 0, 1) := by decide +kernel
theorem dX18_call_39 : decode cX18_call 39 = .ok (.aload_n 0, 1) := by decide +kernel
theorem dX18_call_40 : decode cX18_call 40 = .ok (.iload_n 1, 1) := by decide +kernel
theorem dX18_call_41 : decode cX18_call 41 = .ok (.invokevirtual 406, 3) := by decide +kernel
theorem dX18_call_44 : decode cX18_call 44 = .ok (.aload_n 0, 1) := by decide +kernel
theorem dX18_call_45 : decode cX18_call 45 = .ok (.getfield 16, 3) := by decide +kernel
theorem dX18_call_48 : decode cX18_call 48 = .ok (.iload_n 2, 1) := by decide +kernel
theorem dX18_call_49 : decode cX18_call 49 = .ok (.invokevirtual 294, 3) := by decide +kernel
theorem dX18_call_52 : decode cX18_call 52 = .ok (.checkcast 298, 3) := by decide +kernel
theorem dX18_call_55 : decode cX18_call 55 = .ok (.invokevirtual 409, 3) := by decide +kernel
theorem dX18_call_58 : decode cX18_call 58 = .ok (.ifCond .eq 7, 3) := by decide +kernel
theorem dX18_call_61 : decode cX18_call 61 = .ok (.iconst 1, 1) := by decide +kernel
theorem dX18_call_62 : decode cX18_call 62 = .ok (.goto 4, 3) := by decide +kernel
theorem dX18_call_65 : decode cX18_call 65 = .ok (.iconst 0, 1) := by decide +kernel
theorem dX18_call_66 : decode cX18_call 66 = .ok (.istore_n 3, 1) := by decide +kernel
theorem dX18_call_67 : decode cX18_call 67 = .ok (.aload_n 0, 1) := by decide +kernel
theorem dX18_call_68 : decode cX18_call 68 = .ok (.iload_n 3, 1) := by decide +kernel
theorem dX18_call_69 : decode cX18_call 69 = .ok (.ifCond .eq 7, 3) := by decide +kernel
theorem dX18_call_72 : decode cX18_call 72 = .ok (.iconst 0, 1) := by decide +kernel
theorem dX18_call_73 : decode cX18_call 73 = .ok (.goto 4, 3) := by decide +kernel
theorem dX18_call_76 : decode cX18_call 76 = .ok (.iconst 2, 1) := by decide +kernel
theorem dX18_call_77 : decode cX18_call 77 = .ok (.invokevirtual 84, 3) := by decide +kernel
theorem dX18_call_80 : decode cX18_call 80 = .ok (.ifCond .eq 5, 3) := by decide +kernel
theorem dX18_call_83 : decode cX18_call 83 = .ok (.iconst 0, 1) := by decide +kernel
theorem dX18_call_84 : decode cX18_call 84 = .ok (.ireturn, 1) := by decide +kernel
theorem dX18_call_85 : decode cX18_call 85 = .ok (.aload_n 0, 1) := by decide +kernel
theorem dX18_call_86 : decode cX18_call 86 = .ok (.getfield 20, 3) := by decide +kernel
theorem dX18_call_89 : decode cX18_call 89 = .ok (.iload_n 1, 1) := by decide +kernel
theorem dX18_call_90 : decode cX18_call 90 = .ok (.invokevirtual 294, 3) := by decide +kernel
theorem dX18_call_93 : decode cX18_call 93 = .ok (.checkcast 373, 3) := by decide +kernel
theorem dX18_call_96 : decode cX18_call 96 = .ok (.iload_n 2, 1) := by decide +kernel
theorem dX18_call_97 : decode cX18_call 97 = .ok (.putfield 413, 3) := by decide +kernel
theorem dX18_call_100 : decode cX18_call 100 = .ok (.aload_n 0, 1) := by decide +kernel
theorem dX18_call_101 : decode cX18_call 101 = .ok (.iload_n 1, 1) := by decide +kernel
theorem dX18_call_102 : decode cX18_call 102 = .ok (.invokevirtual 416, 3) := by decide +kernel
theorem dX18_call_105 : decode cX18_call 105 = .ok (.ireturn, 1) := by decide +kernel
set_option maxRecDepth 20000 in
theorem ggX18_countBearers_Jx4a65c_iterator_32c93 : GoodIn wsX18_countBearers wsJx4a65c_iterator_32c93 := goodIn_r _ [7, 8, 9, 10, 11, 12, 13, 14, 15, 16, 17, 18, 19, 20, 21, 155, 156, 157, 158, 159, 160, 161] (by decide +kernel) (by decide +kernel)
set_option maxRecDepth 20000 in
theorem gX18_countBearers_Jx4a65c_iterator_32c93 : GoodIn wsX18_countBearers (wsV RX18 313 RJx4a65c yJx4a65c_iterator_32c93 wsJx4a65c_iterator_32c93) := goodIn_app (goodIn_of _ (by decide +kernel)) ggX18_countBearers_Jx4a65c_iterator_32c93
set_option maxRecDepth 20000 in
theorem ggX18_countBearers_Jx35411_hasNext_aae02 : GoodIn wsX18_countBearers wsJx35411_hasNext_aae02 := goodIn_r _ [25, 26, 14, 155, 156, 157, 158, 159, 160, 161] (by decide +kernel) (by decide +kernel)
set_option maxRecDepth 20000 in
theorem gX18_countBearers_Jx35411_hasNext_aae02_f317Jx35411 : GoodIn wsX18_countBearers (va_wsF RX18 317 RJx35411 ⟨"java/util/Iterator", "hasNext", "()Z"⟩ yJx35411_hasNext_aae02 wsJx35411_hasNext_aae02) := goodIn_app (goodIn_of _ (by decide +kernel)) ggX18_countBearers_Jx35411_hasNext_aae02
set_option maxRecDepth 20000 in
theorem ggX18_countBearers_Jx35411_next_0502b : GoodIn wsX18_countBearers wsJx35411_next_0502b := goodIn_r _ [30, 26, 14, 31, 18, 32, 33, 34, 10, 35, 19, 20, 21, 155, 156, 157, 158, 159, 160, 161] (by decide +kernel) (by decide +kernel)
set_option maxRecDepth 20000 in
theorem gX18_countBearers_Jx35411_next_0502b_f322Jx35411 : GoodIn wsX18_countBearers (va_wsF RX18 322 RJx35411 ⟨"java/util/Iterator", "next", "()Ljava/lang/Object;"⟩ yJx35411_next_0502b wsJx35411_next_0502b) := goodIn_app (goodIn_of _ (by decide +kernel)) ggX18_countBearers_Jx35411_next_0502b
set_option maxRecDepth 20000 in
theorem ggX18_countBearers_X18_bears : GoodIn wsX18_countBearers wsX18_bears := goodIn_ca (goodIn_r _ [40, 41, 42, 43, 44, 45, 46, 1, 2, 47, 48, 49, 39, 50, 51, 52, 53, 6, 54, 55, 56, 57, 58, 59, 60, 61, 62, 63, 64, 65, 66, 67, 68, 69, 70, 71, 72, 73, 74, 75, 76, 16, 17, 77, 78, 79, 80, 81, 82, 83, 84, 85, 86, 87, 88, 89, 90, 3, 4, 5, 7, 8, 9, 10, 11, 12, 13, 14, 15, 18, 19, 20, 21, 22, 23, 24, 25, 26, 27, 28, 29, 30, 31, 32, 33, 34, 35, 91, 92, 93, 94, 95, 96, 97, 98, 99, 100, 101, 102, 36, 37, 38, 103, 104, 105, 106, 107, 108, 109, 138, 139, 140, 141, 142, 143, 144, 145, 146, 147, 148, 149, 150, 151, 152, 153, 154, 110, 111, 112, 113, 114, 115, 116, 117, 118, 119, 120, 121, 122, 123, 124, 125, 126, 127, 128, 129, 130, 131, 132, 133, 134, 135, 136, 137, 162, 163, 164, 165, 166, 167, 168, 169, 170, 171, 159, 160, 161, 155, 156, 157, 158] (by decide +kernel) (by decide +kernel)) (goodIn_sub (fun _ h => List.mem_cons_of_mem _ (List.mem_append_right _ h)) (by decide +kernel))
set_option maxRecDepth 20000 in
theorem gX18_countBearers_X18_bears : GoodIn wsX18_countBearers (wsV RX18 347 RX18 yX18_bears wsX18_bears) := goodIn_app (goodIn_of _ (by decide +kernel)) ggX18_countBearers_X18_bears
theorem dX18_countBearers_0 : decode cX18_countBearers 0 = .ok (.iconst 0, 1) := by decide +kernel
theorem dX18_countBearers_1 : decode cX18_countBearers 1 = .ok (.istore_n 2, 1) := by decide +kernel
theorem dX18_countBearers_2 : decode cX18_countBearers 2 = .ok (.aload_n 0, 1) := by decide +kernel
theorem dX18_countBearers_3 : decode cX18_countBearers 3 = .ok (.getfield 16, 3) := by decide +kernel
theorem dX18_countBearers_6 : decode cX18_countBearers 6 = .ok (.invokevirtual 313, 3) := by decide +kernel
theorem dX18_countBearers_9 : decode cX18_countBearers 9 = .ok (.astore_n 3, 1) := by decide +kernel
theorem dX18_countBearers_10 : decode cX18_countBearers 10 = .ok (.aload_n 3, 1) := by decide +kernel
theorem dX18_countBearers_11 : decode cX18_countBearers 11 = .ok (.invokeinterface 317 1, 5) := by decide +kernel
theorem dX18_countBearers_16 : decode cX18_countBearers 16 = .ok (.ifCond .eq 59, 3) := by decide +kernel
theorem dX18_countBearers_19 : decode cX18_countBearers 19 = .ok (.aload_n 3, 1) := by decide +kernel
theorem dX18_countBearers_20 : decode cX18_countBearers 20 = .ok (.invokeinterface 322 1, 5) := by decide +kernel
theorem dX18_countBearers_25 : decode cX18_countBearers 25 = .ok (.checkcast 298, 3) := by decide +kernel
theorem dX18_countBearers_28 : decode cX18_countBearers 28 = .ok (.astore 4, 2) := by decide +kernel
theorem dX18_countBearers_30 : decode cX18_countBearers 30 = .ok (.aload 4, 2) := by decide +kernel
theorem dX18_countBearers_32 : decode cX18_countBearers 32 = .ok (.getfield 330, 3) := by decide +kernel
theorem dX18_countBearers_35 : decode cX18_countBearers 35 = .ok (.ifCond .eq 12, 3) := by decide +kernel
theorem dX18_countBearers_38 : decode cX18_countBearers 38 = .ok (.aload_n 0, 1) := by decide +kernel
theorem dX18_countBearers_39 : decode cX18_countBearers 39 = .ok (.aload 4, 2) := by decide +kernel
theorem dX18_countBearers_41 : decode cX18_countBearers 41 = .ok (.invokevirtual 347, 3) := by decide +kernel
theorem dX18_countBearers_44 : decode cX18_countBearers 44 = .ok (.goto 4, 3) := by decide +kernel
theorem dX18_countBearers_47 : decode cX18_countBearers 47 = .ok (.aconst_null, 1) := by decide +kernel
theorem dX18_countBearers_48 : decode cX18_countBearers 48 = .ok (.astore 5, 2) := by decide +kernel
theorem dX18_countBearers_50 : decode cX18_countBearers 50 = .ok (.iload_n 2, 1) := by decide +kernel
theorem dX18_countBearers_51 : decode cX18_countBearers 51 = .ok (.aload 5, 2) := by decide +kernel
theorem dX18_countBearers_53 : decode cX18_countBearers 53 = .ok (.ifnull 16, 3) := by decide +kernel
theorem dX18_countBearers_56 : decode cX18_countBearers 56 = .ok (.aload 5, 2) := by decide +kernel
theorem dX18_countBearers_58 : decode cX18_countBearers 58 = .ok (.getfield 378, 3) := by decide +kernel
theorem dX18_countBearers_61 : decode cX18_countBearers 61 = .ok (.iload_n 1, 1) := by decide +kernel
theorem dX18_countBearers_62 : decode cX18_countBearers 62 = .ok (.if_icmp .ne 7, 3) := by decide +kernel
theorem dX18_countBearers_65 : decode cX18_countBearers 65 = .ok (.iconst 1, 1) := by decide +kernel
theorem dX18_countBearers_66 : decode cX18_countBearers 66 = .ok (.goto 4, 3) := by decide +kernel
theorem dX18_countBearers_69 : decode cX18_countBearers 69 = .ok (.iconst 0, 1) := by decide +kernel
theorem dX18_countBearers_70 : decode cX18_countBearers 70 = .ok (.iadd, 1) := by decide +kernel
theorem dX18_countBearers_71 : decode cX18_countBearers 71 = .ok (.istore_n 2, 1) := by decide +kernel
theorem dX18_countBearers_72 : decode cX18_countBearers 72 = .ok (.goto (-62), 3) := by decide +kernel
theorem dX18_countBearers_75 : decode cX18_countBearers 75 = .ok (.iload_n 2, 1) := by decide +kernel
theorem dX18_countBearers_76 : decode cX18_countBearers 76 = .ok (.ireturn, 1) := by decide +kernel
set_option maxRecDepth 20000 in
theorem ggX18_isExtinct_X18_failsArms : GoodIn wsX18_isExtinct wsX18_failsArms := goodIn_r _ [5, 6, 7, 8, 4, 9, 10, 11, 12, 13, 14, 15, 16, 17, 18, 19, 20, 21, 22, 23, 24, 138, 139, 140, 141, 142, 143, 144, 145, 146, 147, 148, 149, 150, 151, 152, 153, 154, 155, 156, 157, 158, 159, 160, 161, 162, 163, 164, 165, 166, 167, 168] (by decide +kernel) (by decide +kernel)
set_option maxRecDepth 20000 in
theorem gX18_isExtinct_X18_failsArms : GoodIn wsX18_isExtinct (wsV RX18 446 RX18 yX18_failsArms wsX18_failsArms) := goodIn_app (goodIn_of _ (by decide +kernel)) ggX18_isExtinct_X18_failsArms
set_option maxRecDepth 20000 in
theorem ggX18_isExtinct_X18_countBearers : GoodIn wsX18_isExtinct wsX18_countBearers := goodIn_ca (goodIn_r _ [28, 29, 30, 31, 32, 33, 14, 34, 35, 36, 37, 38, 39, 40, 41, 42, 43, 44, 45, 46, 47, 48, 49, 50, 51, 52, 53, 54, 55, 56, 57, 58, 59, 60, 61, 62, 63, 64, 65, 4, 66, 10, 67, 68, 69, 70, 71, 72, 73, 74, 75, 76, 77, 78, 79, 16, 80, 81, 82, 83, 84, 85, 86, 87, 88, 89, 90, 91, 92, 11, 12, 13, 15, 93, 94, 95, 96, 97, 98, 99, 100, 101, 102, 103, 104, 105, 106, 107, 108, 109, 110, 111, 112, 113, 114, 115, 116, 117, 118, 119, 120, 121, 122, 123, 124, 125, 126, 127, 128, 129, 138, 139, 140, 141, 142, 143, 144, 145, 146, 147, 148, 149, 150, 151, 152, 153, 154, 155, 156, 157, 158, 159, 160, 161, 162, 163, 164, 165, 169, 170, 171, 172, 173, 174, 175, 176, 177, 178, 179, 180, 181, 182, 183, 184, 185, 186, 187, 188, 189, 166, 167, 168, 190, 191, 192, 193, 194, 195, 196, 197, 198, 199] (by decide +kernel) (by decide +kernel)) (goodIn_sub (fun _ h => List.mem_cons_of_mem _ (List.mem_append_right _ h)) (by decide +kernel))
set_option maxRecDepth 20000 in
theorem gX18_isExtinct_X18_countBearers : GoodIn wsX18_isExtinct (wsV RX18 450 RX18 yX18_countBearers wsX18_countBearers) := goodIn_app (goodIn_of _ (by decide +kernel)) ggX18_isExtinct_X18_countBearers
set_option maxRecDepth 20000 in
theorem ggX18_isExtinct_X18_abeyant : GoodIn wsX18_isExtinct wsX18_abeyant := goodIn_r _ [133, 134, 135, 136, 4, 137, 29, 30, 103, 104, 105, 106, 10, 67, 76, 77, 78, 14, 79, 16, 80, 81, 82, 83, 84, 85, 86, 87, 88, 89, 90, 91, 92, 107, 108, 109, 110, 31, 32, 33, 34, 35, 36, 37, 38, 39, 40, 41, 42, 43, 44, 45, 46, 47, 48, 49, 50, 51, 52, 53, 54, 55, 56, 57, 58, 59, 60, 61, 62, 111, 112, 113, 114, 115, 116, 117, 118, 119, 120, 121, 122, 99, 100, 101, 102, 138, 139, 140, 141, 142, 143, 144, 145, 146, 147, 148, 149, 150, 151, 152, 153, 154, 155, 156, 157, 158, 159, 160, 161, 162, 163, 164, 165, 190, 191, 192, 193, 194, 195, 196, 197, 198, 199, 169, 170, 171, 172, 173, 174, 175, 176, 177, 178, 179, 180, 181, 182, 183, 166, 167, 168, 186, 187, 188, 189, 184, 185] (by decide +kernel) (by decide +kernel)
set_option maxRecDepth 20000 in
theorem gX18_isExtinct_X18_abeyant : GoodIn wsX18_isExtinct (wsV RX18 370 RX18 yX18_abeyant wsX18_abeyant) := goodIn_app (goodIn_of _ (by decide +kernel)) ggX18_isExtinct_X18_abeyant
theorem dX18_isExtinct_0 : decode cX18_isExtinct 0 = .ok (.aload_n 0, 1) := by decide +kernel
theorem dX18_isExtinct_1 : decode cX18_isExtinct 1 = .ok (.iload_n 1, 1) := by decide +kernel
theorem dX18_isExtinct_2 : decode cX18_isExtinct 2 = .ok (.invokevirtual 446, 3) := by decide +kernel
theorem dX18_isExtinct_5 : decode cX18_isExtinct 5 = .ok (.ifCond .ne 23, 3) := by decide +kernel
theorem dX18_isExtinct_8 : decode cX18_isExtinct 8 = .ok (.aload_n 0, 1) := by decide +kernel
theorem dX18_isExtinct_9 : decode cX18_isExtinct 9 = .ok (.iload_n 1, 1) := by decide +kernel
theorem dX18_isExtinct_10 : decode cX18_isExtinct 10 = .ok (.invokevirtual 450, 3) := by decide +kernel
theorem dX18_isExtinct_13 : decode cX18_isExtinct 13 = .ok (.ifCond .ne 15, 3) := by decide +kernel
theorem dX18_isExtinct_16 : decode cX18_isExtinct 16 = .ok (.aload_n 0, 1) := by decide +kernel
theorem dX18_isExtinct_17 : decode cX18_isExtinct 17 = .ok (.iload_n 1, 1) := by decide +kernel
theorem dX18_isExtinct_18 : decode cX18_isExtinct 18 = .ok (.invokevirtual 370, 3) := by decide +kernel
theorem dX18_isExtinct_21 : decode cX18_isExtinct 21 = .ok (.ifCond .ne 7, 3) := by decide +kernel
theorem dX18_isExtinct_24 : decode cX18_isExtinct 24 = .ok (.iconst 1, 1) := by decide +kernel
theorem dX18_isExtinct_25 : decode cX18_isExtinct 25 = .ok (.goto 4, 3) := by decide +kernel
theorem dX18_isExtinct_28 : decode cX18_isExtinct 28 = .ok (.iconst 0, 1) := by decide +kernel
theorem dX18_isExtinct_29 : decode cX18_isExtinct 29 = .ok (.ireturn, 1) := by decide +kernel
set_option maxRecDepth 20000 in
theorem ggX18_bearers_X18_failsArms : GoodIn wsX18_bearers wsX18_failsArms := goodIn_r _ [5, 6, 7, 8, 4, 9, 10, 11, 12, 13, 14, 15, 16, 17, 18, 19, 20, 21, 22, 23, 24, 130, 131, 132, 133, 134, 135, 136, 137, 138, 139, 140, 141, 142, 143, 144, 145, 146, 147, 148, 149, 150, 151, 152, 153, 154, 155, 156, 157, 158, 159, 160] (by decide +kernel) (by decide +kernel)
set_option maxRecDepth 20000 in
theorem gX18_bearers_X18_failsArms : GoodIn wsX18_bearers (wsV RX18 446 RX18 yX18_failsArms wsX18_failsArms) := goodIn_app (goodIn_of _ (by decide +kernel)) ggX18_bearers_X18_failsArms
set_option maxRecDepth 20000 in
theorem ggX18_bearers_X18_countBearers : GoodIn wsX18_bearers wsX18_countBearers := goodIn_ca (goodIn_r _ [28, 29, 30, 31, 32, 33, 14, 34, 35, 36, 37, 38, 39, 40, 41, 42, 43, 44, 45, 46, 47, 48, 49, 50, 51, 52, 53, 54, 55, 56, 57, 58, 59, 60, 61, 62, 63, 64, 65, 4, 66, 10, 67, 68, 69, 70, 71, 72, 73, 74, 75, 76, 77, 78, 79, 16, 80, 81, 82, 83, 84, 85, 86, 87, 88, 89, 90, 91, 92, 11, 12, 13, 15, 93, 94, 95, 96, 97, 98, 99, 100, 101, 102, 103, 104, 105, 106, 107, 108, 109, 110, 111, 112, 113, 114, 115, 116, 117, 118, 119, 120, 121, 122, 123, 124, 125, 126, 127, 128, 129, 130, 131, 132, 133, 134, 135, 136, 137, 138, 139, 140, 141, 142, 143, 144, 145, 146, 147, 148, 149, 150, 151, 152, 153, 154, 155, 156, 157, 161, 162, 163, 164, 165, 166, 167, 168, 169, 170, 171, 172, 173, 174, 175, 176, 177, 178, 179, 180, 181, 158, 159, 160, 182, 183, 184, 185, 186, 187, 188, 189, 190, 191] (by decide +kernel) (by decide +kernel)) (goodIn_sub (fun _ h => List.mem_cons_of_mem _ (List.mem_append_right _ h)) (by decide +kernel))
set_option maxRecDepth 20000 in
theorem gX18_bearers_X18_countBearers : GoodIn wsX18_bearers (wsV RX18 450 RX18 yX18_countBearers wsX18_countBearers) := goodIn_app (goodIn_of _ (by decide +kernel)) ggX18_bearers_X18_countBearers
theorem dX18_bearers_0 : decode cX18_bearers 0 = .ok (.aload_n 0, 1) := by decide +kernel
theorem dX18_bearers_1 : decode cX18_bearers 1 = .ok (.iload_n 1, 1) := by decide +kernel
theorem dX18_bearers_2 : decode cX18_bearers 2 = .ok (.invokevirtual 446, 3) := by decide +kernel
theorem dX18_bearers_5 : decode cX18_bearers 5 = .ok (.ifCond .eq 7, 3) := by decide +kernel
theorem dX18_bearers_8 : decode cX18_bearers 8 = .ok (.iconst 0, 1) := by decide +kernel
theorem dX18_bearers_9 : decode cX18_bearers 9 = .ok (.goto 8, 3) := by decide +kernel
theorem dX18_bearers_12 : decode cX18_bearers 12 = .ok (.aload_n 0, 1) := by decide +kernel
theorem dX18_bearers_13 : decode cX18_bearers 13 = .ok (.iload_n 1, 1) := by decide +kernel
theorem dX18_bearers_14 : decode cX18_bearers 14 = .ok (.invokevirtual 450, 3) := by decide +kernel
theorem dX18_bearers_17 : decode cX18_bearers 17 = .ok (.ireturn, 1) := by decide +kernel
theorem dX18_next_0 : decode cX18_next 0 = .ok (.iload_n 0, 1) := by decide +kernel
theorem dX18_next_1 : decode cX18_next 1 = .ok (.bipush 8, 2) := by decide +kernel
theorem dX18_next_3 : decode cX18_next 3 = .ok (.if_icmp .ne 8, 3) := by decide +kernel
theorem dX18_next_6 : decode cX18_next 6 = .ok (.bipush 8, 2) := by decide +kernel
theorem dX18_next_8 : decode cX18_next 8 = .ok (.goto 25, 3) := by decide +kernel
theorem dX18_next_11 : decode cX18_next 11 = .ok (.iload_n 0, 1) := by decide +kernel
theorem dX18_next_12 : decode cX18_next 12 = .ok (.iconst 2, 1) := by decide +kernel
theorem dX18_next_13 : decode cX18_next 13 = .ok (.if_icmp .ne 7, 3) := by decide +kernel
theorem dX18_next_16 : decode cX18_next 16 = .ok (.iconst 1, 1) := by decide +kernel
theorem dX18_next_17 : decode cX18_next 17 = .ok (.goto 16, 3) := by decide +kernel
theorem dX18_next_20 : decode cX18_next 20 = .ok (.iload_n 0, 1) := by decide +kernel
theorem dX18_next_21 : decode cX18_next 21 = .ok (.bipush 7, 2) := by decide +kernel
theorem dX18_next_23 : decode cX18_next 23 = .ok (.if_icmp .ne 7, 3) := by decide +kernel
theorem dX18_next_26 : decode cX18_next 26 = .ok (.iconst 3, 1) := by decide +kernel
theorem dX18_next_27 : decode cX18_next 27 = .ok (.goto 6, 3) := by decide +kernel
theorem dX18_next_30 : decode cX18_next 30 = .ok (.iload_n 0, 1) := by decide +kernel
theorem dX18_next_31 : decode cX18_next 31 = .ok (.iconst 1, 1) := by decide +kernel
theorem dX18_next_32 : decode cX18_next 32 = .ok (.iadd, 1) := by decide +kernel
theorem dX18_next_33 : decode cX18_next 33 = .ok (.ireturn, 1) := by decide +kernel
set_option maxRecDepth 20000 in
theorem ggX18_differ_X14_group : GoodIn wsX18_differ wsX14_group := goodIn_r _ [5, 6, 7, 8, 9, 10, 11, 12, 13, 14, 15, 35, 36, 37, 38, 39, 40, 20, 21, 22, 23, 24, 25, 26, 27, 28, 29, 30, 31, 32, 33, 34] (by decide +kernel) (by decide +kernel)
set_option maxRecDepth 20000 in
theorem gX18_differ_X14_group : GoodIn wsX18_differ (wsV RX18 128 RX14 yX14_group wsX14_group) := goodIn_app (goodIn_of _ (by decide +kernel)) ggX18_differ_X14_group
set_option maxRecDepth 20000 in
theorem ggX18_differ_X18_next : GoodIn wsX18_differ wsX18_next := goodIn_r _ [19] (by decide +kernel) (by decide +kernel)
set_option maxRecDepth 20000 in
theorem gX18_differ_X18_next : GoodIn wsX18_differ (va_wsS RX18 453 yX18_next wsX18_next) := goodIn_app (goodIn_of _ (by decide +kernel)) ggX18_differ_X18_next
theorem dX18_differ_0 : decode cX18_differ 0 = .ok (.iload_n 2, 1) := by decide +kernel
theorem dX18_differ_1 : decode cX18_differ 1 = .ok (.ifCond .ne 76, 3) := by decide +kernel
theorem dX18_differ_4 : decode cX18_differ 4 = .ok (.aload_n 1, 1) := by decide +kernel
theorem dX18_differ_5 : decode cX18_differ 5 = .ok (.invokevirtual 128, 3) := by decide +kernel
theorem dX18_differ_8 : decode cX18_differ 8 = .ok (.astore 4, 2) := by decide +kernel
theorem dX18_differ_10 : decode cX18_differ 10 = .ok (.aload 4, 2) := by decide +kernel
theorem dX18_differ_12 : decode cX18_differ 12 = .ok (.bipush 99, 2) := by decide +kernel
theorem dX18_differ_14 : decode cX18_differ 14 = .ok (.putfield 142, 3) := by decide +kernel
theorem dX18_differ_17 : decode cX18_differ 17 = .ok (.aload 4, 2) := by decide +kernel
theorem dX18_differ_19 : decode cX18_differ 19 = .ok (.iconst 1, 1) := by decide +kernel
theorem dX18_differ_20 : decode cX18_differ 20 = .ok (.putfield 114, 3) := by decide +kernel
theorem dX18_differ_23 : decode cX18_differ 23 = .ok (.aload 4, 2) := by decide +kernel
theorem dX18_differ_25 : decode cX18_differ 25 = .ok (.bipush 50, 2) := by decide +kernel
theorem dX18_differ_27 : decode cX18_differ 27 = .ok (.iload_n 3, 1) := by decide +kernel
theorem dX18_differ_28 : decode cX18_differ 28 = .ok (.bipush 8, 2) := by decide +kernel
theorem dX18_differ_30 : decode cX18_differ 30 = .ok (.if_icmp .le 8, 3) := by decide +kernel
theorem dX18_differ_33 : decode cX18_differ 33 = .ok (.bipush 8, 2) := by decide +kernel
theorem dX18_differ_35 : decode cX18_differ 35 = .ok (.goto 4, 3) := by decide +kernel
theorem dX18_differ_38 : decode cX18_differ 38 = .ok (.iload_n 3, 1) := by decide +kernel
theorem dX18_differ_39 : decode cX18_differ 39 = .ok (.iadd, 1) := by decide +kernel
theorem dX18_differ_40 : decode cX18_differ 40 = .ok (.putfield 119, 3) := by decide +kernel
theorem dX18_differ_43 : decode cX18_differ 43 = .ok (.aload 4, 2) := by decide +kernel
theorem dX18_differ_45 : decode cX18_differ 45 = .ok (.iconst 0, 1) := by decide +kernel
theorem dX18_differ_46 : decode cX18_differ 46 = .ok (.putfield 125, 3) := by decide +kernel
theorem dX18_differ_49 : decode cX18_differ 49 = .ok (.aload 4, 2) := by decide +kernel
theorem dX18_differ_51 : decode cX18_differ 51 = .ok (.bipush 41, 2) := by decide +kernel
theorem dX18_differ_53 : decode cX18_differ 53 = .ok (.putfield 139, 3) := by decide +kernel
theorem dX18_differ_56 : decode cX18_differ 56 = .ok (.aload 4, 2) := by decide +kernel
theorem dX18_differ_58 : decode cX18_differ 58 = .ok (.aload_n 1, 1) := by decide +kernel
theorem dX18_differ_59 : decode cX18_differ 59 = .ok (.getfield 108, 3) := by decide +kernel
theorem dX18_differ_62 : decode cX18_differ 62 = .ok (.iconst 5, 1) := by decide +kernel
theorem dX18_differ_63 : decode cX18_differ 63 = .ok (.if_icmp .ne 7, 3) := by decide +kernel
theorem dX18_differ_66 : decode cX18_differ 66 = .ok (.iconst 2, 1) := by decide +kernel
theorem dX18_differ_67 : decode cX18_differ 67 = .ok (.goto 4, 3) := by decide +kernel
theorem dX18_differ_70 : decode cX18_differ 70 = .ok (.iconst 5, 1) := by decide +kernel
theorem dX18_differ_71 : decode cX18_differ 71 = .ok (.putfield 153, 3) := by decide +kernel
theorem dX18_differ_74 : decode cX18_differ 74 = .ok (.goto 58, 3) := by decide +kernel
theorem dX18_differ_77 : decode cX18_differ 77 = .ok (.iload_n 2, 1) := by decide +kernel
theorem dX18_differ_78 : decode cX18_differ 78 = .ok (.iconst 1, 1) := by decide +kernel
theorem dX18_differ_79 : decode cX18_differ 79 = .ok (.if_icmp .ne 53, 3) := by decide +kernel
theorem dX18_differ_82 : decode cX18_differ 82 = .ok (.aload_n 1, 1) := by decide +kernel
theorem dX18_differ_83 : decode cX18_differ 83 = .ok (.invokevirtual 128, 3) := by decide +kernel
theorem dX18_differ_86 : decode cX18_differ 86 = .ok (.astore 4, 2) := by decide +kernel
theorem dX18_differ_88 : decode cX18_differ 88 = .ok (.aload 4, 2) := by decide +kernel
theorem dX18_differ_90 : decode cX18_differ 90 = .ok (.bipush 111, 2) := by decide +kernel
theorem dX18_differ_92 : decode cX18_differ 92 = .ok (.putfield 142, 3) := by decide +kernel
theorem dX18_differ_95 : decode cX18_differ 95 = .ok (.aload 4, 2) := by decide +kernel
theorem dX18_differ_97 : decode cX18_differ 97 = .ok (.bipush 28, 2) := by decide +kernel
theorem dX18_differ_99 : decode cX18_differ 99 = .ok (.putfield 146, 3) := by decide +kernel
theorem dX18_differ_102 : decode cX18_differ 102 = .ok (.aload 4, 2) := by decide +kernel
theorem dX18_differ_104 : decode cX18_differ 104 = .ok (.iconst 0, 1) := by decide +kernel
theorem dX18_differ_105 : decode cX18_differ 105 = .ok (.putfield 132, 3) := by decide +kernel
theorem dX18_differ_108 : decode cX18_differ 108 = .ok (.aload 4, 2) := by decide +kernel
theorem dX18_differ_110 : decode cX18_differ 110 = .ok (.iconst 0, 1) := by decide +kernel
theorem dX18_differ_111 : decode cX18_differ 111 = .ok (.putfield 135, 3) := by decide +kernel
theorem dX18_differ_114 : decode cX18_differ 114 = .ok (.aload 4, 2) := by decide +kernel
theorem dX18_differ_116 : decode cX18_differ 116 = .ok (.iload_n 3, 1) := by decide +kernel
theorem dX18_differ_117 : decode cX18_differ 117 = .ok (.iconst 5, 1) := by decide +kernel
theorem dX18_differ_118 : decode cX18_differ 118 = .ok (.if_icmp .le 8, 3) := by decide +kernel
theorem dX18_differ_121 : decode cX18_differ 121 = .ok (.bipush 7, 2) := by decide +kernel
theorem dX18_differ_123 : decode cX18_differ 123 = .ok (.goto 6, 3) := by decide +kernel
theorem dX18_differ_126 : decode cX18_differ 126 = .ok (.iconst 2, 1) := by decide +kernel
theorem dX18_differ_127 : decode cX18_differ 127 = .ok (.iload_n 3, 1) := by decide +kernel
theorem dX18_differ_128 : decode cX18_differ 128 = .ok (.iadd, 1) := by decide +kernel
theorem dX18_differ_129 : decode cX18_differ 129 = .ok (.putfield 153, 3) := by decide +kernel
theorem dX18_differ_132 : decode cX18_differ 132 = .ok (.iconst 0, 1) := by decide +kernel
theorem dX18_differ_133 : decode cX18_differ 133 = .ok (.istore 4, 2) := by decide +kernel
theorem dX18_differ_135 : decode cX18_differ 135 = .ok (.iload_n 2, 1) := by decide +kernel
theorem dX18_differ_136 : decode cX18_differ 136 = .ok (.iconst 2, 1) := by decide +kernel
theorem dX18_differ_137 : decode cX18_differ 137 = .ok (.if_icmp .ne 26, 3) := by decide +kernel
theorem dX18_differ_140 : decode cX18_differ 140 = .ok (.iload 4, 2) := by decide +kernel
theorem dX18_differ_142 : decode cX18_differ 142 = .ok (.iload_n 3, 1) := by decide +kernel
theorem dX18_differ_143 : decode cX18_differ 143 = .ok (.if_icmp .ge 20, 3) := by decide +kernel
theorem dX18_differ_146 : decode cX18_differ 146 = .ok (.aload_n 1, 1) := by decide +kernel
theorem dX18_differ_147 : decode cX18_differ 147 = .ok (.aload_n 1, 1) := by decide +kernel
theorem dX18_differ_148 : decode cX18_differ 148 = .ok (.getfield 108, 3) := by decide +kernel
theorem dX18_differ_151 : decode cX18_differ 151 = .ok (.invokestatic 453, 3) := by decide +kernel
theorem dX18_differ_154 : decode cX18_differ 154 = .ok (.putfield 108, 3) := by decide +kernel
theorem dX18_differ_157 : decode cX18_differ 157 = .ok (.iinc 4 1, 3) := by decide +kernel
theorem dX18_differ_160 : decode cX18_differ 160 = .ok (.goto (-25), 3) := by decide +kernel
theorem dX18_differ_163 : decode cX18_differ 163 = .ok (.return_, 1) := by decide +kernel
set_option maxRecDepth 20000 in
theorem ggX18_drawArms_Jx4a65c_get_915e3 : GoodIn wsX18_drawArms wsJx4a65c_get_915e3 := goodIn_r _ [10, 11, 12, 13, 14, 15, 16, 17, 18, 19, 20, 21, 22, 9, 23, 24, 164, 165, 166] (by decide +kernel) (by decide +kernel)
set_option maxRecDepth 20000 in
theorem gX18_drawArms_Jx4a65c_get_915e3 : GoodIn wsX18_drawArms (wsV RX18 294 RJx4a65c yJx4a65c_get_915e3 wsJx4a65c_get_915e3) := goodIn_app (goodIn_of _ (by decide +kernel)) ggX18_drawArms_Jx4a65c_get_915e3
set_option maxRecDepth 20000 in
theorem ggX18_drawArms_X14_init : GoodIn wsX18_drawArms wsX14_init := goodIn_r _ [26, 27, 28, 29, 30, 31, 148, 149, 150, 151, 152, 153] (by decide +kernel) (by decide +kernel)
set_option maxRecDepth 20000 in
theorem gX18_drawArms_X14_init_n28 : GoodIn wsX18_drawArms (wsX14_init) := ggX18_drawArms_X14_init
set_option maxRecDepth 20000 in
theorem ggX18_drawArms_X14_be : GoodIn wsX18_drawArms wsX14_be := goodIn_r _ [35, 36, 37, 38, 39, 40, 31, 41, 42, 43, 5, 44, 30, 45, 46, 47, 48, 49, 28, 29, 50, 51, 52, 53, 54, 55, 56, 57, 58, 59, 60, 61, 62, 63, 64, 65, 66, 148, 149, 150, 151, 152, 153, 167, 168, 169, 170, 171, 172, 173, 174, 175, 176, 177, 178, 179, 180, 181] (by decide +kernel) (by decide +kernel)
set_option maxRecDepth 20000 in
theorem gX18_drawArms_X14_be : GoodIn wsX18_drawArms (wsV RX18 458 RX14 yX14_be wsX14_be) := goodIn_app (goodIn_of _ (by decide +kernel)) ggX18_drawArms_X14_be
set_option maxRecDepth 20000 in
theorem ggX18_drawArms_X18_differ : GoodIn wsX18_drawArms wsX18_differ := goodIn_r _ [71, 72, 42, 43, 5, 44, 31, 40, 30, 45, 46, 47, 48, 49, 28, 29, 73, 74, 70, 75, 167, 168, 169, 170, 171, 172, 173, 174, 175, 176, 177, 178, 179, 180, 181, 148, 149, 150, 151, 152, 153] (by decide +kernel) (by decide +kernel)
set_option maxRecDepth 20000 in
theorem gX18_drawArms_X18_differ : GoodIn wsX18_drawArms (wsV RX18 460 RX18 yX18_differ wsX18_differ) := goodIn_app (goodIn_of _ (by decide +kernel)) ggX18_drawArms_X18_differ
set_option maxRecDepth 20000 in
theorem ggX18_drawArms_X18_draw : GoodIn wsX18_drawArms wsX18_draw := goodIn_ca (goodIn_r _ [79, 80, 81, 82, 70, 83, 84, 85, 86, 87, 88, 89, 90, 91, 92, 93, 94, 95, 96, 97, 98, 99, 100, 101, 102, 103, 104, 105, 106, 107, 108, 109, 110, 111, 112, 113, 114, 115, 116, 117, 118, 119, 148, 149, 150, 151, 152, 153, 120, 121, 122, 123, 124, 125, 126, 127, 128, 129, 130, 131, 132, 133, 134, 135, 136, 137, 138, 139, 140, 141, 142, 143, 144, 145, 146, 147, 167, 168, 169, 170, 171, 172, 173, 174, 175, 176, 177, 178, 179, 180, 181] (by decide +kernel) (by decide +kernel)) (goodIn_sub (fun _ h => List.mem_cons_of_mem _ (List.mem_append_right _ h)) (by decide +kernel))
set_option maxRecDepth 20000 in
theorem gX18_drawArms_X18_draw : GoodIn wsX18_drawArms (wsV RX18 235 RX18 yX18_draw wsX18_draw) := goodIn_app (goodIn_of _ (by decide +kernel)) ggX18_drawArms_X18_draw
set_option maxRecDepth 20000 in
theorem ggX18_drawArms_X18_in : GoodIn wsX18_drawArms wsX18_in := goodIn_r _ [100] (by decide +kernel) (by decide +kernel)
set_option maxRecDepth 20000 in
theorem gX18_drawArms_X18_in : GoodIn wsX18_drawArms (va_wsS RX18 77 yX18_in wsX18_in) := goodIn_app (goodIn_of _ (by decide +kernel)) ggX18_drawArms_X18_in
set_option maxRecDepth 20000 in
theorem ggX18_drawArms_X18_has : GoodIn wsX18_drawArms wsX18_has := goodIn_r _ [109, 110, 111, 70, 112] (by decide +kernel) (by decide +kernel)
set_option maxRecDepth 20000 in
theorem gX18_drawArms_X18_has : GoodIn wsX18_drawArms (va_wsS RX18 208 yX18_has wsX18_has) := goodIn_app (goodIn_of _ (by decide +kernel)) ggX18_drawArms_X18_has
theorem dX18_drawArms_0 : decode cX18_drawArms 0 = .ok (.aload_n 0, 1) := by decide +kernel
theorem dX18_drawArms_1 : decode cX18_drawArms 1 = .ok (.getfield 20, 3) := by decide +kernel
theorem dX18_drawArms_4 : decode cX18_drawArms 4 = .ok (.iload_n 1, 1) := by decide +kernel
theorem dX18_drawArms_5 : decode cX18_drawArms 5 = .ok (.invokevirtual 294, 3) := by decide +kernel
theorem dX18_drawArms_8 : decode cX18_drawArms 8 = .ok (.checkcast 373, 3) := by decide +kernel
theorem dX18_drawArms_11 : decode cX18_drawArms 11 = .ok (.astore 4, 2) := by decide +kernel
theorem dX18_drawArms_13 : decode cX18_drawArms 13 = .ok (.new 26, 3) := by decide +kernel
theorem dX18_drawArms_16 : decode cX18_drawArms 16 = .ok (.dup, 1) := by decide +kernel
theorem dX18_drawArms_17 : decode cX18_drawArms 17 = .ok (.invokespecial 28, 3) := by decide +kernel
theorem dX18_drawArms_20 : decode cX18_drawArms 20 = .ok (.astore 5, 2) := by decide +kernel
theorem dX18_drawArms_22 : decode cX18_drawArms 22 = .ok (.aload 5, 2) := by decide +kernel
theorem dX18_drawArms_24 : decode cX18_drawArms 24 = .ok (.aload 4, 2) := by decide +kernel
theorem dX18_drawArms_26 : decode cX18_drawArms 26 = .ok (.getfield 455, 3) := by decide +kernel
theorem dX18_drawArms_29 : decode cX18_drawArms 29 = .ok (.invokevirtual 458, 3) := by decide +kernel
theorem dX18_drawArms_32 : decode cX18_drawArms 32 = .ok (.aload_n 2, 1) := by decide +kernel
theorem dX18_drawArms_33 : decode cX18_drawArms 33 = .ok (.astore 6, 2) := by decide +kernel
theorem dX18_drawArms_35 : decode cX18_drawArms 35 = .ok (.aload 6, 2) := by decide +kernel
theorem dX18_drawArms_37 : decode cX18_drawArms 37 = .ok (.arraylength, 1) := by decide +kernel
theorem dX18_drawArms_38 : decode cX18_drawArms 38 = .ok (.istore 7, 2) := by decide +kernel
theorem dX18_drawArms_40 : decode cX18_drawArms 40 = .ok (.iconst 0, 1) := by decide +kernel
theorem dX18_drawArms_41 : decode cX18_drawArms 41 = .ok (.istore 8, 2) := by decide +kernel
theorem dX18_drawArms_43 : decode cX18_drawArms 43 = .ok (.iload 8, 2) := by decide +kernel
theorem dX18_drawArms_45 : decode cX18_drawArms 45 = .ok (.iload 7, 2) := by decide +kernel
theorem dX18_drawArms_47 : decode cX18_drawArms 47 = .ok (.if_icmp .ge 29, 3) := by decide +kernel
theorem dX18_drawArms_50 : decode cX18_drawArms 50 = .ok (.aload 6, 2) := by decide +kernel
theorem dX18_drawArms_52 : decode cX18_drawArms 52 = .ok (.iload 8, 2) := by decide +kernel
theorem dX18_drawArms_54 : decode cX18_drawArms 54 = .ok (.iaload, 1) := by decide +kernel
theorem dX18_drawArms_55 : decode cX18_drawArms 55 = .ok (.istore 9, 2) := by decide +kernel
theorem dX18_drawArms_57 : decode cX18_drawArms 57 = .ok (.aload_n 0, 1) := by decide +kernel
theorem dX18_drawArms_58 : decode cX18_drawArms 58 = .ok (.aload 5, 2) := by decide +kernel
theorem dX18_drawArms_60 : decode cX18_drawArms 60 = .ok (.aload 4, 2) := by decide +kernel
theorem dX18_drawArms_62 : decode cX18_drawArms 62 = .ok (.getfield 419, 3) := by decide +kernel
theorem dX18_drawArms_65 : decode cX18_drawArms 65 = .ok (.iload 9, 2) := by decide +kernel
theorem dX18_drawArms_67 : decode cX18_drawArms 67 = .ok (.invokevirtual 460, 3) := by decide +kernel
theorem dX18_drawArms_70 : decode cX18_drawArms 70 = .ok (.iinc 8 1, 3) := by decide +kernel
theorem dX18_drawArms_73 : decode cX18_drawArms 73 = .ok (.goto (-30), 3) := by decide +kernel
theorem dX18_drawArms_76 : decode cX18_drawArms 76 = .ok (.aload_n 0, 1) := by decide +kernel
theorem dX18_drawArms_77 : decode cX18_drawArms 77 = .ok (.aload 5, 2) := by decide +kernel
theorem dX18_drawArms_79 : decode cX18_drawArms 79 = .ok (.aload_n 3, 1) := by decide +kernel
theorem dX18_drawArms_80 : decode cX18_drawArms 80 = .ok (.invokevirtual 235, 3) := by decide +kernel
theorem dX18_drawArms_83 : decode cX18_drawArms 83 = .ok (.iconst 0, 1) := by decide +kernel
theorem dX18_drawArms_84 : decode cX18_drawArms 84 = .ok (.istore 6, 2) := by decide +kernel
theorem dX18_drawArms_86 : decode cX18_drawArms 86 = .ok (.aload 4, 2) := by decide +kernel
theorem dX18_drawArms_88 : decode cX18_drawArms 88 = .ok (.getfield 464, 3) := by decide +kernel
theorem dX18_drawArms_91 : decode cX18_drawArms 91 = .ok (.ifCond .le 122, 3) := by decide +kernel
theorem dX18_drawArms_94 : decode cX18_drawArms 94 = .ok (.iload 6, 2) := by decide +kernel
theorem dX18_drawArms_96 : decode cX18_drawArms 96 = .ok (.sipush 256, 3) := by decide +kernel
theorem dX18_drawArms_99 : decode cX18_drawArms 99 = .ok (.if_icmp .ge 114, 3) := by decide +kernel
theorem dX18_drawArms_102 : decode cX18_drawArms 102 = .ok (.iload 6, 2) := by decide +kernel
theorem dX18_drawArms_104 : decode cX18_drawArms 104 = .ok (.bipush 16, 2) := by decide +kernel
theorem dX18_drawArms_106 : decode cX18_drawArms 106 = .ok (.irem, 1) := by decide +kernel
theorem dX18_drawArms_107 : decode cX18_drawArms 107 = .ok (.istore 7, 2) := by decide +kernel
theorem dX18_drawArms_109 : decode cX18_drawArms 109 = .ok (.iload 6, 2) := by decide +kernel
theorem dX18_drawArms_111 : decode cX18_drawArms 111 = .ok (.bipush 16, 2) := by decide +kernel
theorem dX18_drawArms_113 : decode cX18_drawArms 113 = .ok (.idiv, 1) := by decide +kernel
theorem dX18_drawArms_114 : decode cX18_drawArms 114 = .ok (.istore 8, 2) := by decide +kernel
theorem dX18_drawArms_116 : decode cX18_drawArms 116 = .ok (.iload 7, 2) := by decide +kernel
theorem dX18_drawArms_118 : decode cX18_drawArms 118 = .ok (.iconst 1, 1) := by decide +kernel
theorem dX18_drawArms_119 : decode cX18_drawArms 119 = .ok (.iconst 3, 1) := by decide +kernel
theorem dX18_drawArms_120 : decode cX18_drawArms 120 = .ok (.invokestatic 77, 3) := by decide +kernel
theorem dX18_drawArms_123 : decode cX18_drawArms 123 = .ok (.ifCond .eq 40, 3) := by decide +kernel
theorem dX18_drawArms_126 : decode cX18_drawArms 126 = .ok (.iload 8, 2) := by decide +kernel
theorem dX18_drawArms_128 : decode cX18_drawArms 128 = .ok (.iconst 1, 1) := by decide +kernel
theorem dX18_drawArms_129 : decode cX18_drawArms 129 = .ok (.iconst 3, 1) := by decide +kernel
theorem dX18_drawArms_130 : decode cX18_drawArms 130 = .ok (.invokestatic 77, 3) := by decide +kernel
theorem dX18_drawArms_133 : decode cX18_drawArms 133 = .ok (.ifCond .eq 30, 3) := by decide +kernel
theorem dX18_drawArms_136 : decode cX18_drawArms 136 = .ok (.aload 4, 2) := by decide +kernel
theorem dX18_drawArms_138 : decode cX18_drawArms 138 = .ok (.getfield 467, 3) := by decide +kernel
theorem dX18_drawArms_141 : decode cX18_drawArms 141 = .ok (.iconst 0, 1) := by decide +kernel
theorem dX18_drawArms_142 : decode cX18_drawArms 142 = .ok (.iconst 3, 1) := by decide +kernel
theorem dX18_drawArms_143 : decode cX18_drawArms 143 = .ok (.iload 8, 2) := by decide +kernel
theorem dX18_drawArms_145 : decode cX18_drawArms 145 = .ok (.iconst 1, 1) := by decide +kernel
theorem dX18_drawArms_146 : decode cX18_drawArms 146 = .ok (.isub, 1) := by decide +kernel
theorem dX18_drawArms_147 : decode cX18_drawArms 147 = .ok (.imul, 1) := by decide +kernel
theorem dX18_drawArms_148 : decode cX18_drawArms 148 = .ok (.iload 7, 2) := by decide +kernel
theorem dX18_drawArms_150 : decode cX18_drawArms 150 = .ok (.iadd, 1) := by decide +kernel
theorem dX18_drawArms_151 : decode cX18_drawArms 151 = .ok (.iconst 1, 1) := by decide +kernel
theorem dX18_drawArms_152 : decode cX18_drawArms 152 = .ok (.isub, 1) := by decide +kernel
theorem dX18_drawArms_153 : decode cX18_drawArms 153 = .ok (.invokestatic 208, 3) := by decide +kernel
theorem dX18_drawArms_156 : decode cX18_drawArms 156 = .ok (.ifCond .eq 7, 3) := by decide +kernel
theorem dX18_drawArms_159 : decode cX18_drawArms 159 = .ok (.iconst 1, 1) := by decide +kernel
theorem dX18_drawArms_160 : decode cX18_drawArms 160 = .ok (.goto 4, 3) := by decide +kernel
theorem dX18_drawArms_163 : decode cX18_drawArms 163 = .ok (.iconst 0, 1) := by decide +kernel
theorem dX18_drawArms_164 : decode cX18_drawArms 164 = .ok (.istore 9, 2) := by decide +kernel
theorem dX18_drawArms_166 : decode cX18_drawArms 166 = .ok (.aload_n 3, 1) := by decide +kernel
theorem dX18_drawArms_167 : decode cX18_drawArms 167 = .ok (.iload 6, 2) := by decide +kernel
theorem dX18_drawArms_169 : decode cX18_drawArms 169 = .ok (.iload 9, 2) := by decide +kernel
theorem dX18_drawArms_171 : decode cX18_drawArms 171 = .ok (.ifCond .eq 11, 3) := by decide +kernel
theorem dX18_drawArms_174 : decode cX18_drawArms 174 = .ok (.aload 4, 2) := by decide +kernel
theorem dX18_drawArms_176 : decode cX18_drawArms 176 = .ok (.getfield 468, 3) := by decide +kernel
theorem dX18_drawArms_179 : decode cX18_drawArms 179 = .ok (.goto 27, 3) := by decide +kernel
theorem dX18_drawArms_182 : decode cX18_drawArms 182 = .ok (.iload 7, 2) := by decide +kernel
theorem dX18_drawArms_184 : decode cX18_drawArms 184 = .ok (.iconst 4, 1) := by decide +kernel
theorem dX18_drawArms_185 : decode cX18_drawArms 185 = .ok (.if_icmp .gt 17, 3) := by decide +kernel
theorem dX18_drawArms_188 : decode cX18_drawArms 188 = .ok (.iload 8, 2) := by decide +kernel
theorem dX18_drawArms_190 : decode cX18_drawArms 190 = .ok (.iconst 4, 1) := by decide +kernel
theorem dX18_drawArms_191 : decode cX18_drawArms 191 = .ok (.if_icmp .gt 11, 3) := by decide +kernel
theorem dX18_drawArms_194 : decode cX18_drawArms 194 = .ok (.aload 4, 2) := by decide +kernel
theorem dX18_drawArms_196 : decode cX18_drawArms 196 = .ok (.getfield 464, 3) := by decide +kernel
theorem dX18_drawArms_199 : decode cX18_drawArms 199 = .ok (.goto 7, 3) := by decide +kernel
theorem dX18_drawArms_202 : decode cX18_drawArms 202 = .ok (.aload_n 3, 1) := by decide +kernel
theorem dX18_drawArms_203 : decode cX18_drawArms 203 = .ok (.iload 6, 2) := by decide +kernel
theorem dX18_drawArms_205 : decode cX18_drawArms 205 = .ok (.iaload, 1) := by decide +kernel
theorem dX18_drawArms_206 : decode cX18_drawArms 206 = .ok (.iastore, 1) := by decide +kernel
theorem dX18_drawArms_207 : decode cX18_drawArms 207 = .ok (.iinc 6 1, 3) := by decide +kernel
theorem dX18_drawArms_210 : decode cX18_drawArms 210 = .ok (.goto (-124), 3) := by decide +kernel
theorem dX18_drawArms_213 : decode cX18_drawArms 213 = .ok (.return_, 1) := by decide +kernel
theorem dX18_unlike_0 : decode cX18_unlike 0 = .ok (.iconst 0, 1) := by decide +kernel
theorem dX18_unlike_1 : decode cX18_unlike 1 = .ok (.istore_n 2, 1) := by decide +kernel
theorem dX18_unlike_2 : decode cX18_unlike 2 = .ok (.iconst 0, 1) := by decide +kernel
theorem dX18_unlike_3 : decode cX18_unlike 3 = .ok (.istore_n 3, 1) := by decide +kernel
theorem dX18_unlike_4 : decode cX18_unlike 4 = .ok (.iload_n 3, 1) := by decide +kernel
theorem dX18_unlike_5 : decode cX18_unlike 5 = .ok (.sipush 256, 3) := by decide +kernel
theorem dX18_unlike_8 : decode cX18_unlike 8 = .ok (.if_icmp .ge 26, 3) := by decide +kernel
theorem dX18_unlike_11 : decode cX18_unlike 11 = .ok (.iload_n 2, 1) := by decide +kernel
theorem dX18_unlike_12 : decode cX18_unlike 12 = .ok (.aload_n 0, 1) := by decide +kernel
theorem dX18_unlike_13 : decode cX18_unlike 13 = .ok (.iload_n 3, 1) := by decide +kernel
theorem dX18_unlike_14 : decode cX18_unlike 14 = .ok (.iaload, 1) := by decide +kernel
theorem dX18_unlike_15 : decode cX18_unlike 15 = .ok (.aload_n 1, 1) := by decide +kernel
theorem dX18_unlike_16 : decode cX18_unlike 16 = .ok (.iload_n 3, 1) := by decide +kernel
theorem dX18_unlike_17 : decode cX18_unlike 17 = .ok (.iaload, 1) := by decide +kernel
theorem dX18_unlike_18 : decode cX18_unlike 18 = .ok (.if_icmp .ne 7, 3) := by decide +kernel
theorem dX18_unlike_21 : decode cX18_unlike 21 = .ok (.iconst 0, 1) := by decide +kernel
theorem dX18_unlike_22 : decode cX18_unlike 22 = .ok (.goto 4, 3) := by decide +kernel
theorem dX18_unlike_25 : decode cX18_unlike 25 = .ok (.iconst 1, 1) := by decide +kernel
theorem dX18_unlike_26 : decode cX18_unlike 26 = .ok (.iadd, 1) := by decide +kernel
theorem dX18_unlike_27 : decode cX18_unlike 27 = .ok (.istore_n 2, 1) := by decide +kernel
theorem dX18_unlike_28 : decode cX18_unlike 28 = .ok (.iinc 3 1, 3) := by decide +kernel
theorem dX18_unlike_31 : decode cX18_unlike 31 = .ok (.goto (-27), 3) := by decide +kernel
theorem dX18_unlike_34 : decode cX18_unlike 34 = .ok (.iload_n 2, 1) := by decide +kernel
theorem dX18_unlike_35 : decode cX18_unlike 35 = .ok (.ireturn, 1) := by decide +kernel
set_option maxRecDepth 20000 in
theorem ggX18_far_X18_drawArms : GoodIn wsX18_far wsX18_drawArms := goodIn_ca (goodIn_r _ [8, 9, 10, 11, 12, 13, 14, 15, 16, 17, 18, 19, 20, 21, 22, 23, 24, 25, 26, 27, 28, 29, 30, 31, 32, 33, 34, 35, 36, 37, 38, 39, 40, 41, 42, 43, 44, 45, 46, 47, 48, 49, 50, 51, 52, 53, 54, 55, 56, 57, 58, 59, 60, 61, 62, 63, 64, 65, 66, 67, 68, 69, 70, 71, 72, 73, 74, 75, 76, 77, 7, 78, 79, 80, 81, 82, 83, 84, 85, 86, 87, 88, 89, 90, 91, 92, 93, 94, 95, 96, 97, 98, 99, 100, 101, 102, 103, 104, 105, 106, 107, 108, 109, 110, 111, 112, 113, 114, 115, 116, 117, 118, 119, 120, 121, 122, 123, 124, 125, 126, 130, 131, 132, 133, 134, 135, 136, 137, 138, 139, 140, 141, 142, 143, 144, 145, 146, 147, 148, 149, 150, 151, 152, 153, 154, 155, 156, 157, 158, 159, 160, 161, 162, 163, 164, 165, 166, 167, 168, 169, 170, 171, 172, 173, 174, 175, 176, 177, 178, 179, 180, 181, 182, 183, 184, 185, 186, 187, 188, 189, 190, 191] (by decide +kernel) (by decide +kernel)) (goodIn_sub (fun _ h => List.mem_cons_of_mem _ (List.mem_append_right _ h)) (by decide +kernel))
set_option maxRecDepth 20000 in
theorem gX18_far_X18_drawArms : GoodIn wsX18_far (wsV RX18 422 RX18 yX18_drawArms wsX18_drawArms) := goodIn_app (goodIn_of _ (by decide +kernel)) ggX18_far_X18_drawArms
set_option maxRecDepth 20000 in
theorem ggX18_far_X18_unlike : GoodIn wsX18_far wsX18_unlike := goodIn_ca (goodIn_r _ [129] (by decide +kernel) (by decide +kernel)) (goodIn_sub (fun _ h => List.mem_cons_of_mem _ (List.mem_append_right _ h)) (by decide +kernel))
set_option maxRecDepth 20000 in
theorem gX18_far_X18_unlike : GoodIn wsX18_far (va_wsS RX18 426 yX18_unlike wsX18_unlike) := goodIn_app (goodIn_of _ (by decide +kernel)) ggX18_far_X18_unlike
theorem dX18_far_0 : decode cX18_far 0 = .ok (.aload_n 0, 1) := by decide +kernel
theorem dX18_far_1 : decode cX18_far 1 = .ok (.iload_n 1, 1) := by decide +kernel
theorem dX18_far_2 : decode cX18_far 2 = .ok (.iconst 0, 1) := by decide +kernel
theorem dX18_far_3 : decode cX18_far 3 = .ok (.newarray .int, 2) := by decide +kernel
theorem dX18_far_5 : decode cX18_far 5 = .ok (.aload_n 0, 1) := by decide +kernel
theorem dX18_far_6 : decode cX18_far 6 = .ok (.getfield 40, 3) := by decide +kernel
theorem dX18_far_9 : decode cX18_far 9 = .ok (.invokevirtual 422, 3) := by decide +kernel
theorem dX18_far_12 : decode cX18_far 12 = .ok (.aload_n 0, 1) := by decide +kernel
theorem dX18_far_13 : decode cX18_far 13 = .ok (.iload_n 2, 1) := by decide +kernel
theorem dX18_far_14 : decode cX18_far 14 = .ok (.iconst 0, 1) := by decide +kernel
theorem dX18_far_15 : decode cX18_far 15 = .ok (.newarray .int, 2) := by decide +kernel
theorem dX18_far_17 : decode cX18_far 17 = .ok (.aload_n 0, 1) := by decide +kernel
theorem dX18_far_18 : decode cX18_far 18 = .ok (.getfield 43, 3) := by decide +kernel
theorem dX18_far_21 : decode cX18_far 21 = .ok (.invokevirtual 422, 3) := by decide +kernel
theorem dX18_far_24 : decode cX18_far 24 = .ok (.aload_n 0, 1) := by decide +kernel
theorem dX18_far_25 : decode cX18_far 25 = .ok (.getfield 40, 3) := by decide +kernel
theorem dX18_far_28 : decode cX18_far 28 = .ok (.aload_n 0, 1) := by decide +kernel
theorem dX18_far_29 : decode cX18_far 29 = .ok (.getfield 43, 3) := by decide +kernel
theorem dX18_far_32 : decode cX18_far 32 = .ok (.invokestatic 426, 3) := by decide +kernel
theorem dX18_far_35 : decode cX18_far 35 = .ok (.ireturn, 1) := by decide +kernel
set_option maxRecDepth 20000 in
theorem ggX18_ofArms_X18_isArms : GoodIn wsX18_ofArms wsX18_isArms := goodIn_r _ [7, 8, 9, 10, 11, 12, 13, 14, 15, 16, 6, 17, 142, 143, 144, 145, 146, 147, 148, 149, 150, 151, 152, 153, 154, 155, 156, 157, 158, 159, 160, 161, 162, 163, 164, 165, 166, 167, 168, 169, 170, 171, 172] (by decide +kernel) (by decide +kernel)
set_option maxRecDepth 20000 in
theorem gX18_ofArms_X18_isArms : GoodIn wsX18_ofArms (wsV RX18 443 RX18 yX18_isArms wsX18_isArms) := goodIn_app (goodIn_of _ (by decide +kernel)) ggX18_ofArms_X18_isArms
set_option maxRecDepth 20000 in
theorem ggX18_ofArms_X18_isPoint : GoodIn wsX18_ofArms wsX18_isPoint := goodIn_r _ [20, 15, 16, 6, 17] (by decide +kernel) (by decide +kernel)
set_option maxRecDepth 20000 in
theorem gX18_ofArms_X18_isPoint : GoodIn wsX18_ofArms (va_wsS RX18 229 yX18_isPoint wsX18_isPoint) := goodIn_app (goodIn_of _ (by decide +kernel)) ggX18_ofArms_X18_isPoint
set_option maxRecDepth 20000 in
theorem ggX18_ofArms_X18_fails : GoodIn wsX18_ofArms wsX18_fails := goodIn_r _ [24, 25, 142, 143, 144, 145, 146, 147, 148, 149, 150, 151, 152, 153, 154, 155, 156, 157, 158, 159, 160, 161, 162, 163, 164, 165, 166, 167, 168, 169] (by decide +kernel) (by decide +kernel)
set_option maxRecDepth 20000 in
theorem gX18_ofArms_X18_fails : GoodIn wsX18_ofArms (wsV RX18 84 RX18 yX18_fails wsX18_fails) := goodIn_app (goodIn_of _ (by decide +kernel)) ggX18_ofArms_X18_fails
set_option maxRecDepth 20000 in
theorem ggX18_ofArms_X18_drawArms : GoodIn wsX18_ofArms wsX18_drawArms := goodIn_ca (goodIn_r _ [29, 8, 30, 31, 32, 33, 34, 35, 36, 12, 37, 14, 38, 39, 40, 41, 42, 43, 44, 45, 46, 47, 48, 49, 50, 51, 52, 53, 54, 55, 56, 57, 58, 59, 60, 61, 62, 63, 64, 65, 66, 67, 68, 69, 70, 71, 72, 73, 74, 75, 76, 77, 78, 79, 80, 81, 82, 83, 84, 85, 86, 87, 88, 89, 90, 91, 92, 93, 94, 95, 6, 96, 97, 98, 99, 100, 101, 102, 103, 104, 105, 106, 107, 108, 109, 110, 111, 112, 113, 114, 115, 116, 117, 118, 119, 120, 121, 122, 15, 16, 17, 123, 124, 125, 126, 127, 128, 129, 130, 131, 132, 133, 134, 135, 136, 137, 138, 139, 140, 141, 142, 143, 144, 145, 146, 147, 148, 149, 150, 151, 152, 153, 154, 155, 156, 157, 158, 159, 160, 161, 162, 163, 164, 165, 166, 167, 168, 169, 173, 174, 175, 176, 177, 178, 179, 180, 181, 182, 183, 184, 185, 186, 187, 188, 170, 171, 172, 189, 190, 191, 192, 193, 194, 195, 196, 197, 198, 199, 200, 201, 202, 203] (by decide +kernel) (by decide +kernel)) (goodIn_sub (fun _ h => List.mem_cons_of_mem _ (List.mem_append_right _ h)) (by decide +kernel))
set_option maxRecDepth 20000 in
theorem gX18_ofArms_X18_drawArms : GoodIn wsX18_ofArms (wsV RX18 422 RX18 yX18_drawArms wsX18_drawArms) := goodIn_app (goodIn_of _ (by decide +kernel)) ggX18_ofArms_X18_drawArms
theorem dX18_ofArms_0 : decode cX18_ofArms 0 = .ok (.aload_n 0, 1) := by decide +kernel
theorem dX18_ofArms_1 : decode cX18_ofArms 1 = .ok (.aload_n 0, 1) := by decide +kernel
theorem dX18_ofArms_2 : decode cX18_ofArms 2 = .ok (.iload_n 1, 1) := by decide +kernel
theorem dX18_ofArms_3 : decode cX18_ofArms 3 = .ok (.invokevirtual 443, 3) := by decide +kernel
theorem dX18_ofArms_6 : decode cX18_ofArms 6 = .ok (.ifCond .eq 15, 3) := by decide +kernel
theorem dX18_ofArms_9 : decode cX18_ofArms 9 = .ok (.iload_n 2, 1) := by decide +kernel
theorem dX18_ofArms_10 : decode cX18_ofArms 10 = .ok (.iload_n 3, 1) := by decide +kernel
theorem dX18_ofArms_11 : decode cX18_ofArms 11 = .ok (.invokestatic 229, 3) := by decide +kernel
theorem dX18_ofArms_14 : decode cX18_ofArms 14 = .ok (.ifCond .eq 7, 3) := by decide +kernel
theorem dX18_ofArms_17 : decode cX18_ofArms 17 = .ok (.iconst 0, 1) := by decide +kernel
theorem dX18_ofArms_18 : decode cX18_ofArms 18 = .ok (.goto 4, 3) := by decide +kernel
theorem dX18_ofArms_21 : decode cX18_ofArms 21 = .ok (.iconst 1, 1) := by decide +kernel
theorem dX18_ofArms_22 : decode cX18_ofArms 22 = .ok (.invokevirtual 84, 3) := by decide +kernel
theorem dX18_ofArms_25 : decode cX18_ofArms 25 = .ok (.ifCond .eq 5, 3) := by decide +kernel
theorem dX18_ofArms_28 : decode cX18_ofArms 28 = .ok (.iconst 0, 1) := by decide +kernel
theorem dX18_ofArms_29 : decode cX18_ofArms 29 = .ok (.ireturn, 1) := by decide +kernel
theorem dX18_ofArms_30 : decode cX18_ofArms 30 = .ok (.aload_n 0, 1) := by decide +kernel
theorem dX18_ofArms_31 : decode cX18_ofArms 31 = .ok (.iload_n 1, 1) := by decide +kernel
theorem dX18_ofArms_32 : decode cX18_ofArms 32 = .ok (.iconst 0, 1) := by decide +kernel
theorem dX18_ofArms_33 : decode cX18_ofArms 33 = .ok (.newarray .int, 2) := by decide +kernel
theorem dX18_ofArms_35 : decode cX18_ofArms 35 = .ok (.aload_n 0, 1) := by decide +kernel
theorem dX18_ofArms_36 : decode cX18_ofArms 36 = .ok (.getfield 40, 3) := by decide +kernel
theorem dX18_ofArms_39 : decode cX18_ofArms 39 = .ok (.invokevirtual 422, 3) := by decide +kernel
theorem dX18_ofArms_42 : decode cX18_ofArms 42 = .ok (.aload_n 0, 1) := by decide +kernel
theorem dX18_ofArms_43 : decode cX18_ofArms 43 = .ok (.getfield 40, 3) := by decide +kernel
theorem dX18_ofArms_46 : decode cX18_ofArms 46 = .ok (.bipush 16, 2) := by decide +kernel
theorem dX18_ofArms_48 : decode cX18_ofArms 48 = .ok (.iload_n 3, 1) := by decide +kernel
theorem dX18_ofArms_49 : decode cX18_ofArms 49 = .ok (.imul, 1) := by decide +kernel
theorem dX18_ofArms_50 : decode cX18_ofArms 50 = .ok (.iload_n 2, 1) := by decide +kernel
theorem dX18_ofArms_51 : decode cX18_ofArms 51 = .ok (.iadd, 1) := by decide +kernel
theorem dX18_ofArms_52 : decode cX18_ofArms 52 = .ok (.iaload, 1) := by decide +kernel
theorem dX18_ofArms_53 : decode cX18_ofArms 53 = .ok (.ireturn, 1) := by decide +kernel
set_option maxRecDepth 20000 in
theorem ggX18_distance_X18_isArms : GoodIn wsX18_distance wsX18_isArms := goodIn_r _ [5, 6, 7, 8, 9, 10, 11, 12, 13, 14, 4, 15, 147, 148, 149, 150, 151, 152, 153, 154, 155, 156, 157, 158, 159, 160, 161, 162, 163, 164, 165, 166, 167, 168, 169, 170, 171, 172, 173, 174, 175, 176, 177] (by decide +kernel) (by decide +kernel)
set_option maxRecDepth 20000 in
theorem gX18_distance_X18_isArms : GoodIn wsX18_distance (wsV RX18 443 RX18 yX18_isArms wsX18_isArms) := goodIn_app (goodIn_of _ (by decide +kernel)) ggX18_distance_X18_isArms
set_option maxRecDepth 20000 in
theorem ggX18_distance_X18_fails : GoodIn wsX18_distance wsX18_fails := goodIn_r _ [19, 20, 147, 148, 149, 150, 151, 152, 153, 154, 155, 156, 157, 158, 159, 160, 161, 162, 163, 164, 165, 166, 167, 168, 169, 170, 171, 172, 173, 174] (by decide +kernel) (by decide +kernel)
set_option maxRecDepth 20000 in
theorem gX18_distance_X18_fails : GoodIn wsX18_distance (wsV RX18 84 RX18 yX18_fails wsX18_fails) := goodIn_app (goodIn_of _ (by decide +kernel)) ggX18_distance_X18_fails
set_option maxRecDepth 20000 in
theorem ggX18_distance_X18_far : GoodIn wsX18_distance wsX18_far := goodIn_ca (goodIn_r _ [24, 25, 26, 27, 28, 29, 30, 4, 31, 6, 32, 33, 34, 35, 36, 37, 38, 10, 39, 12, 40, 41, 42, 43, 44, 45, 46, 47, 48, 49, 50, 51, 52, 53, 54, 55, 56, 57, 58, 59, 60, 61, 62, 63, 64, 65, 66, 67, 68, 69, 70, 71, 72, 73, 74, 75, 76, 77, 78, 79, 80, 81, 82, 83, 84, 85, 86, 87, 88, 89, 90, 91, 92, 93, 94, 95, 96, 97, 98, 99, 100, 101, 102, 103, 104, 105, 106, 107, 108, 109, 110, 111, 112, 113, 114, 115, 116, 117, 118, 119, 120, 121, 122, 123, 124, 13, 14, 15, 125, 126, 127, 128, 129, 130, 131, 132, 133, 134, 135, 136, 137, 138, 139, 140, 141, 142, 143, 144, 145, 146, 147, 148, 149, 150, 151, 152, 153, 154, 155, 156, 157, 158, 159, 160, 161, 162, 163, 164, 165, 166, 167, 168, 169, 170, 171, 172, 173, 174, 178, 179, 180, 181, 182, 183, 184, 185, 186, 187, 188, 189, 190, 191, 192, 193, 175, 176, 177, 194, 195, 196, 197, 198, 199, 200, 201, 202, 203, 204, 205, 206, 207, 208] (by decide +kernel) (by decide +kernel)) (goodIn_sub (fun _ h => List.mem_cons_of_mem _ (List.mem_append_right _ h)) (by decide +kernel))
set_option maxRecDepth 20000 in
theorem gX18_distance_X18_far : GoodIn wsX18_distance (wsV RX18 471 RX18 yX18_far wsX18_far) := goodIn_app (goodIn_of _ (by decide +kernel)) ggX18_distance_X18_far
theorem dX18_distance_0 : decode cX18_distance 0 = .ok (.aload_n 0, 1) := by decide +kernel
theorem dX18_distance_1 : decode cX18_distance 1 = .ok (.aload_n 0, 1) := by decide +kernel
theorem dX18_distance_2 : decode cX18_distance 2 = .ok (.iload_n 1, 1) := by decide +kernel
theorem dX18_distance_3 : decode cX18_distance 3 = .ok (.invokevirtual 443, 3) := by decide +kernel
theorem dX18_distance_6 : decode cX18_distance 6 = .ok (.ifCond .eq 15, 3) := by decide +kernel
theorem dX18_distance_9 : decode cX18_distance 9 = .ok (.aload_n 0, 1) := by decide +kernel
theorem dX18_distance_10 : decode cX18_distance 10 = .ok (.iload_n 2, 1) := by decide +kernel
theorem dX18_distance_11 : decode cX18_distance 11 = .ok (.invokevirtual 443, 3) := by decide +kernel
theorem dX18_distance_14 : decode cX18_distance 14 = .ok (.ifCond .eq 7, 3) := by decide +kernel
theorem dX18_distance_17 : decode cX18_distance 17 = .ok (.iconst 0, 1) := by decide +kernel
theorem dX18_distance_18 : decode cX18_distance 18 = .ok (.goto 4, 3) := by decide +kernel
theorem dX18_distance_21 : decode cX18_distance 21 = .ok (.iconst 1, 1) := by decide +kernel
theorem dX18_distance_22 : decode cX18_distance 22 = .ok (.invokevirtual 84, 3) := by decide +kernel
theorem dX18_distance_25 : decode cX18_distance 25 = .ok (.ifCond .eq 7, 3) := by decide +kernel
theorem dX18_distance_28 : decode cX18_distance 28 = .ok (.iconst 0, 1) := by decide +kernel
theorem dX18_distance_29 : decode cX18_distance 29 = .ok (.goto 9, 3) := by decide +kernel
theorem dX18_distance_32 : decode cX18_distance 32 = .ok (.aload_n 0, 1) := by decide +kernel
theorem dX18_distance_33 : decode cX18_distance 33 = .ok (.iload_n 1, 1) := by decide +kernel
theorem dX18_distance_34 : decode cX18_distance 34 = .ok (.iload_n 2, 1) := by decide +kernel
theorem dX18_distance_35 : decode cX18_distance 35 = .ok (.invokevirtual 471, 3) := by decide +kernel
theorem dX18_distance_38 : decode cX18_distance 38 = .ok (.ireturn, 1) := by decide +kernel
theorem dX18_addQuarter_0 : decode cX18_addQuarter 0 = .ok (.aload_n 0, 1) := by decide +kernel
theorem dX18_addQuarter_1 : decode cX18_addQuarter 1 = .ok (.getfield 58, 3) := by decide +kernel
theorem dX18_addQuarter_4 : decode cX18_addQuarter 4 = .ok (.iload_n 1, 1) := by decide +kernel
theorem dX18_addQuarter_5 : decode cX18_addQuarter 5 = .ok (.iaload, 1) := by decide +kernel
theorem dX18_addQuarter_6 : decode cX18_addQuarter 6 = .ok (.bipush 8, 2) := by decide +kernel
theorem dX18_addQuarter_8 : decode cX18_addQuarter 8 = .ok (.if_icmp .ge 7, 3) := by decide +kernel
theorem dX18_addQuarter_11 : decode cX18_addQuarter 11 = .ok (.iconst 1, 1) := by decide +kernel
theorem dX18_addQuarter_12 : decode cX18_addQuarter 12 = .ok (.goto 4, 3) := by decide +kernel
theorem dX18_addQuarter_15 : decode cX18_addQuarter 15 = .ok (.iconst 0, 1) := by decide +kernel
theorem dX18_addQuarter_16 : decode cX18_addQuarter 16 = .ok (.istore 4, 2) := by decide +kernel
theorem dX18_addQuarter_18 : decode cX18_addQuarter 18 = .ok (.iconst 0, 1) := by decide +kernel
theorem dX18_addQuarter_19 : decode cX18_addQuarter 19 = .ok (.istore 5, 2) := by decide +kernel
theorem dX18_addQuarter_21 : decode cX18_addQuarter 21 = .ok (.iload 5, 2) := by decide +kernel
theorem dX18_addQuarter_23 : decode cX18_addQuarter 23 = .ok (.aload_n 0, 1) := by decide +kernel
theorem dX18_addQuarter_24 : decode cX18_addQuarter 24 = .ok (.getfield 58, 3) := by decide +kernel
theorem dX18_addQuarter_27 : decode cX18_addQuarter 27 = .ok (.iload_n 1, 1) := by decide +kernel
theorem dX18_addQuarter_28 : decode cX18_addQuarter 28 = .ok (.iaload, 1) := by decide +kernel
theorem dX18_addQuarter_29 : decode cX18_addQuarter 29 = .ok (.if_icmp .ge 37, 3) := by decide +kernel
theorem dX18_addQuarter_32 : decode cX18_addQuarter 32 = .ok (.iload 4, 2) := by decide +kernel
theorem dX18_addQuarter_34 : decode cX18_addQuarter 34 = .ok (.ifCond .eq 23, 3) := by decide +kernel
theorem dX18_addQuarter_37 : decode cX18_addQuarter 37 = .ok (.aload_n 0, 1) := by decide +kernel
theorem dX18_addQuarter_38 : decode cX18_addQuarter 38 = .ok (.getfield 61, 3) := by decide +kernel
theorem dX18_addQuarter_41 : decode cX18_addQuarter 41 = .ok (.bipush 8, 2) := by decide +kernel
theorem dX18_addQuarter_43 : decode cX18_addQuarter 43 = .ok (.iload_n 1, 1) := by decide +kernel
theorem dX18_addQuarter_44 : decode cX18_addQuarter 44 = .ok (.imul, 1) := by decide +kernel
theorem dX18_addQuarter_45 : decode cX18_addQuarter 45 = .ok (.iload 5, 2) := by decide +kernel
theorem dX18_addQuarter_47 : decode cX18_addQuarter 47 = .ok (.iadd, 1) := by decide +kernel
theorem dX18_addQuarter_48 : decode cX18_addQuarter 48 = .ok (.iaload, 1) := by decide +kernel
theorem dX18_addQuarter_49 : decode cX18_addQuarter 49 = .ok (.iload_n 2, 1) := by decide +kernel
theorem dX18_addQuarter_50 : decode cX18_addQuarter 50 = .ok (.if_icmp .eq 7, 3) := by decide +kernel
theorem dX18_addQuarter_53 : decode cX18_addQuarter 53 = .ok (.iconst 1, 1) := by decide +kernel
theorem dX18_addQuarter_54 : decode cX18_addQuarter 54 = .ok (.goto 4, 3) := by decide +kernel
theorem dX18_addQuarter_57 : decode cX18_addQuarter 57 = .ok (.iconst 0, 1) := by decide +kernel
theorem dX18_addQuarter_58 : decode cX18_addQuarter 58 = .ok (.istore 4, 2) := by decide +kernel
theorem dX18_addQuarter_60 : decode cX18_addQuarter 60 = .ok (.iinc 5 1, 3) := by decide +kernel
theorem dX18_addQuarter_63 : decode cX18_addQuarter 63 = .ok (.goto (-42), 3) := by decide +kernel
theorem dX18_addQuarter_66 : decode cX18_addQuarter 66 = .ok (.iload 4, 2) := by decide +kernel
theorem dX18_addQuarter_68 : decode cX18_addQuarter 68 = .ok (.ifCond .eq 47, 3) := by decide +kernel
theorem dX18_addQuarter_71 : decode cX18_addQuarter 71 = .ok (.aload_n 0, 1) := by decide +kernel
theorem dX18_addQuarter_72 : decode cX18_addQuarter 72 = .ok (.getfield 61, 3) := by decide +kernel
theorem dX18_addQuarter_75 : decode cX18_addQuarter 75 = .ok (.bipush 8, 2) := by decide +kernel
theorem dX18_addQuarter_77 : decode cX18_addQuarter 77 = .ok (.iload_n 1, 1) := by decide +kernel
theorem dX18_addQuarter_78 : decode cX18_addQuarter 78 = .ok (.imul, 1) := by decide +kernel
theorem dX18_addQuarter_79 : decode cX18_addQuarter 79 = .ok (.aload_n 0, 1) := by decide +kernel
theorem dX18_addQuarter_80 : decode cX18_addQuarter 80 = .ok (.getfield 58, 3) := by decide +kernel
theorem dX18_addQuarter_83 : decode cX18_addQuarter 83 = .ok (.iload_n 1, 1) := by decide +kernel
theorem dX18_addQuarter_84 : decode cX18_addQuarter 84 = .ok (.iaload, 1) := by decide +kernel
theorem dX18_addQuarter_85 : decode cX18_addQuarter 85 = .ok (.iadd, 1) := by decide +kernel
theorem dX18_addQuarter_86 : decode cX18_addQuarter 86 = .ok (.iload_n 2, 1) := by decide +kernel
theorem dX18_addQuarter_87 : decode cX18_addQuarter 87 = .ok (.iastore, 1) := by decide +kernel
theorem dX18_addQuarter_88 : decode cX18_addQuarter 88 = .ok (.aload_n 0, 1) := by decide +kernel
theorem dX18_addQuarter_89 : decode cX18_addQuarter 89 = .ok (.getfield 64, 3) := by decide +kernel
theorem dX18_addQuarter_92 : decode cX18_addQuarter 92 = .ok (.bipush 8, 2) := by decide +kernel
theorem dX18_addQuarter_94 : decode cX18_addQuarter 94 = .ok (.iload_n 1, 1) := by decide +kernel
theorem dX18_addQuarter_95 : decode cX18_addQuarter 95 = .ok (.imul, 1) := by decide +kernel
theorem dX18_addQuarter_96 : decode cX18_addQuarter 96 = .ok (.aload_n 0, 1) := by decide +kernel
theorem dX18_addQuarter_97 : decode cX18_addQuarter 97 = .ok (.getfield 58, 3) := by decide +kernel
theorem dX18_addQuarter_100 : decode cX18_addQuarter 100 = .ok (.iload_n 1, 1) := by decide +kernel
theorem dX18_addQuarter_101 : decode cX18_addQuarter 101 = .ok (.iaload, 1) := by decide +kernel
theorem dX18_addQuarter_102 : decode cX18_addQuarter 102 = .ok (.iadd, 1) := by decide +kernel
theorem dX18_addQuarter_103 : decode cX18_addQuarter 103 = .ok (.iload_n 3, 1) := by decide +kernel
theorem dX18_addQuarter_104 : decode cX18_addQuarter 104 = .ok (.iastore, 1) := by decide +kernel
theorem dX18_addQuarter_105 : decode cX18_addQuarter 105 = .ok (.aload_n 0, 1) := by decide +kernel
theorem dX18_addQuarter_106 : decode cX18_addQuarter 106 = .ok (.getfield 58, 3) := by decide +kernel
theorem dX18_addQuarter_109 : decode cX18_addQuarter 109 = .ok (.iload_n 1, 1) := by decide +kernel
theorem dX18_addQuarter_110 : decode cX18_addQuarter 110 = .ok (.dup2, 1) := by decide +kernel
theorem dX18_addQuarter_111 : decode cX18_addQuarter 111 = .ok (.iaload, 1) := by decide +kernel
theorem dX18_addQuarter_112 : decode cX18_addQuarter 112 = .ok (.iconst 1, 1) := by decide +kernel
theorem dX18_addQuarter_113 : decode cX18_addQuarter 113 = .ok (.iadd, 1) := by decide +kernel
theorem dX18_addQuarter_114 : decode cX18_addQuarter 114 = .ok (.iastore, 1) := by decide +kernel
theorem dX18_addQuarter_115 : decode cX18_addQuarter 115 = .ok (.return_, 1) := by decide +kernel
set_option maxRecDepth 20000 in
theorem ggX18_addAll_X18_addQuarter : GoodIn wsX18_addAll wsX18_addQuarter := goodIn_ca (goodIn_r _ [8, 1, 2, 3, 9, 10, 11, 12, 13, 14, 15, 16, 17, 18, 19, 20, 21, 22, 23, 24, 25, 26, 27, 28, 29, 30, 31, 32, 33, 34, 35, 36] (by decide +kernel) (by decide +kernel)) (goodIn_sub (fun _ h => List.mem_cons_of_mem _ (List.mem_append_right _ h)) (by decide +kernel))
set_option maxRecDepth 20000 in
theorem gX18_addAll_X18_addQuarter : GoodIn wsX18_addAll (wsV RX18 474 RX18 yX18_addQuarter wsX18_addQuarter) := goodIn_app (goodIn_of _ (by decide +kernel)) ggX18_addAll_X18_addQuarter
theorem dX18_addAll_0 : decode cX18_addAll 0 = .ok (.iconst 0, 1) := by decide +kernel
theorem dX18_addAll_1 : decode cX18_addAll 1 = .ok (.istore_n 3, 1) := by decide +kernel
theorem dX18_addAll_2 : decode cX18_addAll 2 = .ok (.iload_n 2, 1) := by decide +kernel
theorem dX18_addAll_3 : decode cX18_addAll 3 = .ok (.ifCond .lt 46, 3) := by decide +kernel
theorem dX18_addAll_6 : decode cX18_addAll 6 = .ok (.iload_n 3, 1) := by decide +kernel
theorem dX18_addAll_7 : decode cX18_addAll 7 = .ok (.aload_n 0, 1) := by decide +kernel
theorem dX18_addAll_8 : decode cX18_addAll 8 = .ok (.getfield 58, 3) := by decide +kernel
theorem dX18_addAll_11 : decode cX18_addAll 11 = .ok (.iload_n 2, 1) := by decide +kernel
theorem dX18_addAll_12 : decode cX18_addAll 12 = .ok (.iaload, 1) := by decide +kernel
theorem dX18_addAll_13 : decode cX18_addAll 13 = .ok (.if_icmp .ge 36, 3) := by decide +kernel
theorem dX18_addAll_16 : decode cX18_addAll 16 = .ok (.aload_n 0, 1) := by decide +kernel
theorem dX18_addAll_17 : decode cX18_addAll 17 = .ok (.iload_n 1, 1) := by decide +kernel
theorem dX18_addAll_18 : decode cX18_addAll 18 = .ok (.aload_n 0, 1) := by decide +kernel
theorem dX18_addAll_19 : decode cX18_addAll 19 = .ok (.getfield 61, 3) := by decide +kernel
theorem dX18_addAll_22 : decode cX18_addAll 22 = .ok (.bipush 8, 2) := by decide +kernel
theorem dX18_addAll_24 : decode cX18_addAll 24 = .ok (.iload_n 2, 1) := by decide +kernel
theorem dX18_addAll_25 : decode cX18_addAll 25 = .ok (.imul, 1) := by decide +kernel
theorem dX18_addAll_26 : decode cX18_addAll 26 = .ok (.iload_n 3, 1) := by decide +kernel
theorem dX18_addAll_27 : decode cX18_addAll 27 = .ok (.iadd, 1) := by decide +kernel
theorem dX18_addAll_28 : decode cX18_addAll 28 = .ok (.iaload, 1) := by decide +kernel
theorem dX18_addAll_29 : decode cX18_addAll 29 = .ok (.aload_n 0, 1) := by decide +kernel
theorem dX18_addAll_30 : decode cX18_addAll 30 = .ok (.getfield 64, 3) := by decide +kernel
theorem dX18_addAll_33 : decode cX18_addAll 33 = .ok (.bipush 8, 2) := by decide +kernel
theorem dX18_addAll_35 : decode cX18_addAll 35 = .ok (.iload_n 2, 1) := by decide +kernel
theorem dX18_addAll_36 : decode cX18_addAll 36 = .ok (.imul, 1) := by decide +kernel
theorem dX18_addAll_37 : decode cX18_addAll 37 = .ok (.iload_n 3, 1) := by decide +kernel
theorem dX18_addAll_38 : decode cX18_addAll 38 = .ok (.iadd, 1) := by decide +kernel
theorem dX18_addAll_39 : decode cX18_addAll 39 = .ok (.iaload, 1) := by decide +kernel
theorem dX18_addAll_40 : decode cX18_addAll 40 = .ok (.invokevirtual 474, 3) := by decide +kernel
theorem dX18_addAll_43 : decode cX18_addAll 43 = .ok (.iinc 3 1, 3) := by decide +kernel
theorem dX18_addAll_46 : decode cX18_addAll 46 = .ok (.goto (-44), 3) := by decide +kernel
theorem dX18_addAll_49 : decode cX18_addAll 49 = .ok (.return_, 1) := by decide +kernel
set_option maxRecDepth 20000 in
theorem ggX18_findQuarters_Jx4a65c_get_915e3 : GoodIn wsX18_findQuarters wsJx4a65c_get_915e3 := goodIn_r _ [8, 9, 10, 11, 12, 13, 14, 15, 16, 17, 18, 19, 20, 7, 21, 22, 170, 171, 172] (by decide +kernel) (by decide +kernel)
set_option maxRecDepth 20000 in
theorem gX18_findQuarters_Jx4a65c_get_915e3 : GoodIn wsX18_findQuarters (wsV RX18 294 RJx4a65c yJx4a65c_get_915e3 wsJx4a65c_get_915e3) := goodIn_app (goodIn_of _ (by decide +kernel)) ggX18_findQuarters_Jx4a65c_get_915e3
set_option maxRecDepth 20000 in
theorem ggX18_findQuarters_X18_bears : GoodIn wsX18_findQuarters wsX18_bears := goodIn_ca (goodIn_r _ [27, 28, 29, 30, 31, 32, 33, 1, 2, 34, 35, 36, 26, 37, 4, 5, 6, 7, 8, 9, 10, 11, 12, 13, 14, 15, 16, 17, 18, 19, 20, 21, 22, 38, 39, 40, 41, 42, 43, 44, 45, 46, 47, 48, 49, 50, 51, 52, 53, 54, 55, 56, 57, 58, 59, 60, 61, 62, 63, 64, 65, 66, 67, 68, 69, 70, 71, 72, 73, 74, 75, 76, 77, 78, 79, 80, 81, 82, 83, 84, 85, 86, 87, 88, 89, 90, 91, 92, 93, 94, 95, 96, 97, 98, 99, 100, 101, 102, 103, 23, 24, 25, 104, 105, 106, 107, 108, 109, 110, 155, 156, 157, 158, 159, 160, 161, 162, 163, 164, 165, 166, 167, 168, 169, 153, 154, 125, 126, 127, 128, 129, 130, 131, 132, 133, 134, 135, 136, 137, 138, 139, 140, 141, 142, 143, 144, 145, 146, 147, 148, 149, 150, 151, 152, 173, 174, 175, 176, 177, 178, 179, 180, 181, 182, 170, 171, 172, 183, 184, 185, 186] (by decide +kernel) (by decide +kernel)) (goodIn_sub (fun _ h => List.mem_cons_of_mem _ (List.mem_append_right _ h)) (by decide +kernel))
set_option maxRecDepth 20000 in
theorem gX18_findQuarters_X18_bears : GoodIn wsX18_findQuarters (wsV RX18 347 RX18 yX18_bears wsX18_bears) := goodIn_app (goodIn_of _ (by decide +kernel)) ggX18_findQuarters_X18_bears
set_option maxRecDepth 20000 in
theorem ggX18_findQuarters_X18_addQuarter : GoodIn wsX18_findQuarters wsX18_addQuarter := goodIn_ca (goodIn_r _ [114, 3, 115, 116, 125, 126, 127, 128, 129, 130, 131, 132, 133, 134, 135, 136, 137, 138, 139, 140, 141, 142, 143, 144, 145, 146, 147, 148, 149, 150, 151, 152] (by decide +kernel) (by decide +kernel)) (goodIn_sub (fun _ h => List.mem_cons_of_mem _ (List.mem_append_right _ h)) (by decide +kernel))
set_option maxRecDepth 20000 in
theorem gX18_findQuarters_X18_addQuarter : GoodIn wsX18_findQuarters (wsV RX18 474 RX18 yX18_addQuarter wsX18_addQuarter) := goodIn_app (goodIn_of _ (by decide +kernel)) ggX18_findQuarters_X18_addQuarter
set_option maxRecDepth 20000 in
theorem ggX18_findQuarters_X18_addAll : GoodIn wsX18_findQuarters wsX18_addAll := goodIn_ca (goodIn_r _ [120, 3, 115, 116, 111, 112, 113, 26, 114, 125, 126, 127, 128, 129, 130, 131, 132, 133, 134, 135, 136, 137, 138, 139, 140, 141, 142, 143, 144, 145, 146, 147, 148, 149, 150, 151, 152] (by decide +kernel) (by decide +kernel)) (goodIn_sub (fun _ h => List.mem_cons_of_mem _ (List.mem_append_right _ h)) (by decide +kernel))
set_option maxRecDepth 20000 in
theorem gX18_findQuarters_X18_addAll : GoodIn wsX18_findQuarters (wsV RX18 478 RX18 yX18_addAll wsX18_addAll) := goodIn_app (goodIn_of _ (by decide +kernel)) ggX18_findQuarters_X18_addAll
set_option maxRecDepth 20000 in
theorem ggX18_findQuarters_X18_heiress : GoodIn wsX18_findQuarters wsX18_heiress := goodIn_r _ [124, 1, 2, 4, 5, 6, 7, 8, 9, 10, 11, 12, 13, 14, 15, 16, 17, 18, 19, 20, 21, 22, 58, 59, 60, 26, 61, 62, 63, 64, 65, 66, 67, 68, 69, 70, 71, 72, 73, 46, 47, 74, 75, 76, 77, 78, 79, 80, 81, 82, 83, 84, 85, 86, 87, 88, 89, 90, 91, 92, 93, 94, 95, 155, 156, 157, 158, 159, 160, 161, 162, 163, 164, 165, 166, 167, 168, 169, 125, 126, 127, 128, 129, 130, 131, 132, 133, 134, 135, 136, 137, 138, 139, 140, 141, 142, 143, 144, 145, 146, 147, 148, 149, 150, 151, 152, 170, 171, 172, 183, 184, 185, 186] (by decide +kernel) (by decide +kernel)
set_option maxRecDepth 20000 in
theorem gX18_findQuarters_X18_heiress : GoodIn wsX18_findQuarters (wsV RX18 340 RX18 yX18_heiress wsX18_heiress) := goodIn_app (goodIn_of _ (by decide +kernel)) ggX18_findQuarters_X18_heiress
theorem dX18_findQuarters_0 : decode cX18_findQuarters 0 = .ok (.iconst 0, 1) := by decide +kernel
theorem dX18_findQuarters_1 : decode cX18_findQuarters 1 = .ok (.istore_n 2, 1) := by decide +kernel
theorem dX18_findQuarters_2 : decode cX18_findQuarters 2 = .ok (.iload_n 2, 1) := by decide +kernel
theorem dX18_findQuarters_3 : decode cX18_findQuarters 3 = .ok (.iload_n 1, 1) := by decide +kernel
theorem dX18_findQuarters_4 : decode cX18_findQuarters 4 = .ok (.if_icmp .gt 145, 3) := by decide +kernel
theorem dX18_findQuarters_7 : decode cX18_findQuarters 7 = .ok (.aload_n 0, 1) := by decide +kernel
theorem dX18_findQuarters_8 : decode cX18_findQuarters 8 = .ok (.getfield 16, 3) := by decide +kernel
theorem dX18_findQuarters_11 : decode cX18_findQuarters 11 = .ok (.iload_n 2, 1) := by decide +kernel
theorem dX18_findQuarters_12 : decode cX18_findQuarters 12 = .ok (.invokevirtual 294, 3) := by decide +kernel
theorem dX18_findQuarters_15 : decode cX18_findQuarters 15 = .ok (.checkcast 298, 3) := by decide +kernel
theorem dX18_findQuarters_18 : decode cX18_findQuarters 18 = .ok (.astore_n 3, 1) := by decide +kernel
theorem dX18_findQuarters_19 : decode cX18_findQuarters 19 = .ok (.aload_n 0, 1) := by decide +kernel
theorem dX18_findQuarters_20 : decode cX18_findQuarters 20 = .ok (.aload_n 3, 1) := by decide +kernel
theorem dX18_findQuarters_21 : decode cX18_findQuarters 21 = .ok (.invokevirtual 347, 3) := by decide +kernel
theorem dX18_findQuarters_24 : decode cX18_findQuarters 24 = .ok (.astore 4, 2) := by decide +kernel
theorem dX18_findQuarters_26 : decode cX18_findQuarters 26 = .ok (.aload_n 0, 1) := by decide +kernel
theorem dX18_findQuarters_27 : decode cX18_findQuarters 27 = .ok (.getfield 58, 3) := by decide +kernel
theorem dX18_findQuarters_30 : decode cX18_findQuarters 30 = .ok (.iload_n 2, 1) := by decide +kernel
theorem dX18_findQuarters_31 : decode cX18_findQuarters 31 = .ok (.iconst 0, 1) := by decide +kernel
theorem dX18_findQuarters_32 : decode cX18_findQuarters 32 = .ok (.iastore, 1) := by decide +kernel
theorem dX18_findQuarters_33 : decode cX18_findQuarters 33 = .ok (.aload 4, 2) := by decide +kernel
theorem dX18_findQuarters_35 : decode cX18_findQuarters 35 = .ok (.ifnull 108, 3) := by decide +kernel
theorem dX18_findQuarters_38 : decode cX18_findQuarters 38 = .ok (.aload_n 0, 1) := by decide +kernel
theorem dX18_findQuarters_39 : decode cX18_findQuarters 39 = .ok (.iload_n 2, 1) := by decide +kernel
theorem dX18_findQuarters_40 : decode cX18_findQuarters 40 = .ok (.aload 4, 2) := by decide +kernel
theorem dX18_findQuarters_42 : decode cX18_findQuarters 42 = .ok (.getfield 378, 3) := by decide +kernel
theorem dX18_findQuarters_45 : decode cX18_findQuarters 45 = .ok (.iload_n 2, 1) := by decide +kernel
theorem dX18_findQuarters_46 : decode cX18_findQuarters 46 = .ok (.invokevirtual 474, 3) := by decide +kernel
theorem dX18_findQuarters_49 : decode cX18_findQuarters 49 = .ok (.aload_n 0, 1) := by decide +kernel
theorem dX18_findQuarters_50 : decode cX18_findQuarters 50 = .ok (.iload_n 2, 1) := by decide +kernel
theorem dX18_findQuarters_51 : decode cX18_findQuarters 51 = .ok (.aload_n 3, 1) := by decide +kernel
theorem dX18_findQuarters_52 : decode cX18_findQuarters 52 = .ok (.getfield 310, 3) := by decide +kernel
theorem dX18_findQuarters_55 : decode cX18_findQuarters 55 = .ok (.invokevirtual 478, 3) := by decide +kernel
theorem dX18_findQuarters_58 : decode cX18_findQuarters 58 = .ok (.aload_n 3, 1) := by decide +kernel
theorem dX18_findQuarters_59 : decode cX18_findQuarters 59 = .ok (.getfield 482, 3) := by decide +kernel
theorem dX18_findQuarters_62 : decode cX18_findQuarters 62 = .ok (.ifCond .ge 7, 3) := by decide +kernel
theorem dX18_findQuarters_65 : decode cX18_findQuarters 65 = .ok (.aconst_null, 1) := by decide +kernel
theorem dX18_findQuarters_66 : decode cX18_findQuarters 66 = .ok (.goto 17, 3) := by decide +kernel
theorem dX18_findQuarters_69 : decode cX18_findQuarters 69 = .ok (.aload_n 0, 1) := by decide +kernel
theorem dX18_findQuarters_70 : decode cX18_findQuarters 70 = .ok (.getfield 16, 3) := by decide +kernel
theorem dX18_findQuarters_73 : decode cX18_findQuarters 73 = .ok (.aload_n 3, 1) := by decide +kernel
theorem dX18_findQuarters_74 : decode cX18_findQuarters 74 = .ok (.getfield 482, 3) := by decide +kernel
theorem dX18_findQuarters_77 : decode cX18_findQuarters 77 = .ok (.invokevirtual 294, 3) := by decide +kernel
theorem dX18_findQuarters_80 : decode cX18_findQuarters 80 = .ok (.checkcast 298, 3) := by decide +kernel
theorem dX18_findQuarters_83 : decode cX18_findQuarters 83 = .ok (.astore 5, 2) := by decide +kernel
theorem dX18_findQuarters_85 : decode cX18_findQuarters 85 = .ok (.aload 5, 2) := by decide +kernel
theorem dX18_findQuarters_87 : decode cX18_findQuarters 87 = .ok (.ifnull 35, 3) := by decide +kernel
theorem dX18_findQuarters_90 : decode cX18_findQuarters 90 = .ok (.aload 5, 2) := by decide +kernel
theorem dX18_findQuarters_92 : decode cX18_findQuarters 92 = .ok (.getfield 330, 3) := by decide +kernel
theorem dX18_findQuarters_95 : decode cX18_findQuarters 95 = .ok (.ifCond .eq 15, 3) := by decide +kernel
theorem dX18_findQuarters_98 : decode cX18_findQuarters 98 = .ok (.aload_n 0, 1) := by decide +kernel
theorem dX18_findQuarters_99 : decode cX18_findQuarters 99 = .ok (.aload 5, 2) := by decide +kernel
theorem dX18_findQuarters_101 : decode cX18_findQuarters 101 = .ok (.invokevirtual 340, 3) := by decide +kernel
theorem dX18_findQuarters_104 : decode cX18_findQuarters 104 = .ok (.ifCond .eq 18, 3) := by decide +kernel
theorem dX18_findQuarters_107 : decode cX18_findQuarters 107 = .ok (.goto 11, 3) := by decide +kernel
theorem dX18_findQuarters_110 : decode cX18_findQuarters 110 = .ok (.aload 5, 2) := by decide +kernel
theorem dX18_findQuarters_112 : decode cX18_findQuarters 112 = .ok (.getfield 355, 3) := by decide +kernel
theorem dX18_findQuarters_115 : decode cX18_findQuarters 115 = .ok (.ifCond .eq 7, 3) := by decide +kernel
theorem dX18_findQuarters_118 : decode cX18_findQuarters 118 = .ok (.iconst 1, 1) := by decide +kernel
theorem dX18_findQuarters_119 : decode cX18_findQuarters 119 = .ok (.goto 4, 3) := by decide +kernel
theorem dX18_findQuarters_122 : decode cX18_findQuarters 122 = .ok (.iconst 0, 1) := by decide +kernel
theorem dX18_findQuarters_123 : decode cX18_findQuarters 123 = .ok (.istore 6, 2) := by decide +kernel
theorem dX18_findQuarters_125 : decode cX18_findQuarters 125 = .ok (.aload_n 0, 1) := by decide +kernel
theorem dX18_findQuarters_126 : decode cX18_findQuarters 126 = .ok (.iload_n 2, 1) := by decide +kernel
theorem dX18_findQuarters_127 : decode cX18_findQuarters 127 = .ok (.iload 6, 2) := by decide +kernel
theorem dX18_findQuarters_129 : decode cX18_findQuarters 129 = .ok (.ifCond .eq 10, 3) := by decide +kernel
theorem dX18_findQuarters_132 : decode cX18_findQuarters 132 = .ok (.aload_n 3, 1) := by decide +kernel
theorem dX18_findQuarters_133 : decode cX18_findQuarters 133 = .ok (.getfield 482, 3) := by decide +kernel
theorem dX18_findQuarters_136 : decode cX18_findQuarters 136 = .ok (.goto 4, 3) := by decide +kernel
theorem dX18_findQuarters_139 : decode cX18_findQuarters 139 = .ok (.iconst (-1), 1) := by decide +kernel
theorem dX18_findQuarters_140 : decode cX18_findQuarters 140 = .ok (.invokevirtual 478, 3) := by decide +kernel
theorem dX18_findQuarters_143 : decode cX18_findQuarters 143 = .ok (.iinc 2 1, 3) := by decide +kernel
theorem dX18_findQuarters_146 : decode cX18_findQuarters 146 = .ok (.goto (-144), 3) := by decide +kernel
theorem dX18_findQuarters_149 : decode cX18_findQuarters 149 = .ok (.return_, 1) := by decide +kernel
set_option maxRecDepth 20000 in
theorem ggX18_quarters_X18_failsPerson : GoodIn wsX18_quarters wsX18_failsPerson := goodIn_r _ [6, 7, 8, 9, 5, 10, 11, 12, 13, 14, 15, 16, 17, 18, 19, 20, 21, 22, 23, 24, 25, 145, 146, 147, 148, 149, 150, 151, 152, 153, 154, 155, 156, 157, 158, 159, 160, 161, 162, 163, 164, 165, 166, 167, 168, 169, 170, 171, 172, 173, 174, 175] (by decide +kernel) (by decide +kernel)
set_option maxRecDepth 20000 in
theorem gX18_quarters_X18_failsPerson : GoodIn wsX18_quarters (wsV RX18 337 RX18 yX18_failsPerson wsX18_failsPerson) := goodIn_app (goodIn_of _ (by decide +kernel)) ggX18_quarters_X18_failsPerson
set_option maxRecDepth 20000 in
theorem ggX18_quarters_X18_findQuarters : GoodIn wsX18_quarters wsX18_findQuarters := goodIn_ca (goodIn_r _ [29, 11, 30, 1, 31, 32, 33, 15, 34, 17, 35, 36, 37, 38, 39, 40, 41, 42, 43, 44, 45, 46, 47, 48, 49, 50, 5, 51, 52, 53, 54, 55, 56, 57, 58, 59, 60, 61, 12, 13, 14, 16, 62, 63, 64, 65, 66, 67, 68, 69, 70, 71, 72, 73, 74, 75, 76, 77, 78, 79, 80, 81, 82, 83, 84, 85, 86, 87, 88, 89, 90, 91, 92, 93, 94, 95, 96, 97, 98, 99, 100, 101, 102, 103, 104, 105, 106, 107, 108, 109, 110, 111, 112, 113, 114, 115, 116, 117, 118, 119, 120, 121, 122, 123, 124, 125, 126, 127, 128, 129, 130, 131, 132, 133, 134, 135, 136, 137, 138, 139, 140, 141, 142, 143, 144, 145, 146, 147, 148, 149, 150, 151, 152, 153, 154, 155, 156, 157, 158, 159, 160, 161, 162, 163, 164, 165, 166, 167, 168, 169, 170, 171, 172, 176, 177, 178, 179, 180, 181, 182, 183, 184, 185, 186, 187, 188, 189, 190, 191, 192, 173, 174, 175, 193, 194, 195, 196, 197, 198, 199, 200, 201, 202, 203, 204, 205, 206] (by decide +kernel) (by decide +kernel)) (goodIn_sub (fun _ h => List.mem_cons_of_mem _ (List.mem_append_right _ h)) (by decide +kernel))
set_option maxRecDepth 20000 in
theorem gX18_quarters_X18_findQuarters : GoodIn wsX18_quarters (wsV RX18 485 RX18 yX18_findQuarters wsX18_findQuarters) := goodIn_app (goodIn_of _ (by decide +kernel)) ggX18_quarters_X18_findQuarters
theorem dX18_quarters_0 : decode cX18_quarters 0 = .ok (.aload_n 0, 1) := by decide +kernel
theorem dX18_quarters_1 : decode cX18_quarters 1 = .ok (.iload_n 1, 1) := by decide +kernel
theorem dX18_quarters_2 : decode cX18_quarters 2 = .ok (.invokevirtual 337, 3) := by decide +kernel
theorem dX18_quarters_5 : decode cX18_quarters 5 = .ok (.ifCond .eq 5, 3) := by decide +kernel
theorem dX18_quarters_8 : decode cX18_quarters 8 = .ok (.iconst 0, 1) := by decide +kernel
theorem dX18_quarters_9 : decode cX18_quarters 9 = .ok (.ireturn, 1) := by decide +kernel
theorem dX18_quarters_10 : decode cX18_quarters 10 = .ok (.aload_n 0, 1) := by decide +kernel
theorem dX18_quarters_11 : decode cX18_quarters 11 = .ok (.iload_n 1, 1) := by decide +kernel
theorem dX18_quarters_12 : decode cX18_quarters 12 = .ok (.invokevirtual 485, 3) := by decide +kernel
theorem dX18_quarters_15 : decode cX18_quarters 15 = .ok (.aload_n 0, 1) := by decide +kernel
theorem dX18_quarters_16 : decode cX18_quarters 16 = .ok (.getfield 58, 3) := by decide +kernel
theorem dX18_quarters_19 : decode cX18_quarters 19 = .ok (.iload_n 1, 1) := by decide +kernel
theorem dX18_quarters_20 : decode cX18_quarters 20 = .ok (.iaload, 1) := by decide +kernel
theorem dX18_quarters_21 : decode cX18_quarters 21 = .ok (.ireturn, 1) := by decide +kernel
set_option maxRecDepth 20000 in
theorem ggX18_failsQuarter_X18_failsPerson : GoodIn wsX18_failsQuarter wsX18_failsPerson := goodIn_r _ [6, 7, 8, 9, 5, 10, 11, 12, 13, 14, 15, 16, 17, 18, 19, 20, 21, 22, 23, 24, 25, 145, 146, 147, 148, 149, 150, 151, 152, 153, 154, 155, 156, 157, 158, 159, 160, 161, 162, 163, 164, 165, 166, 167, 168, 169, 170, 171, 172, 173, 174, 175] (by decide +kernel) (by decide +kernel)
set_option maxRecDepth 20000 in
theorem gX18_failsQuarter_X18_failsPerson : GoodIn wsX18_failsQuarter (wsV RX18 337 RX18 yX18_failsPerson wsX18_failsPerson) := goodIn_app (goodIn_of _ (by decide +kernel)) ggX18_failsQuarter_X18_failsPerson
set_option maxRecDepth 20000 in
theorem ggX18_failsQuarter_X18_findQuarters : GoodIn wsX18_failsQuarter wsX18_findQuarters := goodIn_ca (goodIn_r _ [29, 11, 30, 1, 31, 32, 33, 15, 34, 17, 35, 36, 37, 38, 39, 40, 41, 42, 43, 44, 45, 46, 47, 48, 49, 50, 5, 51, 52, 53, 54, 55, 56, 57, 58, 59, 60, 61, 12, 13, 14, 16, 62, 63, 64, 65, 66, 67, 68, 69, 70, 71, 72, 73, 74, 75, 76, 77, 78, 79, 80, 81, 82, 83, 84, 85, 86, 87, 88, 89, 90, 91, 92, 93, 94, 95, 96, 97, 98, 99, 100, 101, 102, 103, 104, 105, 106, 107, 108, 109, 110, 111, 112, 113, 114, 115, 116, 117, 118, 119, 120, 121, 122, 123, 124, 125, 126, 127, 128, 129, 130, 131, 132, 133, 134, 135, 136, 137, 138, 139, 140, 141, 142, 143, 144, 145, 146, 147, 148, 149, 150, 151, 152, 153, 154, 155, 156, 157, 158, 159, 160, 161, 162, 163, 164, 165, 166, 167, 168, 169, 170, 171, 172, 176, 177, 178, 179, 180, 181, 182, 183, 184, 185, 186, 187, 188, 189, 190, 191, 192, 173, 174, 175, 193, 194, 195, 196, 197, 198, 199, 200, 201, 202, 203, 204, 205, 206] (by decide +kernel) (by decide +kernel)) (goodIn_sub (fun _ h => List.mem_cons_of_mem _ (List.mem_append_right _ h)) (by decide +kernel))
set_option maxRecDepth 20000 in
theorem gX18_failsQuarter_X18_findQuarters : GoodIn wsX18_failsQuarter (wsV RX18 485 RX18 yX18_findQuarters wsX18_findQuarters) := goodIn_app (goodIn_of _ (by decide +kernel)) ggX18_failsQuarter_X18_findQuarters
set_option maxRecDepth 20000 in
theorem ggX18_failsQuarter_X18_in : GoodIn wsX18_failsQuarter wsX18_in := goodIn_r _ [20] (by decide +kernel) (by decide +kernel)
set_option maxRecDepth 20000 in
theorem gX18_failsQuarter_X18_in : GoodIn wsX18_failsQuarter (va_wsS RX18 77 yX18_in wsX18_in) := goodIn_app (goodIn_of _ (by decide +kernel)) ggX18_failsQuarter_X18_in
set_option maxRecDepth 20000 in
theorem ggX18_failsQuarter_X18_fails : GoodIn wsX18_failsQuarter wsX18_fails := goodIn_r _ [24, 25, 145, 146, 147, 148, 149, 150, 151, 152, 153, 154, 155, 156, 157, 158, 159, 160, 161, 162, 163, 164, 165, 166, 167, 168, 169, 170, 171, 172] (by decide +kernel) (by decide +kernel)
set_option maxRecDepth 20000 in
theorem gX18_failsQuarter_X18_fails : GoodIn wsX18_failsQuarter (wsV RX18 84 RX18 yX18_fails wsX18_fails) := goodIn_app (goodIn_of _ (by decide +kernel)) ggX18_failsQuarter_X18_fails
theorem dX18_failsQuarter_0 : decode cX18_failsQuarter 0 = .ok (.aload_n 0, 1) := by decide +kernel
theorem dX18_failsQuarter_1 : decode cX18_failsQuarter 1 = .ok (.iload_n 1, 1) := by decide +kernel
theorem dX18_failsQuarter_2 : decode cX18_failsQuarter 2 = .ok (.invokevirtual 337, 3) := by decide +kernel
theorem dX18_failsQuarter_5 : decode cX18_failsQuarter 5 = .ok (.ifCond .eq 5, 3) := by decide +kernel
theorem dX18_failsQuarter_8 : decode cX18_failsQuarter 8 = .ok (.iconst 1, 1) := by decide +kernel
theorem dX18_failsQuarter_9 : decode cX18_failsQuarter 9 = .ok (.ireturn, 1) := by decide +kernel
theorem dX18_failsQuarter_10 : decode cX18_failsQuarter 10 = .ok (.aload_n 0, 1) := by decide +kernel
theorem dX18_failsQuarter_11 : decode cX18_failsQuarter 11 = .ok (.iload_n 1, 1) := by decide +kernel
theorem dX18_failsQuarter_12 : decode cX18_failsQuarter 12 = .ok (.invokevirtual 485, 3) := by decide +kernel
theorem dX18_failsQuarter_15 : decode cX18_failsQuarter 15 = .ok (.aload_n 0, 1) := by decide +kernel
theorem dX18_failsQuarter_16 : decode cX18_failsQuarter 16 = .ok (.iload_n 2, 1) := by decide +kernel
theorem dX18_failsQuarter_17 : decode cX18_failsQuarter 17 = .ok (.iconst 0, 1) := by decide +kernel
theorem dX18_failsQuarter_18 : decode cX18_failsQuarter 18 = .ok (.aload_n 0, 1) := by decide +kernel
theorem dX18_failsQuarter_19 : decode cX18_failsQuarter 19 = .ok (.getfield 58, 3) := by decide +kernel
theorem dX18_failsQuarter_22 : decode cX18_failsQuarter 22 = .ok (.iload_n 1, 1) := by decide +kernel
theorem dX18_failsQuarter_23 : decode cX18_failsQuarter 23 = .ok (.iaload, 1) := by decide +kernel
theorem dX18_failsQuarter_24 : decode cX18_failsQuarter 24 = .ok (.iconst 1, 1) := by decide +kernel
theorem dX18_failsQuarter_25 : decode cX18_failsQuarter 25 = .ok (.isub, 1) := by decide +kernel
theorem dX18_failsQuarter_26 : decode cX18_failsQuarter 26 = .ok (.invokestatic 77, 3) := by decide +kernel
theorem dX18_failsQuarter_29 : decode cX18_failsQuarter 29 = .ok (.ifCond .eq 7, 3) := by decide +kernel
theorem dX18_failsQuarter_32 : decode cX18_failsQuarter 32 = .ok (.iconst 0, 1) := by decide +kernel
theorem dX18_failsQuarter_33 : decode cX18_failsQuarter 33 = .ok (.goto 4, 3) := by decide +kernel
theorem dX18_failsQuarter_36 : decode cX18_failsQuarter 36 = .ok (.iconst 2, 1) := by decide +kernel
theorem dX18_failsQuarter_37 : decode cX18_failsQuarter 37 = .ok (.invokevirtual 84, 3) := by decide +kernel
theorem dX18_failsQuarter_40 : decode cX18_failsQuarter 40 = .ok (.ireturn, 1) := by decide +kernel
set_option maxRecDepth 20000 in
theorem ggX18_quarter_X18_failsQuarter : GoodIn wsX18_quarter wsX18_failsQuarter := goodIn_ca (goodIn_r _ [6, 7, 8, 9, 10, 5, 11, 12, 13, 14, 15, 16, 17, 18, 19, 20, 21, 22, 23, 24, 25, 26, 27, 28, 29, 30, 31, 32, 33, 34, 35, 36, 37, 38, 39, 40, 41, 42, 43, 44, 45, 46, 47, 48, 49, 50, 51, 52, 53, 54, 55, 56, 57, 58, 59, 60, 61, 62, 63, 64, 65, 66, 67, 68, 69, 70, 71, 72, 73, 74, 75, 76, 77, 78, 79, 80, 81, 82, 83, 84, 85, 86, 87, 88, 89, 90, 91, 92, 93, 94, 95, 96, 97, 98, 99, 100, 101, 102, 103, 104, 105, 106, 107, 108, 109, 110, 111, 112, 113, 114, 115, 116, 117, 118, 119, 120, 121, 122, 123, 124, 125, 126, 127, 128, 129, 130, 131, 132, 133, 134, 135, 136, 137, 138, 139, 1, 140, 141, 142, 143, 144, 145, 146, 147, 148, 149, 150, 151, 152, 153, 154, 155, 156, 157, 158, 159, 160, 161, 162, 163, 164, 165, 166, 167, 168, 169, 170, 171, 172, 173, 174, 175, 176, 177, 178, 179, 180, 181, 182, 183, 184, 185, 186, 187, 188, 189, 190, 191, 192, 193, 194, 195, 196, 197, 198, 199, 200, 201, 202, 203, 204, 205, 206, 207, 208, 209, 210] (by decide +kernel) (by decide +kernel)) (goodIn_sub (fun _ h => List.mem_cons_of_mem _ (List.mem_append_right _ h)) (by decide +kernel))
set_option maxRecDepth 20000 in
theorem gX18_quarter_X18_failsQuarter : GoodIn wsX18_quarter (wsV RX18 488 RX18 yX18_failsQuarter wsX18_failsQuarter) := goodIn_app (goodIn_of _ (by decide +kernel)) ggX18_quarter_X18_failsQuarter
theorem dX18_quarter_0 : decode cX18_quarter 0 = .ok (.aload_n 0, 1) := by decide +kernel
theorem dX18_quarter_1 : decode cX18_quarter 1 = .ok (.iload_n 1, 1) := by decide +kernel
theorem dX18_quarter_2 : decode cX18_quarter 2 = .ok (.iload_n 2, 1) := by decide +kernel
theorem dX18_quarter_3 : decode cX18_quarter 3 = .ok (.invokevirtual 488, 3) := by decide +kernel
theorem dX18_quarter_6 : decode cX18_quarter 6 = .ok (.ifCond .eq 7, 3) := by decide +kernel
theorem dX18_quarter_9 : decode cX18_quarter 9 = .ok (.iconst 0, 1) := by decide +kernel
theorem dX18_quarter_10 : decode cX18_quarter 10 = .ok (.goto 14, 3) := by decide +kernel
theorem dX18_quarter_13 : decode cX18_quarter 13 = .ok (.aload_n 0, 1) := by decide +kernel
theorem dX18_quarter_14 : decode cX18_quarter 14 = .ok (.getfield 61, 3) := by decide +kernel
theorem dX18_quarter_17 : decode cX18_quarter 17 = .ok (.bipush 8, 2) := by decide +kernel
theorem dX18_quarter_19 : decode cX18_quarter 19 = .ok (.iload_n 1, 1) := by decide +kernel
theorem dX18_quarter_20 : decode cX18_quarter 20 = .ok (.imul, 1) := by decide +kernel
theorem dX18_quarter_21 : decode cX18_quarter 21 = .ok (.iload_n 2, 1) := by decide +kernel
theorem dX18_quarter_22 : decode cX18_quarter 22 = .ok (.iadd, 1) := by decide +kernel
theorem dX18_quarter_23 : decode cX18_quarter 23 = .ok (.iaload, 1) := by decide +kernel
theorem dX18_quarter_24 : decode cX18_quarter 24 = .ok (.ireturn, 1) := by decide +kernel
set_option maxRecDepth 20000 in
theorem ggX18_quarterBy_X18_failsQuarter : GoodIn wsX18_quarterBy wsX18_failsQuarter := goodIn_ca (goodIn_r _ [6, 7, 8, 9, 10, 5, 11, 12, 13, 14, 15, 16, 17, 18, 19, 20, 21, 22, 23, 24, 25, 26, 27, 28, 29, 30, 31, 32, 33, 34, 35, 36, 37, 38, 39, 40, 41, 42, 43, 44, 45, 46, 47, 48, 49, 50, 51, 52, 53, 54, 55, 56, 57, 58, 59, 60, 61, 62, 63, 64, 65, 66, 67, 68, 69, 70, 71, 72, 73, 74, 75, 76, 77, 78, 79, 80, 81, 82, 83, 84, 85, 86, 87, 88, 89, 90, 91, 92, 93, 94, 95, 96, 97, 98, 99, 100, 101, 102, 103, 104, 105, 106, 107, 108, 109, 110, 111, 112, 113, 114, 115, 116, 117, 118, 119, 120, 121, 122, 123, 124, 125, 126, 127, 128, 129, 130, 131, 132, 133, 134, 135, 136, 137, 138, 139, 140, 1, 141, 142, 143, 144, 145, 146, 147, 148, 149, 150, 151, 152, 153, 154, 155, 156, 157, 158, 159, 160, 161, 162, 163, 164, 165, 166, 167, 168, 169, 170, 171, 172, 173, 174, 175, 176, 177, 178, 179, 180, 181, 182, 183, 184, 185, 186, 187, 188, 189, 190, 191, 192, 193, 194, 195, 196, 197, 198, 199, 200, 201, 202, 203, 204, 205, 206, 207, 208, 209, 210] (by decide +kernel) (by decide +kernel)) (goodIn_sub (fun _ h => List.mem_cons_of_mem _ (List.mem_append_right _ h)) (by decide +kernel))
set_option maxRecDepth 20000 in
theorem gX18_quarterBy_X18_failsQuarter : GoodIn wsX18_quarterBy (wsV RX18 488 RX18 yX18_failsQuarter wsX18_failsQuarter) := goodIn_app (goodIn_of _ (by decide +kernel)) ggX18_quarterBy_X18_failsQuarter
theorem dX18_quarterBy_0 : decode cX18_quarterBy 0 = .ok (.aload_n 0, 1) := by decide +kernel
theorem dX18_quarterBy_1 : decode cX18_quarterBy 1 = .ok (.iload_n 1, 1) := by decide +kernel
theorem dX18_quarterBy_2 : decode cX18_quarterBy 2 = .ok (.iload_n 2, 1) := by decide +kernel
theorem dX18_quarterBy_3 : decode cX18_quarterBy 3 = .ok (.invokevirtual 488, 3) := by decide +kernel
theorem dX18_quarterBy_6 : decode cX18_quarterBy 6 = .ok (.ifCond .eq 7, 3) := by decide +kernel
theorem dX18_quarterBy_9 : decode cX18_quarterBy 9 = .ok (.iconst 0, 1) := by decide +kernel
theorem dX18_quarterBy_10 : decode cX18_quarterBy 10 = .ok (.goto 14, 3) := by decide +kernel
theorem dX18_quarterBy_13 : decode cX18_quarterBy 13 = .ok (.aload_n 0, 1) := by decide +kernel
theorem dX18_quarterBy_14 : decode cX18_quarterBy 14 = .ok (.getfield 64, 3) := by decide +kernel
theorem dX18_quarterBy_17 : decode cX18_quarterBy 17 = .ok (.bipush 8, 2) := by decide +kernel
theorem dX18_quarterBy_19 : decode cX18_quarterBy 19 = .ok (.iload_n 1, 1) := by decide +kernel
theorem dX18_quarterBy_20 : decode cX18_quarterBy 20 = .ok (.imul, 1) := by decide +kernel
theorem dX18_quarterBy_21 : decode cX18_quarterBy 21 = .ok (.iload_n 2, 1) := by decide +kernel
theorem dX18_quarterBy_22 : decode cX18_quarterBy 22 = .ok (.iadd, 1) := by decide +kernel
theorem dX18_quarterBy_23 : decode cX18_quarterBy 23 = .ok (.iaload, 1) := by decide +kernel
theorem dX18_quarterBy_24 : decode cX18_quarterBy 24 = .ok (.ireturn, 1) := by decide +kernel
set_option maxRecDepth 20000 in
theorem ggX18_drawShield_X18_findQuarters : GoodIn wsX18_drawShield wsX18_findQuarters := goodIn_ca (goodIn_r _ [12, 4, 5, 1, 13, 14, 15, 16, 17, 18, 19, 20, 21, 22, 23, 24, 25, 26, 27, 28, 29, 30, 31, 32, 33, 34, 11, 35, 36, 37, 38, 39, 40, 41, 42, 43, 44, 45, 46, 47, 48, 49, 50, 51, 52, 53, 54, 55, 56, 57, 58, 59, 60, 61, 62, 63, 64, 65, 66, 67, 68, 69, 70, 71, 72, 73, 74, 75, 76, 77, 78, 79, 80, 81, 82, 83, 84, 85, 86, 87, 88, 89, 90, 91, 92, 93, 94, 95, 96, 97, 98, 99, 100, 101, 102, 103, 104, 105, 106, 107, 108, 109, 110, 111, 112, 113, 114, 115, 116, 117, 118, 119, 120, 121, 122, 3, 2, 123, 124, 125, 126, 127, 128, 129, 130, 248, 249, 250, 251, 252, 253, 254, 255, 256, 257, 258, 259, 260, 261, 262, 263, 264, 265, 266, 267, 268, 269, 270, 271, 272, 273, 274, 275, 276, 277, 233, 234, 235, 236, 237, 238, 239, 240, 241, 242, 243, 244, 245, 246, 247, 278, 279, 280, 281, 282, 283, 284, 285, 286, 287, 288, 289, 290, 291, 292, 293, 294] (by decide +kernel) (by decide +kernel)) (goodIn_sub (fun _ h => List.mem_cons_of_mem _ (List.mem_append_right _ h)) (by decide +kernel))
set_option maxRecDepth 20000 in
theorem gX18_drawShield_X18_findQuarters : GoodIn wsX18_drawShield (wsV RX18 485 RX18 yX18_findQuarters wsX18_findQuarters) := goodIn_app (goodIn_of _ (by decide +kernel)) ggX18_drawShield_X18_findQuarters
set_option maxRecDepth 20000 in
theorem ggX18_drawShield_Jx4a65c_get_915e3 : GoodIn wsX18_drawShield wsJx4a65c_get_915e3 := goodIn_r _ [17, 18, 19, 20, 21, 22, 23, 24, 25, 26, 27, 28, 29, 16, 30, 31, 278, 279, 280] (by decide +kernel) (by decide +kernel)
set_option maxRecDepth 20000 in
theorem gX18_drawShield_Jx4a65c_get_915e3 : GoodIn wsX18_drawShield (wsV RX18 294 RJx4a65c yJx4a65c_get_915e3 wsJx4a65c_get_915e3) := goodIn_app (goodIn_of _ (by decide +kernel)) ggX18_drawShield_Jx4a65c_get_915e3
set_option maxRecDepth 20000 in
theorem ggX18_drawShield_X18_bears : GoodIn wsX18_drawShield wsX18_bears := goodIn_ca (goodIn_r _ [35, 36, 37, 38, 39, 40, 41, 4, 5, 42, 43, 44, 11, 45, 13, 14, 15, 16, 17, 18, 19, 20, 21, 22, 23, 24, 25, 26, 27, 28, 29, 30, 31, 46, 47, 48, 49, 50, 51, 52, 53, 54, 55, 56, 57, 58, 59, 60, 61, 62, 63, 64, 65, 66, 67, 68, 69, 70, 71, 72, 73, 74, 75, 76, 77, 78, 79, 80, 81, 82, 83, 84, 85, 86, 87, 88, 89, 90, 91, 92, 93, 94, 95, 96, 97, 98, 99, 100, 101, 102, 103, 104, 105, 106, 107, 108, 109, 110, 111, 32, 33, 34, 112, 113, 114, 115, 116, 117, 118, 233, 234, 235, 236, 237, 238, 239, 240, 241, 242, 243, 244, 245, 246, 247, 276, 277, 248, 249, 250, 251, 252, 253, 254, 255, 256, 257, 258, 259, 260, 261, 262, 263, 264, 265, 266, 267, 268, 269, 270, 271, 272, 273, 274, 275, 281, 282, 283, 284, 285, 286, 287, 288, 289, 290, 278, 279, 280, 291, 292, 293, 294] (by decide +kernel) (by decide +kernel)) (goodIn_sub (fun _ h => List.mem_cons_of_mem _ (List.mem_append_right _ h)) (by decide +kernel))
set_option maxRecDepth 20000 in
theorem gX18_drawShield_X18_bears : GoodIn wsX18_drawShield (wsV RX18 347 RX18 yX18_bears wsX18_bears) := goodIn_app (goodIn_of _ (by decide +kernel)) ggX18_drawShield_X18_bears
set_option maxRecDepth 20000 in
theorem ggX18_drawShield_X18_drawArms : GoodIn wsX18_drawShield wsX18_drawArms := goodIn_ca (goodIn_r _ [134, 36, 37, 135, 136, 137, 13, 14, 15, 16, 17, 18, 19, 20, 21, 22, 23, 24, 25, 26, 27, 28, 29, 30, 31, 138, 139, 140, 54, 55, 141, 142, 143, 144, 145, 146, 147, 148, 149, 150, 151, 152, 153, 154, 155, 156, 157, 158, 159, 160, 161, 162, 163, 164, 165, 166, 167, 168, 169, 170, 171, 172, 173, 174, 175, 176, 177, 178, 179, 180, 11, 181, 182, 183, 184, 185, 186, 187, 188, 189, 190, 191, 192, 193, 194, 195, 196, 197, 198, 199, 200, 201, 202, 203, 204, 205, 206, 207, 208, 209, 210, 211, 212, 213, 214, 215, 216, 217, 218, 219, 220, 221, 222, 223, 224, 225, 226, 227, 228, 229, 248, 249, 250, 251, 252, 253, 254, 255, 256, 257, 258, 259, 260, 261, 262, 263, 264, 265, 266, 267, 268, 269, 270, 271, 272, 273, 274, 275, 295, 296, 297, 298, 299, 300, 281, 282, 283, 284, 285, 286, 287, 288, 289, 290, 278, 279, 280, 301, 302, 303, 304, 305, 306, 307, 308, 309, 310, 311, 312, 313, 314, 315] (by decide +kernel) (by decide +kernel)) (goodIn_sub (fun _ h => List.mem_cons_of_mem _ (List.mem_append_right _ h)) (by decide +kernel))
set_option maxRecDepth 20000 in
theorem gX18_drawShield_X18_drawArms : GoodIn wsX18_drawShield (wsV RX18 422 RX18 yX18_drawArms wsX18_drawArms) := goodIn_app (goodIn_of _ (by decide +kernel)) ggX18_drawShield_X18_drawArms
set_option maxRecDepth 20000 in
theorem ggX18_drawShield_X18_drawShield : GoodIn wsX18_drawShield wsX18_drawShield := goodIn_ca (goodIn_r _ [0, 1, 2, 3, 4, 5, 6, 7, 8, 9, 10, 11, 12, 13, 14, 15, 16, 17, 18, 19, 20, 21, 22, 23, 24, 25, 26, 27, 28, 29, 30, 31, 32, 33, 34, 35, 36, 37, 38, 39, 40, 41, 42, 43, 44, 45, 46, 47, 48, 49, 50, 51, 52, 53, 54, 55, 56, 57, 58, 59, 60, 61, 62, 63, 64, 65, 66, 67, 68, 69, 70, 71, 72, 73, 74, 75, 76, 77, 78, 79, 80, 81, 82, 83, 84, 85, 86, 87, 88, 89, 90, 91, 92, 93, 94, 95, 96, 97, 98, 99, 100, 101, 102, 103, 104, 105, 106, 107, 108, 109, 110, 111, 112, 113, 114, 115, 116, 117, 118, 119, 120, 121, 122, 123, 124, 125, 126, 127, 128, 129, 130, 131, 132, 133, 134, 135, 136, 137, 138, 139, 140, 141, 142, 143, 144, 145, 146, 147, 148, 149, 150, 151, 152, 153, 154, 155, 156, 157, 158, 159, 160, 161, 162, 163, 164, 165, 166, 167, 168, 169, 170, 171, 172, 173, 174, 175, 176, 177, 178, 179, 180, 181, 182, 183, 184, 185, 186, 187, 188, 189, 190, 191, 192, 193, 194, 195, 196, 197, 198, 199, 200, 201, 202, 203, 204, 205, 206, 207, 208, 209, 210, 211, 212, 213, 214, 215, 216, 217, 218, 219, 220, 221, 222, 223, 224, 225, 226, 227, 228, 229, 230, 231, 232, 233, 234, 235, 236, 237, 238, 239, 240, 241, 242, 243, 244, 245, 246, 247, 248, 249, 250, 251, 252, 253, 254, 255, 256, 257, 258, 259, 260, 261, 262, 263, 264, 265, 266, 267, 268, 269, 270, 271, 272, 273, 274, 275, 276, 277, 278, 279, 280, 281, 282, 283, 284, 285, 286, 287, 288, 289, 290, 291, 292, 293, 294, 295, 296, 297, 298, 299, 300, 301, 302, 303, 304, 305, 306, 307, 308, 309, 310, 311, 312, 313, 314, 315] (by decide +kernel) (by decide +kernel)) (goodIn_sub (fun _ h => List.mem_cons_of_mem _ (List.mem_append_right _ h)) (by decide +kernel))
set_option maxRecDepth 20000 in
theorem gX18_drawShield_X18_drawShield : GoodIn wsX18_drawShield (wsV RX18 491 RX18 yX18_drawShield wsX18_drawShield) := goodIn_app (goodIn_of _ (by decide +kernel)) ggX18_drawShield_X18_drawShield
set_option maxRecDepth 20000 in
theorem ggX18_drawShield_X18_heiress : GoodIn wsX18_drawShield wsX18_heiress := goodIn_r _ [130, 4, 5, 13, 14, 15, 16, 17, 18, 19, 20, 21, 22, 23, 24, 25, 26, 27, 28, 29, 30, 31, 66, 67, 68, 11, 69, 70, 71, 72, 73, 74, 75, 76, 77, 78, 79, 80, 81, 54, 55, 82, 83, 84, 85, 86, 87, 88, 89, 90, 91, 92, 93, 94, 95, 96, 97, 98, 99, 100, 101, 102, 103, 233, 234, 235, 236, 237, 238, 239, 240, 241, 242, 243, 244, 245, 246, 247, 248, 249, 250, 251, 252, 253, 254, 255, 256, 257, 258, 259, 260, 261, 262, 263, 264, 265, 266, 267, 268, 269, 270, 271, 272, 273, 274, 275, 278, 279, 280, 291, 292, 293, 294] (by decide +kernel) (by decide +kernel)
set_option maxRecDepth 20000 in
theorem gX18_drawShield_X18_heiress : GoodIn wsX18_drawShield (wsV RX18 340 RX18 yX18_heiress wsX18_heiress) := goodIn_app (goodIn_of _ (by decide +kernel)) ggX18_drawShield_X18_heiress
set_option maxRecDepth 20000 in
theorem ggX18_drawShield_X18_in : GoodIn wsX18_drawShield wsX18_in := goodIn_r _ [210] (by decide +kernel) (by decide +kernel)
set_option maxRecDepth 20000 in
theorem gX18_drawShield_X18_in : GoodIn wsX18_drawShield (va_wsS RX18 77 yX18_in wsX18_in) := goodIn_app (goodIn_of _ (by decide +kernel)) ggX18_drawShield_X18_in
theorem dX18_drawShield_0 : decode cX18_drawShield 0 = .ok (.aload_n 0, 1) := by decide +kernel
theorem dX18_drawShield_1 : decode cX18_drawShield 1 = .ok (.aload_n 1, 1) := by decide +kernel
theorem dX18_drawShield_2 : decode cX18_drawShield 2 = .ok (.getfield 333, 3) := by decide +kernel
theorem dX18_drawShield_5 : decode cX18_drawShield 5 = .ok (.invokevirtual 485, 3) := by decide +kernel
theorem dX18_drawShield_8 : decode cX18_drawShield 8 = .ok (.aload_n 0, 1) := by decide +kernel
theorem dX18_drawShield_9 : decode cX18_drawShield 9 = .ok (.getfield 58, 3) := by decide +kernel
theorem dX18_drawShield_12 : decode cX18_drawShield 12 = .ok (.aload_n 1, 1) := by decide +kernel
theorem dX18_drawShield_13 : decode cX18_drawShield 13 = .ok (.getfield 333, 3) := by decide +kernel
theorem dX18_drawShield_16 : decode cX18_drawShield 16 = .ok (.iaload, 1) := by decide +kernel
theorem dX18_drawShield_17 : decode cX18_drawShield 17 = .ok (.istore_n 3, 1) := by decide +kernel
theorem dX18_drawShield_18 : decode cX18_drawShield 18 = .ok (.iconst 0, 1) := by decide +kernel
theorem dX18_drawShield_19 : decode cX18_drawShield 19 = .ok (.istore 4, 2) := by decide +kernel
theorem dX18_drawShield_21 : decode cX18_drawShield 21 = .ok (.iload 4, 2) := by decide +kernel
theorem dX18_drawShield_23 : decode cX18_drawShield 23 = .ok (.iload_n 3, 1) := by decide +kernel
theorem dX18_drawShield_24 : decode cX18_drawShield 24 = .ok (.if_icmp .ge 234, 3) := by decide +kernel
theorem dX18_drawShield_27 : decode cX18_drawShield 27 = .ok (.iload 4, 2) := by decide +kernel
theorem dX18_drawShield_29 : decode cX18_drawShield 29 = .ok (.iconst 4, 1) := by decide +kernel
theorem dX18_drawShield_30 : decode cX18_drawShield 30 = .ok (.if_icmp .ge 228, 3) := by decide +kernel
theorem dX18_drawShield_33 : decode cX18_drawShield 33 = .ok (.aload_n 0, 1) := by decide +kernel
theorem dX18_drawShield_34 : decode cX18_drawShield 34 = .ok (.getfield 64, 3) := by decide +kernel
theorem dX18_drawShield_37 : decode cX18_drawShield 37 = .ok (.bipush 8, 2) := by decide +kernel
theorem dX18_drawShield_39 : decode cX18_drawShield 39 = .ok (.aload_n 1, 1) := by decide +kernel
theorem dX18_drawShield_40 : decode cX18_drawShield 40 = .ok (.getfield 333, 3) := by decide +kernel
theorem dX18_drawShield_43 : decode cX18_drawShield 43 = .ok (.imul, 1) := by decide +kernel
theorem dX18_drawShield_44 : decode cX18_drawShield 44 = .ok (.iload 4, 2) := by decide +kernel
theorem dX18_drawShield_46 : decode cX18_drawShield 46 = .ok (.iadd, 1) := by decide +kernel
theorem dX18_drawShield_47 : decode cX18_drawShield 47 = .ok (.iaload, 1) := by decide +kernel
theorem dX18_drawShield_48 : decode cX18_drawShield 48 = .ok (.istore 5, 2) := by decide +kernel
theorem dX18_drawShield_50 : decode cX18_drawShield 50 = .ok (.aload_n 0, 1) := by decide +kernel
theorem dX18_drawShield_51 : decode cX18_drawShield 51 = .ok (.aload_n 0, 1) := by decide +kernel
theorem dX18_drawShield_52 : decode cX18_drawShield 52 = .ok (.getfield 61, 3) := by decide +kernel
theorem dX18_drawShield_55 : decode cX18_drawShield 55 = .ok (.bipush 8, 2) := by decide +kernel
theorem dX18_drawShield_57 : decode cX18_drawShield 57 = .ok (.aload_n 1, 1) := by decide +kernel
theorem dX18_drawShield_58 : decode cX18_drawShield 58 = .ok (.getfield 333, 3) := by decide +kernel
theorem dX18_drawShield_61 : decode cX18_drawShield 61 = .ok (.imul, 1) := by decide +kernel
theorem dX18_drawShield_62 : decode cX18_drawShield 62 = .ok (.iload 4, 2) := by decide +kernel
theorem dX18_drawShield_64 : decode cX18_drawShield 64 = .ok (.iadd, 1) := by decide +kernel
theorem dX18_drawShield_65 : decode cX18_drawShield 65 = .ok (.iaload, 1) := by decide +kernel
theorem dX18_drawShield_66 : decode cX18_drawShield 66 = .ok (.aload_n 0, 1) := by decide +kernel
theorem dX18_drawShield_67 : decode cX18_drawShield 67 = .ok (.aload_n 0, 1) := by decide +kernel
theorem dX18_drawShield_68 : decode cX18_drawShield 68 = .ok (.getfield 16, 3) := by decide +kernel
theorem dX18_drawShield_71 : decode cX18_drawShield 71 = .ok (.iload 5, 2) := by decide +kernel
theorem dX18_drawShield_73 : decode cX18_drawShield 73 = .ok (.invokevirtual 294, 3) := by decide +kernel
theorem dX18_drawShield_76 : decode cX18_drawShield 76 = .ok (.checkcast 298, 3) := by decide +kernel
theorem dX18_drawShield_79 : decode cX18_drawShield 79 = .ok (.invokevirtual 347, 3) := by decide +kernel
theorem dX18_drawShield_82 : decode cX18_drawShield 82 = .ok (.getfield 395, 3) := by decide +kernel
theorem dX18_drawShield_85 : decode cX18_drawShield 85 = .ok (.aload_n 0, 1) := by decide +kernel
theorem dX18_drawShield_86 : decode cX18_drawShield 86 = .ok (.getfield 40, 3) := by decide +kernel
theorem dX18_drawShield_89 : decode cX18_drawShield 89 = .ok (.invokevirtual 422, 3) := by decide +kernel
theorem dX18_drawShield_92 : decode cX18_drawShield 92 = .ok (.iconst 0, 1) := by decide +kernel
theorem dX18_drawShield_93 : decode cX18_drawShield 93 = .ok (.istore 6, 2) := by decide +kernel
theorem dX18_drawShield_95 : decode cX18_drawShield 95 = .ok (.iload 6, 2) := by decide +kernel
theorem dX18_drawShield_97 : decode cX18_drawShield 97 = .ok (.sipush 256, 3) := by decide +kernel
theorem dX18_drawShield_100 : decode cX18_drawShield 100 = .ok (.if_icmp .ge 152, 3) := by decide +kernel
theorem dX18_drawShield_103 : decode cX18_drawShield 103 = .ok (.iload 6, 2) := by decide +kernel
theorem dX18_drawShield_105 : decode cX18_drawShield 105 = .ok (.bipush 16, 2) := by decide +kernel
theorem dX18_drawShield_107 : decode cX18_drawShield 107 = .ok (.irem, 1) := by decide +kernel
theorem dX18_drawShield_108 : decode cX18_drawShield 108 = .ok (.istore 7, 2) := by decide +kernel
theorem dX18_drawShield_110 : decode cX18_drawShield 110 = .ok (.iload 6, 2) := by decide +kernel
theorem dX18_drawShield_112 : decode cX18_drawShield 112 = .ok (.bipush 16, 2) := by decide +kernel
theorem dX18_drawShield_114 : decode cX18_drawShield 114 = .ok (.idiv, 1) := by decide +kernel
theorem dX18_drawShield_115 : decode cX18_drawShield 115 = .ok (.istore 8, 2) := by decide +kernel
theorem dX18_drawShield_117 : decode cX18_drawShield 117 = .ok (.iload 7, 2) := by decide +kernel
theorem dX18_drawShield_119 : decode cX18_drawShield 119 = .ok (.bipush 8, 2) := by decide +kernel
theorem dX18_drawShield_121 : decode cX18_drawShield 121 = .ok (.if_icmp .lt 7, 3) := by decide +kernel
theorem dX18_drawShield_124 : decode cX18_drawShield 124 = .ok (.iconst 1, 1) := by decide +kernel
theorem dX18_drawShield_125 : decode cX18_drawShield 125 = .ok (.goto 4, 3) := by decide +kernel
theorem dX18_drawShield_128 : decode cX18_drawShield 128 = .ok (.iconst 0, 1) := by decide +kernel
theorem dX18_drawShield_129 : decode cX18_drawShield 129 = .ok (.iload 8, 2) := by decide +kernel
theorem dX18_drawShield_131 : decode cX18_drawShield 131 = .ok (.bipush 8, 2) := by decide +kernel
theorem dX18_drawShield_133 : decode cX18_drawShield 133 = .ok (.if_icmp .lt 7, 3) := by decide +kernel
theorem dX18_drawShield_136 : decode cX18_drawShield 136 = .ok (.iconst 2, 1) := by decide +kernel
theorem dX18_drawShield_137 : decode cX18_drawShield 137 = .ok (.goto 4, 3) := by decide +kernel
theorem dX18_drawShield_140 : decode cX18_drawShield 140 = .ok (.iconst 0, 1) := by decide +kernel
theorem dX18_drawShield_141 : decode cX18_drawShield 141 = .ok (.iadd, 1) := by decide +kernel
theorem dX18_drawShield_142 : decode cX18_drawShield 142 = .ok (.istore 9, 2) := by decide +kernel
theorem dX18_drawShield_144 : decode cX18_drawShield 144 = .ok (.iload_n 3, 1) := by decide +kernel
theorem dX18_drawShield_145 : decode cX18_drawShield 145 = .ok (.iconst 1, 1) := by decide +kernel
theorem dX18_drawShield_146 : decode cX18_drawShield 146 = .ok (.if_icmp .ne 7, 3) := by decide +kernel
theorem dX18_drawShield_149 : decode cX18_drawShield 149 = .ok (.iconst 0, 1) := by decide +kernel
theorem dX18_drawShield_150 : decode cX18_drawShield 150 = .ok (.goto 45, 3) := by decide +kernel
theorem dX18_drawShield_153 : decode cX18_drawShield 153 = .ok (.iload_n 3, 1) := by decide +kernel
theorem dX18_drawShield_154 : decode cX18_drawShield 154 = .ok (.iconst 2, 1) := by decide +kernel
theorem dX18_drawShield_155 : decode cX18_drawShield 155 = .ok (.if_icmp .ne 23, 3) := by decide +kernel
theorem dX18_drawShield_158 : decode cX18_drawShield 158 = .ok (.iload 9, 2) := by decide +kernel
theorem dX18_drawShield_160 : decode cX18_drawShield 160 = .ok (.iconst 1, 1) := by decide +kernel
theorem dX18_drawShield_161 : decode cX18_drawShield 161 = .ok (.if_icmp .eq 9, 3) := by decide +kernel
theorem dX18_drawShield_164 : decode cX18_drawShield 164 = .ok (.iload 9, 2) := by decide +kernel
theorem dX18_drawShield_166 : decode cX18_drawShield 166 = .ok (.iconst 2, 1) := by decide +kernel
theorem dX18_drawShield_167 : decode cX18_drawShield 167 = .ok (.if_icmp .ne 7, 3) := by decide +kernel
theorem dX18_drawShield_170 : decode cX18_drawShield 170 = .ok (.iconst 1, 1) := by decide +kernel
theorem dX18_drawShield_171 : decode cX18_drawShield 171 = .ok (.goto 24, 3) := by decide +kernel
theorem dX18_drawShield_174 : decode cX18_drawShield 174 = .ok (.iconst 0, 1) := by decide +kernel
theorem dX18_drawShield_175 : decode cX18_drawShield 175 = .ok (.goto 20, 3) := by decide +kernel
theorem dX18_drawShield_178 : decode cX18_drawShield 178 = .ok (.iload_n 3, 1) := by decide +kernel
theorem dX18_drawShield_179 : decode cX18_drawShield 179 = .ok (.iconst 3, 1) := by decide +kernel
theorem dX18_drawShield_180 : decode cX18_drawShield 180 = .ok (.if_icmp .ne 13, 3) := by decide +kernel
theorem dX18_drawShield_183 : decode cX18_drawShield 183 = .ok (.iload 9, 2) := by decide +kernel
theorem dX18_drawShield_185 : decode cX18_drawShield 185 = .ok (.iconst 3, 1) := by decide +kernel
theorem dX18_drawShield_186 : decode cX18_drawShield 186 = .ok (.if_icmp .ne 7, 3) := by decide +kernel
theorem dX18_drawShield_189 : decode cX18_drawShield 189 = .ok (.iconst 0, 1) := by decide +kernel
theorem dX18_drawShield_190 : decode cX18_drawShield 190 = .ok (.goto 5, 3) := by decide +kernel
theorem dX18_drawShield_193 : decode cX18_drawShield 193 = .ok (.iload 9, 2) := by decide +kernel
theorem dX18_drawShield_195 : decode cX18_drawShield 195 = .ok (.istore 10, 2) := by decide +kernel
theorem dX18_drawShield_197 : decode cX18_drawShield 197 = .ok (.iload 10, 2) := by decide +kernel
theorem dX18_drawShield_199 : decode cX18_drawShield 199 = .ok (.iload 4, 2) := by decide +kernel
theorem dX18_drawShield_201 : decode cX18_drawShield 201 = .ok (.if_icmp .ne 45, 3) := by decide +kernel
theorem dX18_drawShield_204 : decode cX18_drawShield 204 = .ok (.aload_n 2, 1) := by decide +kernel
theorem dX18_drawShield_205 : decode cX18_drawShield 205 = .ok (.iload 6, 2) := by decide +kernel
theorem dX18_drawShield_207 : decode cX18_drawShield 207 = .ok (.iload_n 3, 1) := by decide +kernel
theorem dX18_drawShield_208 : decode cX18_drawShield 208 = .ok (.iconst 1, 1) := by decide +kernel
theorem dX18_drawShield_209 : decode cX18_drawShield 209 = .ok (.if_icmp .ne 13, 3) := by decide +kernel
theorem dX18_drawShield_212 : decode cX18_drawShield 212 = .ok (.aload_n 0, 1) := by decide +kernel
theorem dX18_drawShield_213 : decode cX18_drawShield 213 = .ok (.getfield 40, 3) := by decide +kernel
theorem dX18_drawShield_216 : decode cX18_drawShield 216 = .ok (.iload 6, 2) := by decide +kernel
theorem dX18_drawShield_218 : decode cX18_drawShield 218 = .ok (.iaload, 1) := by decide +kernel
theorem dX18_drawShield_219 : decode cX18_drawShield 219 = .ok (.goto 26, 3) := by decide +kernel
theorem dX18_drawShield_222 : decode cX18_drawShield 222 = .ok (.aload_n 0, 1) := by decide +kernel
theorem dX18_drawShield_223 : decode cX18_drawShield 223 = .ok (.getfield 40, 3) := by decide +kernel
theorem dX18_drawShield_226 : decode cX18_drawShield 226 = .ok (.bipush 16, 2) := by decide +kernel
theorem dX18_drawShield_228 : decode cX18_drawShield 228 = .ok (.iconst 2, 1) := by decide +kernel
theorem dX18_drawShield_229 : decode cX18_drawShield 229 = .ok (.iload 8, 2) := by decide +kernel
theorem dX18_drawShield_231 : decode cX18_drawShield 231 = .ok (.bipush 8, 2) := by decide +kernel
theorem dX18_drawShield_233 : decode cX18_drawShield 233 = .ok (.irem, 1) := by decide +kernel
theorem dX18_drawShield_234 : decode cX18_drawShield 234 = .ok (.imul, 1) := by decide +kernel
theorem dX18_drawShield_235 : decode cX18_drawShield 235 = .ok (.imul, 1) := by decide +kernel
theorem dX18_drawShield_236 : decode cX18_drawShield 236 = .ok (.iconst 2, 1) := by decide +kernel
theorem dX18_drawShield_237 : decode cX18_drawShield 237 = .ok (.iload 7, 2) := by decide +kernel
theorem dX18_drawShield_239 : decode cX18_drawShield 239 = .ok (.bipush 8, 2) := by decide +kernel
theorem dX18_drawShield_241 : decode cX18_drawShield 241 = .ok (.irem, 1) := by decide +kernel
theorem dX18_drawShield_242 : decode cX18_drawShield 242 = .ok (.imul, 1) := by decide +kernel
theorem dX18_drawShield_243 : decode cX18_drawShield 243 = .ok (.iadd, 1) := by decide +kernel
theorem dX18_drawShield_244 : decode cX18_drawShield 244 = .ok (.iaload, 1) := by decide +kernel
theorem dX18_drawShield_245 : decode cX18_drawShield 245 = .ok (.iastore, 1) := by decide +kernel
theorem dX18_drawShield_246 : decode cX18_drawShield 246 = .ok (.iinc 6 1, 3) := by decide +kernel
theorem dX18_drawShield_249 : decode cX18_drawShield 249 = .ok (.goto (-154), 3) := by decide +kernel
theorem dX18_drawShield_252 : decode cX18_drawShield 252 = .ok (.iinc 4 1, 3) := by decide +kernel
theorem dX18_drawShield_255 : decode cX18_drawShield 255 = .ok (.goto (-234), 3) := by decide +kernel
theorem dX18_drawShield_258 : decode cX18_drawShield 258 = .ok (.aload_n 1, 1) := by decide +kernel
theorem dX18_drawShield_259 : decode cX18_drawShield 259 = .ok (.getfield 300, 3) := by decide +kernel
theorem dX18_drawShield_262 : decode cX18_drawShield 262 = .ok (.ifCond .eq 27, 3) := by decide +kernel
theorem dX18_drawShield_265 : decode cX18_drawShield 265 = .ok (.aload_n 1, 1) := by decide +kernel
theorem dX18_drawShield_266 : decode cX18_drawShield 266 = .ok (.getfield 344, 3) := by decide +kernel
theorem dX18_drawShield_269 : decode cX18_drawShield 269 = .ok (.ifCond .lt 20, 3) := by decide +kernel
theorem dX18_drawShield_272 : decode cX18_drawShield 272 = .ok (.aload_n 0, 1) := by decide +kernel
theorem dX18_drawShield_273 : decode cX18_drawShield 273 = .ok (.getfield 16, 3) := by decide +kernel
theorem dX18_drawShield_276 : decode cX18_drawShield 276 = .ok (.aload_n 1, 1) := by decide +kernel
theorem dX18_drawShield_277 : decode cX18_drawShield 277 = .ok (.getfield 344, 3) := by decide +kernel
theorem dX18_drawShield_280 : decode cX18_drawShield 280 = .ok (.invokevirtual 294, 3) := by decide +kernel
theorem dX18_drawShield_283 : decode cX18_drawShield 283 = .ok (.checkcast 298, 3) := by decide +kernel
theorem dX18_drawShield_286 : decode cX18_drawShield 286 = .ok (.goto 4, 3) := by decide +kernel
theorem dX18_drawShield_289 : decode cX18_drawShield 289 = .ok (.aconst_null, 1) := by decide +kernel
theorem dX18_drawShield_290 : decode cX18_drawShield 290 = .ok (.astore 4, 2) := by decide +kernel
theorem dX18_drawShield_292 : decode cX18_drawShield 292 = .ok (.aload 4, 2) := by decide +kernel
theorem dX18_drawShield_294 : decode cX18_drawShield 294 = .ok (.ifnull 128, 3) := by decide +kernel
theorem dX18_drawShield_297 : decode cX18_drawShield 297 = .ok (.aload_n 0, 1) := by decide +kernel
theorem dX18_drawShield_298 : decode cX18_drawShield 298 = .ok (.aload 4, 2) := by decide +kernel
theorem dX18_drawShield_300 : decode cX18_drawShield 300 = .ok (.invokevirtual 347, 3) := by decide +kernel
theorem dX18_drawShield_303 : decode cX18_drawShield 303 = .ok (.ifnull 119, 3) := by decide +kernel
theorem dX18_drawShield_306 : decode cX18_drawShield 306 = .ok (.aload_n 0, 1) := by decide +kernel
theorem dX18_drawShield_307 : decode cX18_drawShield 307 = .ok (.aload 4, 2) := by decide +kernel
theorem dX18_drawShield_309 : decode cX18_drawShield 309 = .ok (.aload_n 0, 1) := by decide +kernel
theorem dX18_drawShield_310 : decode cX18_drawShield 310 = .ok (.getfield 70, 3) := by decide +kernel
theorem dX18_drawShield_313 : decode cX18_drawShield 313 = .ok (.invokevirtual 491, 3) := by decide +kernel
theorem dX18_drawShield_316 : decode cX18_drawShield 316 = .ok (.aload_n 0, 1) := by decide +kernel
theorem dX18_drawShield_317 : decode cX18_drawShield 317 = .ok (.aload 4, 2) := by decide +kernel
theorem dX18_drawShield_319 : decode cX18_drawShield 319 = .ok (.invokevirtual 340, 3) := by decide +kernel
theorem dX18_drawShield_322 : decode cX18_drawShield 322 = .ok (.istore 5, 2) := by decide +kernel
theorem dX18_drawShield_324 : decode cX18_drawShield 324 = .ok (.iconst 0, 1) := by decide +kernel
theorem dX18_drawShield_325 : decode cX18_drawShield 325 = .ok (.istore 6, 2) := by decide +kernel
theorem dX18_drawShield_327 : decode cX18_drawShield 327 = .ok (.iload 6, 2) := by decide +kernel
theorem dX18_drawShield_329 : decode cX18_drawShield 329 = .ok (.sipush 256, 3) := by decide +kernel
theorem dX18_drawShield_332 : decode cX18_drawShield 332 = .ok (.if_icmp .ge 90, 3) := by decide +kernel
theorem dX18_drawShield_335 : decode cX18_drawShield 335 = .ok (.iload 5, 2) := by decide +kernel
theorem dX18_drawShield_337 : decode cX18_drawShield 337 = .ok (.ifCond .eq 39, 3) := by decide +kernel
theorem dX18_drawShield_340 : decode cX18_drawShield 340 = .ok (.iload 6, 2) := by decide +kernel
theorem dX18_drawShield_342 : decode cX18_drawShield 342 = .ok (.bipush 16, 2) := by decide +kernel
theorem dX18_drawShield_344 : decode cX18_drawShield 344 = .ok (.irem, 1) := by decide +kernel
theorem dX18_drawShield_345 : decode cX18_drawShield 345 = .ok (.iconst 5, 1) := by decide +kernel
theorem dX18_drawShield_346 : decode cX18_drawShield 346 = .ok (.bipush 10, 2) := by decide +kernel
theorem dX18_drawShield_348 : decode cX18_drawShield 348 = .ok (.invokestatic 77, 3) := by decide +kernel
theorem dX18_drawShield_351 : decode cX18_drawShield 351 = .ok (.ifCond .eq 21, 3) := by decide +kernel
theorem dX18_drawShield_354 : decode cX18_drawShield 354 = .ok (.iload 6, 2) := by decide +kernel
theorem dX18_drawShield_356 : decode cX18_drawShield 356 = .ok (.bipush 16, 2) := by decide +kernel
theorem dX18_drawShield_358 : decode cX18_drawShield 358 = .ok (.idiv, 1) := by decide +kernel
theorem dX18_drawShield_359 : decode cX18_drawShield 359 = .ok (.iconst 5, 1) := by decide +kernel
theorem dX18_drawShield_360 : decode cX18_drawShield 360 = .ok (.bipush 10, 2) := by decide +kernel
theorem dX18_drawShield_362 : decode cX18_drawShield 362 = .ok (.invokestatic 77, 3) := by decide +kernel
theorem dX18_drawShield_365 : decode cX18_drawShield 365 = .ok (.ifCond .eq 7, 3) := by decide +kernel
theorem dX18_drawShield_368 : decode cX18_drawShield 368 = .ok (.iconst 1, 1) := by decide +kernel
theorem dX18_drawShield_369 : decode cX18_drawShield 369 = .ok (.goto 22, 3) := by decide +kernel
theorem dX18_drawShield_372 : decode cX18_drawShield 372 = .ok (.iconst 0, 1) := by decide +kernel
theorem dX18_drawShield_373 : decode cX18_drawShield 373 = .ok (.goto 18, 3) := by decide +kernel
theorem dX18_drawShield_376 : decode cX18_drawShield 376 = .ok (.iload 6, 2) := by decide +kernel
theorem dX18_drawShield_378 : decode cX18_drawShield 378 = .ok (.bipush 16, 2) := by decide +kernel
theorem dX18_drawShield_380 : decode cX18_drawShield 380 = .ok (.irem, 1) := by decide +kernel
theorem dX18_drawShield_381 : decode cX18_drawShield 381 = .ok (.bipush 8, 2) := by decide +kernel
theorem dX18_drawShield_383 : decode cX18_drawShield 383 = .ok (.if_icmp .lt 7, 3) := by decide +kernel
theorem dX18_drawShield_386 : decode cX18_drawShield 386 = .ok (.iconst 1, 1) := by decide +kernel
theorem dX18_drawShield_387 : decode cX18_drawShield 387 = .ok (.goto 4, 3) := by decide +kernel
theorem dX18_drawShield_390 : decode cX18_drawShield 390 = .ok (.iconst 0, 1) := by decide +kernel
theorem dX18_drawShield_391 : decode cX18_drawShield 391 = .ok (.istore 7, 2) := by decide +kernel
theorem dX18_drawShield_393 : decode cX18_drawShield 393 = .ok (.aload_n 2, 1) := by decide +kernel
theorem dX18_drawShield_394 : decode cX18_drawShield 394 = .ok (.iload 6, 2) := by decide +kernel
theorem dX18_drawShield_396 : decode cX18_drawShield 396 = .ok (.iload 7, 2) := by decide +kernel
theorem dX18_drawShield_398 : decode cX18_drawShield 398 = .ok (.ifCond .eq 13, 3) := by decide +kernel
theorem dX18_drawShield_401 : decode cX18_drawShield 401 = .ok (.aload_n 0, 1) := by decide +kernel
theorem dX18_drawShield_402 : decode cX18_drawShield 402 = .ok (.getfield 70, 3) := by decide +kernel
theorem dX18_drawShield_405 : decode cX18_drawShield 405 = .ok (.iload 6, 2) := by decide +kernel
theorem dX18_drawShield_407 : decode cX18_drawShield 407 = .ok (.iaload, 1) := by decide +kernel
theorem dX18_drawShield_408 : decode cX18_drawShield 408 = .ok (.goto 7, 3) := by decide +kernel
theorem dX18_drawShield_411 : decode cX18_drawShield 411 = .ok (.aload_n 2, 1) := by decide +kernel
theorem dX18_drawShield_412 : decode cX18_drawShield 412 = .ok (.iload 6, 2) := by decide +kernel
theorem dX18_drawShield_414 : decode cX18_drawShield 414 = .ok (.iaload, 1) := by decide +kernel
theorem dX18_drawShield_415 : decode cX18_drawShield 415 = .ok (.iastore, 1) := by decide +kernel
theorem dX18_drawShield_416 : decode cX18_drawShield 416 = .ok (.iinc 6 1, 3) := by decide +kernel
theorem dX18_drawShield_419 : decode cX18_drawShield 419 = .ok (.goto (-92), 3) := by decide +kernel
theorem dX18_drawShield_422 : decode cX18_drawShield 422 = .ok (.iconst 0, 1) := by decide +kernel
theorem dX18_drawShield_423 : decode cX18_drawShield 423 = .ok (.istore 5, 2) := by decide +kernel
theorem dX18_drawShield_425 : decode cX18_drawShield 425 = .ok (.aload_n 1, 1) := by decide +kernel
theorem dX18_drawShield_426 : decode cX18_drawShield 426 = .ok (.getfield 330, 3) := by decide +kernel
theorem dX18_drawShield_429 : decode cX18_drawShield 429 = .ok (.ifCond .eq 67, 3) := by decide +kernel
theorem dX18_drawShield_432 : decode cX18_drawShield 432 = .ok (.aload_n 1, 1) := by decide +kernel
theorem dX18_drawShield_433 : decode cX18_drawShield 433 = .ok (.getfield 495, 3) := by decide +kernel
theorem dX18_drawShield_436 : decode cX18_drawShield 436 = .ok (.ifCond .eq 60, 3) := by decide +kernel
theorem dX18_drawShield_439 : decode cX18_drawShield 439 = .ok (.iload 5, 2) := by decide +kernel
theorem dX18_drawShield_441 : decode cX18_drawShield 441 = .ok (.sipush 256, 3) := by decide +kernel
theorem dX18_drawShield_444 : decode cX18_drawShield 444 = .ok (.if_icmp .ge 52, 3) := by decide +kernel
theorem dX18_drawShield_447 : decode cX18_drawShield 447 = .ok (.aload_n 2, 1) := by decide +kernel
theorem dX18_drawShield_448 : decode cX18_drawShield 448 = .ok (.iload 5, 2) := by decide +kernel
theorem dX18_drawShield_450 : decode cX18_drawShield 450 = .ok (.iload 5, 2) := by decide +kernel
theorem dX18_drawShield_452 : decode cX18_drawShield 452 = .ok (.bipush 16, 2) := by decide +kernel
theorem dX18_drawShield_454 : decode cX18_drawShield 454 = .ok (.irem, 1) := by decide +kernel
theorem dX18_drawShield_455 : decode cX18_drawShield 455 = .ok (.bipush 6, 2) := by decide +kernel
theorem dX18_drawShield_457 : decode cX18_drawShield 457 = .ok (.bipush 9, 2) := by decide +kernel
theorem dX18_drawShield_459 : decode cX18_drawShield 459 = .ok (.invokestatic 77, 3) := by decide +kernel
theorem dX18_drawShield_462 : decode cX18_drawShield 462 = .ok (.ifCond .eq 23, 3) := by decide +kernel
theorem dX18_drawShield_465 : decode cX18_drawShield 465 = .ok (.iload 5, 2) := by decide +kernel
theorem dX18_drawShield_467 : decode cX18_drawShield 467 = .ok (.bipush 16, 2) := by decide +kernel
theorem dX18_drawShield_469 : decode cX18_drawShield 469 = .ok (.idiv, 1) := by decide +kernel
theorem dX18_drawShield_470 : decode cX18_drawShield 470 = .ok (.bipush 6, 2) := by decide +kernel
theorem dX18_drawShield_472 : decode cX18_drawShield 472 = .ok (.bipush 9, 2) := by decide +kernel
theorem dX18_drawShield_474 : decode cX18_drawShield 474 = .ok (.invokestatic 77, 3) := by decide +kernel
theorem dX18_drawShield_477 : decode cX18_drawShield 477 = .ok (.ifCond .eq 8, 3) := by decide +kernel
theorem dX18_drawShield_480 : decode cX18_drawShield 480 = .ok (.bipush 7, 2) := by decide +kernel
theorem dX18_drawShield_482 : decode cX18_drawShield 482 = .ok (.goto 7, 3) := by decide +kernel
theorem dX18_drawShield_485 : decode cX18_drawShield 485 = .ok (.aload_n 2, 1) := by decide +kernel
theorem dX18_drawShield_486 : decode cX18_drawShield 486 = .ok (.iload 5, 2) := by decide +kernel
theorem dX18_drawShield_488 : decode cX18_drawShield 488 = .ok (.iaload, 1) := by decide +kernel
theorem dX18_drawShield_489 : decode cX18_drawShield 489 = .ok (.iastore, 1) := by decide +kernel
theorem dX18_drawShield_490 : decode cX18_drawShield 490 = .ok (.iinc 5 1, 3) := by decide +kernel
theorem dX18_drawShield_493 : decode cX18_drawShield 493 = .ok (.goto (-68), 3) := by decide +kernel
theorem dX18_drawShield_496 : decode cX18_drawShield 496 = .ok (.return_, 1) := by decide +kernel
set_option maxRecDepth 20000 in
theorem ggX18_ofShield_X18_isPerson : GoodIn wsX18_ofShield wsX18_isPerson := goodIn_r _ [8, 1, 9, 10, 11, 12, 13, 14, 15, 16, 7, 17, 247, 248, 249, 250, 251, 252, 253, 254, 255, 256, 257, 258, 259, 260, 261, 262, 263, 264, 265, 266, 267, 268, 269, 270, 271, 272, 273, 274, 275, 276, 277] (by decide +kernel) (by decide +kernel)
set_option maxRecDepth 20000 in
theorem gX18_ofShield_X18_isPerson : GoodIn wsX18_ofShield (wsV RX18 291 RX18 yX18_isPerson wsX18_isPerson) := goodIn_app (goodIn_of _ (by decide +kernel)) ggX18_ofShield_X18_isPerson
set_option maxRecDepth 20000 in
theorem ggX18_ofShield_X18_isPoint : GoodIn wsX18_ofShield wsX18_isPoint := goodIn_r _ [20, 15, 16, 7, 17] (by decide +kernel) (by decide +kernel)
set_option maxRecDepth 20000 in
theorem gX18_ofShield_X18_isPoint : GoodIn wsX18_ofShield (va_wsS RX18 229 yX18_isPoint wsX18_isPoint) := goodIn_app (goodIn_of _ (by decide +kernel)) ggX18_ofShield_X18_isPoint
set_option maxRecDepth 20000 in
theorem ggX18_ofShield_X18_fails : GoodIn wsX18_ofShield wsX18_fails := goodIn_r _ [24, 25, 247, 248, 249, 250, 251, 252, 253, 254, 255, 256, 257, 258, 259, 260, 261, 262, 263, 264, 265, 266, 267, 268, 269, 270, 271, 272, 273, 274] (by decide +kernel) (by decide +kernel)
set_option maxRecDepth 20000 in
theorem gX18_ofShield_X18_fails : GoodIn wsX18_ofShield (wsV RX18 84 RX18 yX18_fails wsX18_fails) := goodIn_app (goodIn_of _ (by decide +kernel)) ggX18_ofShield_X18_fails
set_option maxRecDepth 20000 in
theorem ggX18_ofShield_Jx4a65c_get_915e3 : GoodIn wsX18_ofShield wsJx4a65c_get_915e3 := goodIn_r _ [29, 14, 30, 31, 32, 33, 34, 35, 36, 37, 38, 39, 40, 12, 41, 42, 275, 276, 277] (by decide +kernel) (by decide +kernel)
set_option maxRecDepth 20000 in
theorem gX18_ofShield_Jx4a65c_get_915e3 : GoodIn wsX18_ofShield (wsV RX18 294 RJx4a65c yJx4a65c_get_915e3 wsJx4a65c_get_915e3) := goodIn_app (goodIn_of _ (by decide +kernel)) ggX18_ofShield_Jx4a65c_get_915e3
set_option maxRecDepth 20000 in
theorem ggX18_ofShield_X18_bears : GoodIn wsX18_ofShield wsX18_bears := goodIn_ca (goodIn_r _ [46, 47, 48, 49, 50, 51, 52, 1, 2, 53, 54, 55, 7, 56, 26, 27, 28, 12, 29, 14, 30, 31, 32, 33, 34, 35, 36, 37, 38, 39, 40, 41, 42, 9, 10, 11, 13, 57, 58, 59, 60, 61, 62, 63, 64, 65, 66, 67, 68, 69, 70, 71, 72, 73, 74, 75, 76, 77, 78, 79, 80, 81, 82, 83, 84, 85, 86, 87, 88, 89, 90, 91, 92, 93, 94, 95, 96, 97, 98, 99, 100, 101, 102, 103, 104, 105, 106, 107, 108, 109, 110, 111, 112, 113, 114, 115, 116, 117, 118, 43, 44, 45, 119, 120, 121, 122, 123, 124, 125, 278, 279, 280, 281, 282, 283, 284, 285, 286, 287, 288, 289, 290, 291, 292, 293, 294, 247, 248, 249, 250, 251, 252, 253, 254, 255, 256, 257, 258, 259, 260, 261, 262, 263, 264, 265, 266, 267, 268, 269, 270, 271, 272, 273, 274, 295, 296, 297, 298, 299, 300, 301, 302, 303, 304, 275, 276, 277, 305, 306, 307, 308] (by decide +kernel) (by decide +kernel)) (goodIn_sub (fun _ h => List.mem_cons_of_mem _ (List.mem_append_right _ h)) (by decide +kernel))
set_option maxRecDepth 20000 in
theorem gX18_ofShield_X18_bears : GoodIn wsX18_ofShield (wsV RX18 347 RX18 yX18_bears wsX18_bears) := goodIn_app (goodIn_of _ (by decide +kernel)) ggX18_ofShield_X18_bears
set_option maxRecDepth 20000 in
theorem ggX18_ofShield_X18_drawShield : GoodIn wsX18_ofShield wsX18_drawShield := goodIn_ca (goodIn_r _ [129, 130, 131, 132, 1, 2, 133, 134, 135, 136, 137, 7, 138, 26, 27, 28, 12, 29, 14, 30, 31, 32, 33, 34, 35, 36, 37, 38, 39, 40, 41, 42, 43, 44, 45, 46, 47, 48, 49, 50, 51, 52, 53, 54, 55, 56, 9, 10, 11, 13, 57, 58, 59, 60, 61, 62, 63, 64, 65, 66, 67, 68, 69, 70, 71, 72, 73, 74, 75, 76, 77, 78, 79, 80, 81, 82, 83, 84, 85, 86, 87, 88, 89, 90, 91, 92, 93, 94, 95, 96, 97, 98, 99, 100, 101, 102, 103, 104, 105, 106, 107, 108, 109, 110, 111, 112, 113, 114, 115, 116, 117, 118, 119, 120, 121, 122, 123, 124, 125, 139, 140, 141, 142, 143, 144, 145, 146, 147, 148, 149, 150, 151, 152, 153, 154, 155, 156, 157, 158, 159, 160, 161, 162, 163, 164, 165, 166, 167, 168, 169, 170, 171, 172, 173, 174, 175, 176, 177, 178, 179, 180, 181, 182, 183, 184, 185, 186, 187, 188, 189, 190, 191, 192, 193, 194, 195, 196, 197, 198, 199, 200, 201, 202, 203, 204, 205, 206, 207, 208, 209, 210, 211, 212, 213, 214, 215, 216, 217, 218, 219, 220, 221, 222, 223, 224, 225, 226, 227, 15, 16, 17, 228, 229, 230, 231, 232, 233, 234, 235, 236, 237, 238, 239, 240, 241, 242, 243, 244, 245, 246, 126, 127, 128, 278, 279, 280, 281, 282, 283, 284, 285, 286, 287, 288, 289, 290, 291, 292, 247, 248, 249, 250, 251, 252, 253, 254, 255, 256, 257, 258, 259, 260, 261, 262, 263, 264, 265, 266, 267, 268, 269, 270, 271, 272, 273, 274, 293, 294, 275, 276, 277, 295, 296, 297, 298, 299, 300, 301, 302, 303, 304, 305, 306, 307, 308, 309, 310, 311, 312, 313, 314, 315, 316, 317, 318, 319, 320, 321, 322, 323, 324, 325, 326, 327, 328, 329] (by decide +kernel) (by decide +kernel)) (goodIn_sub (fun _ h => List.mem_cons_of_mem _ (List.mem_append_right _ h)) (by decide +kernel))
set_option maxRecDepth 20000 in
theorem gX18_ofShield_X18_drawShield : GoodIn wsX18_ofShield (wsV RX18 491 RX18 yX18_drawShield wsX18_drawShield) := goodIn_app (goodIn_of _ (by decide +kernel)) ggX18_ofShield_X18_drawShield
theorem dX18_ofShield_0 : decode cX18_ofShield 0 = .ok (.aload_n 0, 1) := by decide +kernel
theorem dX18_ofShield_1 : decode cX18_ofShield 1 = .ok (.aload_n 0, 1) := by decide +kernel
theorem dX18_ofShield_2 : decode cX18_ofShield 2 = .ok (.iload_n 1, 1) := by decide +kernel
theorem dX18_ofShield_3 : decode cX18_ofShield 3 = .ok (.invokevirtual 291, 3) := by decide +kernel
theorem dX18_ofShield_6 : decode cX18_ofShield 6 = .ok (.ifCond .eq 15, 3) := by decide +kernel
theorem dX18_ofShield_9 : decode cX18_ofShield 9 = .ok (.iload_n 2, 1) := by decide +kernel
theorem dX18_ofShield_10 : decode cX18_ofShield 10 = .ok (.iload_n 3, 1) := by decide +kernel
theorem dX18_ofShield_11 : decode cX18_ofShield 11 = .ok (.invokestatic 229, 3) := by decide +kernel
theorem dX18_ofShield_14 : decode cX18_ofShield 14 = .ok (.ifCond .eq 7, 3) := by decide +kernel
theorem dX18_ofShield_17 : decode cX18_ofShield 17 = .ok (.iconst 0, 1) := by decide +kernel
theorem dX18_ofShield_18 : decode cX18_ofShield 18 = .ok (.goto 4, 3) := by decide +kernel
theorem dX18_ofShield_21 : decode cX18_ofShield 21 = .ok (.iconst 1, 1) := by decide +kernel
theorem dX18_ofShield_22 : decode cX18_ofShield 22 = .ok (.invokevirtual 84, 3) := by decide +kernel
theorem dX18_ofShield_25 : decode cX18_ofShield 25 = .ok (.ifCond .ne 33, 3) := by decide +kernel
theorem dX18_ofShield_28 : decode cX18_ofShield 28 = .ok (.aload_n 0, 1) := by decide +kernel
theorem dX18_ofShield_29 : decode cX18_ofShield 29 = .ok (.aload_n 0, 1) := by decide +kernel
theorem dX18_ofShield_30 : decode cX18_ofShield 30 = .ok (.aload_n 0, 1) := by decide +kernel
theorem dX18_ofShield_31 : decode cX18_ofShield 31 = .ok (.getfield 16, 3) := by decide +kernel
theorem dX18_ofShield_34 : decode cX18_ofShield 34 = .ok (.iload_n 1, 1) := by decide +kernel
theorem dX18_ofShield_35 : decode cX18_ofShield 35 = .ok (.invokevirtual 294, 3) := by decide +kernel
theorem dX18_ofShield_38 : decode cX18_ofShield 38 = .ok (.checkcast 298, 3) := by decide +kernel
theorem dX18_ofShield_41 : decode cX18_ofShield 41 = .ok (.invokevirtual 347, 3) := by decide +kernel
theorem dX18_ofShield_44 : decode cX18_ofShield 44 = .ok (.ifnonnull 7, 3) := by decide +kernel
theorem dX18_ofShield_47 : decode cX18_ofShield 47 = .ok (.iconst 2, 1) := by decide +kernel
theorem dX18_ofShield_48 : decode cX18_ofShield 48 = .ok (.goto 4, 3) := by decide +kernel
theorem dX18_ofShield_51 : decode cX18_ofShield 51 = .ok (.iconst 0, 1) := by decide +kernel
theorem dX18_ofShield_52 : decode cX18_ofShield 52 = .ok (.invokevirtual 84, 3) := by decide +kernel
theorem dX18_ofShield_55 : decode cX18_ofShield 55 = .ok (.ifCond .eq 5, 3) := by decide +kernel
theorem dX18_ofShield_58 : decode cX18_ofShield 58 = .ok (.iconst 0, 1) := by decide +kernel
theorem dX18_ofShield_59 : decode cX18_ofShield 59 = .ok (.ireturn, 1) := by decide +kernel
theorem dX18_ofShield_60 : decode cX18_ofShield 60 = .ok (.aload_n 0, 1) := by decide +kernel
theorem dX18_ofShield_61 : decode cX18_ofShield 61 = .ok (.aload_n 0, 1) := by decide +kernel
theorem dX18_ofShield_62 : decode cX18_ofShield 62 = .ok (.getfield 16, 3) := by decide +kernel
theorem dX18_ofShield_65 : decode cX18_ofShield 65 = .ok (.iload_n 1, 1) := by decide +kernel
theorem dX18_ofShield_66 : decode cX18_ofShield 66 = .ok (.invokevirtual 294, 3) := by decide +kernel
theorem dX18_ofShield_69 : decode cX18_ofShield 69 = .ok (.checkcast 298, 3) := by decide +kernel
theorem dX18_ofShield_72 : decode cX18_ofShield 72 = .ok (.aload_n 0, 1) := by decide +kernel
theorem dX18_ofShield_73 : decode cX18_ofShield 73 = .ok (.getfield 67, 3) := by decide +kernel
theorem dX18_ofShield_76 : decode cX18_ofShield 76 = .ok (.invokevirtual 491, 3) := by decide +kernel
theorem dX18_ofShield_79 : decode cX18_ofShield 79 = .ok (.aload_n 0, 1) := by decide +kernel
theorem dX18_ofShield_80 : decode cX18_ofShield 80 = .ok (.getfield 67, 3) := by decide +kernel
theorem dX18_ofShield_83 : decode cX18_ofShield 83 = .ok (.bipush 16, 2) := by decide +kernel
theorem dX18_ofShield_85 : decode cX18_ofShield 85 = .ok (.iload_n 3, 1) := by decide +kernel
theorem dX18_ofShield_86 : decode cX18_ofShield 86 = .ok (.imul, 1) := by decide +kernel
theorem dX18_ofShield_87 : decode cX18_ofShield 87 = .ok (.iload_n 2, 1) := by decide +kernel
theorem dX18_ofShield_88 : decode cX18_ofShield 88 = .ok (.iadd, 1) := by decide +kernel
theorem dX18_ofShield_89 : decode cX18_ofShield 89 = .ok (.iaload, 1) := by decide +kernel
theorem dX18_ofShield_90 : decode cX18_ofShield 90 = .ok (.ireturn, 1) := by decide +kernel
set_option maxRecDepth 20000 in
theorem ggX18_shield_X18_failsPerson : GoodIn wsX18_shield wsX18_failsPerson := goodIn_r _ [8, 9, 10, 11, 7, 12, 1, 13, 14, 15, 16, 17, 18, 19, 20, 21, 22, 23, 24, 25, 26, 257, 258, 259, 260, 261, 262, 263, 264, 265, 266, 267, 268, 269, 270, 271, 272, 273, 274, 275, 276, 277, 278, 279, 280, 281, 282, 283, 284, 285, 286, 287] (by decide +kernel) (by decide +kernel)
set_option maxRecDepth 20000 in
theorem gX18_shield_X18_failsPerson : GoodIn wsX18_shield (wsV RX18 337 RX18 yX18_failsPerson wsX18_failsPerson) := goodIn_app (goodIn_of _ (by decide +kernel)) ggX18_shield_X18_failsPerson
set_option maxRecDepth 20000 in
theorem ggX18_shield_X18_isShape : GoodIn wsX18_shield wsX18_isShape := goodIn_r _ [29, 19, 20, 7, 21] (by decide +kernel) (by decide +kernel)
set_option maxRecDepth 20000 in
theorem gX18_shield_X18_isShape : GoodIn wsX18_shield (va_wsS RX18 242 yX18_isShape wsX18_isShape) := goodIn_app (goodIn_of _ (by decide +kernel)) ggX18_shield_X18_isShape
set_option maxRecDepth 20000 in
theorem ggX18_shield_Jx4a65c_get_915e3 : GoodIn wsX18_shield wsJx4a65c_get_915e3 := goodIn_r _ [33, 18, 34, 35, 36, 37, 38, 39, 40, 41, 42, 43, 44, 16, 45, 46, 285, 286, 287] (by decide +kernel) (by decide +kernel)
set_option maxRecDepth 20000 in
theorem gX18_shield_Jx4a65c_get_915e3 : GoodIn wsX18_shield (wsV RX18 294 RJx4a65c yJx4a65c_get_915e3 wsJx4a65c_get_915e3) := goodIn_app (goodIn_of _ (by decide +kernel)) ggX18_shield_Jx4a65c_get_915e3
set_option maxRecDepth 20000 in
theorem ggX18_shield_X18_bears : GoodIn wsX18_shield wsX18_bears := goodIn_ca (goodIn_r _ [50, 51, 52, 53, 54, 55, 56, 1, 2, 57, 58, 59, 7, 60, 30, 31, 32, 16, 33, 18, 34, 35, 36, 37, 38, 39, 40, 41, 42, 43, 44, 45, 46, 13, 14, 15, 17, 61, 62, 63, 64, 65, 66, 67, 68, 69, 70, 71, 72, 73, 74, 75, 76, 77, 78, 79, 80, 81, 82, 83, 84, 85, 86, 87, 88, 89, 90, 91, 92, 93, 94, 95, 96, 97, 98, 99, 100, 101, 102, 103, 104, 105, 106, 107, 108, 109, 110, 111, 112, 113, 114, 115, 116, 117, 118, 119, 120, 121, 122, 47, 48, 49, 123, 124, 125, 126, 127, 128, 129, 288, 289, 290, 291, 292, 293, 294, 295, 296, 297, 298, 299, 300, 301, 302, 303, 304, 257, 258, 259, 260, 261, 262, 263, 264, 265, 266, 267, 268, 269, 270, 271, 272, 273, 274, 275, 276, 277, 278, 279, 280, 281, 282, 283, 284, 305, 306, 307, 308, 309, 310, 311, 312, 313, 314, 285, 286, 287, 315, 316, 317, 318] (by decide +kernel) (by decide +kernel)) (goodIn_sub (fun _ h => List.mem_cons_of_mem _ (List.mem_append_right _ h)) (by decide +kernel))
set_option maxRecDepth 20000 in
theorem gX18_shield_X18_bears : GoodIn wsX18_shield (wsV RX18 347 RX18 yX18_bears wsX18_bears) := goodIn_app (goodIn_of _ (by decide +kernel)) ggX18_shield_X18_bears
set_option maxRecDepth 20000 in
theorem ggX18_shield_X18_fails : GoodIn wsX18_shield wsX18_fails := goodIn_r _ [25, 26, 257, 258, 259, 260, 261, 262, 263, 264, 265, 266, 267, 268, 269, 270, 271, 272, 273, 274, 275, 276, 277, 278, 279, 280, 281, 282, 283, 284] (by decide +kernel) (by decide +kernel)
set_option maxRecDepth 20000 in
theorem gX18_shield_X18_fails : GoodIn wsX18_shield (wsV RX18 84 RX18 yX18_fails wsX18_fails) := goodIn_app (goodIn_of _ (by decide +kernel)) ggX18_shield_X18_fails
set_option maxRecDepth 20000 in
theorem ggX18_shield_X18_drawShield : GoodIn wsX18_shield wsX18_drawShield := goodIn_ca (goodIn_r _ [133, 134, 135, 136, 1, 2, 137, 138, 139, 140, 141, 7, 142, 30, 31, 32, 16, 33, 18, 34, 35, 36, 37, 38, 39, 40, 41, 42, 43, 44, 45, 46, 47, 48, 49, 50, 51, 52, 53, 54, 55, 56, 57, 58, 59, 60, 13, 14, 15, 17, 61, 62, 63, 64, 65, 66, 67, 68, 69, 70, 71, 72, 73, 74, 75, 76, 77, 78, 79, 80, 81, 82, 83, 84, 85, 86, 87, 88, 89, 90, 91, 92, 93, 94, 95, 96, 97, 98, 99, 100, 101, 102, 103, 104, 105, 106, 107, 108, 109, 110, 111, 112, 113, 114, 115, 116, 117, 118, 119, 120, 121, 122, 123, 124, 125, 126, 127, 128, 129, 143, 144, 145, 146, 147, 148, 149, 150, 151, 152, 153, 154, 155, 156, 157, 158, 159, 160, 161, 162, 163, 164, 165, 166, 167, 168, 169, 170, 171, 172, 173, 174, 175, 176, 177, 178, 179, 180, 181, 182, 183, 184, 185, 186, 187, 188, 189, 190, 191, 192, 193, 194, 195, 196, 197, 198, 199, 200, 201, 202, 203, 204, 205, 206, 207, 208, 209, 210, 211, 212, 213, 214, 215, 216, 217, 218, 219, 220, 221, 222, 223, 224, 225, 226, 227, 228, 229, 230, 231, 19, 20, 21, 232, 233, 234, 235, 236, 237, 238, 239, 240, 241, 242, 243, 244, 245, 246, 247, 248, 249, 250, 130, 131, 132, 288, 289, 290, 291, 292, 293, 294, 295, 296, 297, 298, 299, 300, 301, 302, 257, 258, 259, 260, 261, 262, 263, 264, 265, 266, 267, 268, 269, 270, 271, 272, 273, 274, 275, 276, 277, 278, 279, 280, 281, 282, 283, 284, 303, 304, 285, 286, 287, 305, 306, 307, 308, 309, 310, 311, 312, 313, 314, 315, 316, 317, 318, 319, 320, 321, 322, 323, 324, 325, 326, 327, 328, 329, 330, 331, 332, 333, 334, 335, 336, 337, 338, 339] (by decide +kernel) (by decide +kernel)) (goodIn_sub (fun _ h => List.mem_cons_of_mem _ (List.mem_append_right _ h)) (by decide +kernel))
set_option maxRecDepth 20000 in
theorem gX18_shield_X18_drawShield : GoodIn wsX18_shield (wsV RX18 491 RX18 yX18_drawShield wsX18_drawShield) := goodIn_app (goodIn_of _ (by decide +kernel)) ggX18_shield_X18_drawShield
set_option maxRecDepth 20000 in
theorem ggX18_shield_X18_count : GoodIn wsX18_shield wsX18_count := goodIn_ca (goodIn_r _ [253, 254, 255, 7, 256, 218, 219, 220, 221] (by decide +kernel) (by decide +kernel)) (goodIn_sub (fun _ h => List.mem_cons_of_mem _ (List.mem_append_right _ h)) (by decide +kernel))
set_option maxRecDepth 20000 in
theorem gX18_shield_X18_count : GoodIn wsX18_shield (va_wsS RX18 245 yX18_count wsX18_count) := goodIn_app (goodIn_of _ (by decide +kernel)) ggX18_shield_X18_count
theorem dX18_shield_0 : decode cX18_shield 0 = .ok (.aload_n 0, 1) := by decide +kernel
theorem dX18_shield_1 : decode cX18_shield 1 = .ok (.iload_n 1, 1) := by decide +kernel
theorem dX18_shield_2 : decode cX18_shield 2 = .ok (.invokevirtual 337, 3) := by decide +kernel
theorem dX18_shield_5 : decode cX18_shield 5 = .ok (.ifCond .ne 45, 3) := by decide +kernel
theorem dX18_shield_8 : decode cX18_shield 8 = .ok (.aload_n 0, 1) := by decide +kernel
theorem dX18_shield_9 : decode cX18_shield 9 = .ok (.iload_n 2, 1) := by decide +kernel
theorem dX18_shield_10 : decode cX18_shield 10 = .ok (.iload_n 3, 1) := by decide +kernel
theorem dX18_shield_11 : decode cX18_shield 11 = .ok (.invokestatic 242, 3) := by decide +kernel
theorem dX18_shield_14 : decode cX18_shield 14 = .ok (.ifCond .ne 7, 3) := by decide +kernel
theorem dX18_shield_17 : decode cX18_shield 17 = .ok (.iconst 2, 1) := by decide +kernel
theorem dX18_shield_18 : decode cX18_shield 18 = .ok (.goto 26, 3) := by decide +kernel
theorem dX18_shield_21 : decode cX18_shield 21 = .ok (.aload_n 0, 1) := by decide +kernel
theorem dX18_shield_22 : decode cX18_shield 22 = .ok (.aload_n 0, 1) := by decide +kernel
theorem dX18_shield_23 : decode cX18_shield 23 = .ok (.getfield 16, 3) := by decide +kernel
theorem dX18_shield_26 : decode cX18_shield 26 = .ok (.iload_n 1, 1) := by decide +kernel
theorem dX18_shield_27 : decode cX18_shield 27 = .ok (.invokevirtual 294, 3) := by decide +kernel
theorem dX18_shield_30 : decode cX18_shield 30 = .ok (.checkcast 298, 3) := by decide +kernel
theorem dX18_shield_33 : decode cX18_shield 33 = .ok (.invokevirtual 347, 3) := by decide +kernel
theorem dX18_shield_36 : decode cX18_shield 36 = .ok (.ifnonnull 7, 3) := by decide +kernel
theorem dX18_shield_39 : decode cX18_shield 39 = .ok (.iconst 3, 1) := by decide +kernel
theorem dX18_shield_40 : decode cX18_shield 40 = .ok (.goto 4, 3) := by decide +kernel
theorem dX18_shield_43 : decode cX18_shield 43 = .ok (.iconst 0, 1) := by decide +kernel
theorem dX18_shield_44 : decode cX18_shield 44 = .ok (.invokevirtual 84, 3) := by decide +kernel
theorem dX18_shield_47 : decode cX18_shield 47 = .ok (.ifCond .eq 5, 3) := by decide +kernel
theorem dX18_shield_50 : decode cX18_shield 50 = .ok (.iconst 0, 1) := by decide +kernel
theorem dX18_shield_51 : decode cX18_shield 51 = .ok (.ireturn, 1) := by decide +kernel
theorem dX18_shield_52 : decode cX18_shield 52 = .ok (.aload_n 0, 1) := by decide +kernel
theorem dX18_shield_53 : decode cX18_shield 53 = .ok (.aload_n 0, 1) := by decide +kernel
theorem dX18_shield_54 : decode cX18_shield 54 = .ok (.getfield 16, 3) := by decide +kernel
theorem dX18_shield_57 : decode cX18_shield 57 = .ok (.iload_n 1, 1) := by decide +kernel
theorem dX18_shield_58 : decode cX18_shield 58 = .ok (.invokevirtual 294, 3) := by decide +kernel
theorem dX18_shield_61 : decode cX18_shield 61 = .ok (.checkcast 298, 3) := by decide +kernel
theorem dX18_shield_64 : decode cX18_shield 64 = .ok (.aload_n 0, 1) := by decide +kernel
theorem dX18_shield_65 : decode cX18_shield 65 = .ok (.getfield 67, 3) := by decide +kernel
theorem dX18_shield_68 : decode cX18_shield 68 = .ok (.invokevirtual 491, 3) := by decide +kernel
theorem dX18_shield_71 : decode cX18_shield 71 = .ok (.aload_n 0, 1) := by decide +kernel
theorem dX18_shield_72 : decode cX18_shield 72 = .ok (.getfield 67, 3) := by decide +kernel
theorem dX18_shield_75 : decode cX18_shield 75 = .ok (.iload_n 2, 1) := by decide +kernel
theorem dX18_shield_76 : decode cX18_shield 76 = .ok (.iload_n 3, 1) := by decide +kernel
theorem dX18_shield_77 : decode cX18_shield 77 = .ok (.invokestatic 245, 3) := by decide +kernel
theorem dX18_shield_80 : decode cX18_shield 80 = .ok (.ireturn, 1) := by decide +kernel
set_option maxRecDepth 20000 in
theorem ggX18_nearest_X18_failsRow : GoodIn wsX18_nearest wsX18_failsRow := goodIn_ca (goodIn_r _ [10, 11, 12, 13, 14, 9, 15, 16, 17, 18, 1, 19, 20, 21, 22, 23, 24, 25, 26, 27, 28, 29, 30, 31, 32, 33, 34, 35, 36, 37, 38, 39, 40, 41, 42, 43, 44, 45, 46, 47, 48, 49, 50, 51, 52, 53, 54, 55, 56, 57, 58, 59, 60, 61, 62, 63, 64, 65, 66, 67, 68, 69, 70, 71, 72, 182, 183, 184, 185, 186, 187, 188, 189, 190, 191, 192, 193, 194, 195, 196, 197, 198, 199, 200, 201, 202, 203, 204, 205, 206, 207, 208, 209, 210, 211, 212, 213, 214, 215, 216, 217, 218, 219, 220, 221, 222, 223, 224, 225, 226, 227, 228, 229, 230] (by decide +kernel) (by decide +kernel)) (goodIn_sub (fun _ h => List.mem_cons_of_mem _ (List.mem_append_right _ h)) (by decide +kernel))
set_option maxRecDepth 20000 in
theorem gX18_nearest_X18_failsRow : GoodIn wsX18_nearest (wsV RX18 232 RX18 yX18_failsRow wsX18_failsRow) := goodIn_app (goodIn_of _ (by decide +kernel)) ggX18_nearest_X18_failsRow
set_option maxRecDepth 20000 in
theorem ggX18_nearest_X18_draw : GoodIn wsX18_nearest wsX18_draw := goodIn_ca (goodIn_r _ [76, 77, 78, 79, 9, 80, 81, 82, 83, 84, 85, 86, 87, 88, 89, 90, 91, 92, 93, 94, 38, 39, 40, 95, 96, 97, 98, 99, 100, 101, 102, 103, 104, 105, 106, 107, 108, 109, 110, 111, 112, 113, 210, 211, 212, 213, 214, 215, 182, 183, 184, 185, 186, 187, 188, 189, 190, 191, 192, 193, 194, 195, 196, 197, 198, 199, 200, 201, 202, 203, 204, 205, 206, 207, 208, 209, 216, 217, 218, 219, 220, 221, 222, 223, 224, 225, 226, 227, 228, 229, 230] (by decide +kernel) (by decide +kernel)) (goodIn_sub (fun _ h => List.mem_cons_of_mem _ (List.mem_append_right _ h)) (by decide +kernel))
set_option maxRecDepth 20000 in
theorem gX18_nearest_X18_draw : GoodIn wsX18_nearest (wsV RX18 235 RX18 yX18_draw wsX18_draw) := goodIn_app (goodIn_of _ (by decide +kernel)) ggX18_nearest_X18_draw
set_option maxRecDepth 20000 in
theorem ggX18_nearest_Jx4a65c_size_8abf5 : GoodIn wsX18_nearest wsJx4a65c_size_8abf5 := goodIn_r _ [118, 119, 231, 232, 233] (by decide +kernel) (by decide +kernel)
set_option maxRecDepth 20000 in
theorem gX18_nearest_Jx4a65c_size_8abf5 : GoodIn wsX18_nearest (wsV RX18 288 RJx4a65c yJx4a65c_size_8abf5 wsJx4a65c_size_8abf5) := goodIn_app (goodIn_of _ (by decide +kernel)) ggX18_nearest_Jx4a65c_size_8abf5
set_option maxRecDepth 20000 in
theorem ggX18_nearest_X18_isVoid : GoodIn wsX18_nearest wsX18_isVoid := goodIn_r _ [123, 3, 124, 125, 126, 127, 117, 128, 119, 129, 130, 131, 132, 133, 134, 135, 136, 137, 138, 139, 140, 141, 182, 183, 184, 185, 186, 187, 188, 189, 190, 191, 192, 193, 194, 195, 196, 197, 198, 199, 200, 201, 202, 203, 204, 205, 206, 207, 208, 209, 234, 235, 236, 237, 238, 239, 240, 241, 242, 243, 231, 232, 233] (by decide +kernel) (by decide +kernel)
set_option maxRecDepth 20000 in
theorem gX18_nearest_X18_isVoid : GoodIn wsX18_nearest (wsV RX18 383 RX18 yX18_isVoid wsX18_isVoid) := goodIn_app (goodIn_of _ (by decide +kernel)) ggX18_nearest_X18_isVoid
set_option maxRecDepth 20000 in
theorem ggX18_nearest_X18_drawArms : GoodIn wsX18_nearest wsX18_drawArms := goodIn_ca (goodIn_r _ [145, 3, 124, 16, 17, 18, 125, 126, 127, 117, 128, 119, 129, 130, 131, 132, 133, 134, 135, 136, 137, 138, 139, 140, 141, 22, 23, 24, 25, 26, 27, 28, 146, 147, 148, 149, 150, 151, 152, 153, 58, 154, 55, 56, 57, 59, 60, 61, 62, 63, 155, 156, 157, 158, 159, 160, 161, 162, 163, 164, 165, 166, 167, 168, 169, 170, 171, 172, 173, 174, 9, 175, 54, 176, 177, 178, 73, 74, 75, 76, 77, 78, 79, 80, 81, 82, 83, 84, 85, 86, 87, 88, 89, 90, 91, 92, 93, 94, 38, 39, 40, 95, 96, 97, 98, 99, 100, 101, 102, 103, 104, 105, 106, 107, 108, 109, 110, 111, 112, 113, 182, 183, 184, 185, 186, 187, 188, 189, 190, 191, 192, 193, 194, 195, 196, 197, 198, 199, 200, 201, 202, 203, 204, 205, 206, 207, 208, 209, 210, 211, 212, 213, 214, 215, 234, 235, 236, 237, 238, 239, 240, 241, 242, 243, 231, 232, 233, 216, 217, 218, 219, 220, 221, 222, 223, 224, 225, 226, 227, 228, 229, 230] (by decide +kernel) (by decide +kernel)) (goodIn_sub (fun _ h => List.mem_cons_of_mem _ (List.mem_append_right _ h)) (by decide +kernel))
set_option maxRecDepth 20000 in
theorem gX18_nearest_X18_drawArms : GoodIn wsX18_nearest (wsV RX18 422 RX18 yX18_drawArms wsX18_drawArms) := goodIn_app (goodIn_of _ (by decide +kernel)) ggX18_nearest_X18_drawArms
set_option maxRecDepth 20000 in
theorem ggX18_nearest_X18_unlike : GoodIn wsX18_nearest wsX18_unlike := goodIn_ca (goodIn_r _ [181] (by decide +kernel) (by decide +kernel)) (goodIn_sub (fun _ h => List.mem_cons_of_mem _ (List.mem_append_right _ h)) (by decide +kernel))
set_option maxRecDepth 20000 in
theorem gX18_nearest_X18_unlike : GoodIn wsX18_nearest (va_wsS RX18 426 yX18_unlike wsX18_unlike) := goodIn_app (goodIn_of _ (by decide +kernel)) ggX18_nearest_X18_unlike
set_option maxRecDepth 20000 in
theorem ggX18_nearest_X18_fails : GoodIn wsX18_nearest wsX18_fails := goodIn_r _ [71, 72, 182, 183, 184, 185, 186, 187, 188, 189, 190, 191, 192, 193, 194, 195, 196, 197, 198, 199, 200, 201, 202, 203, 204, 205, 206, 207, 208, 209] (by decide +kernel) (by decide +kernel)
set_option maxRecDepth 20000 in
theorem gX18_nearest_X18_fails : GoodIn wsX18_nearest (wsV RX18 84 RX18 yX18_fails wsX18_fails) := goodIn_app (goodIn_of _ (by decide +kernel)) ggX18_nearest_X18_fails
theorem dX18_nearest_0 : decode cX18_nearest 0 = .ok (.aload_n 0, 1) := by decide +kernel
theorem dX18_nearest_1 : decode cX18_nearest 1 = .ok (.iconst 1, 1) := by decide +kernel
theorem dX18_nearest_2 : decode cX18_nearest 2 = .ok (.invokevirtual 232, 3) := by decide +kernel
theorem dX18_nearest_5 : decode cX18_nearest 5 = .ok (.ifCond .eq 5, 3) := by decide +kernel
theorem dX18_nearest_8 : decode cX18_nearest 8 = .ok (.iconst 0, 1) := by decide +kernel
theorem dX18_nearest_9 : decode cX18_nearest 9 = .ok (.ireturn, 1) := by decide +kernel
theorem dX18_nearest_10 : decode cX18_nearest 10 = .ok (.aload_n 0, 1) := by decide +kernel
theorem dX18_nearest_11 : decode cX18_nearest 11 = .ok (.aload_n 0, 1) := by decide +kernel
theorem dX18_nearest_12 : decode cX18_nearest 12 = .ok (.getfield 29, 3) := by decide +kernel
theorem dX18_nearest_15 : decode cX18_nearest 15 = .ok (.aload_n 0, 1) := by decide +kernel
theorem dX18_nearest_16 : decode cX18_nearest 16 = .ok (.getfield 40, 3) := by decide +kernel
theorem dX18_nearest_19 : decode cX18_nearest 19 = .ok (.invokevirtual 235, 3) := by decide +kernel
theorem dX18_nearest_22 : decode cX18_nearest 22 = .ok (.iconst (-1), 1) := by decide +kernel
theorem dX18_nearest_23 : decode cX18_nearest 23 = .ok (.istore_n 1, 1) := by decide +kernel
theorem dX18_nearest_24 : decode cX18_nearest 24 = .ok (.iconst 0, 1) := by decide +kernel
theorem dX18_nearest_25 : decode cX18_nearest 25 = .ok (.istore_n 2, 1) := by decide +kernel
theorem dX18_nearest_26 : decode cX18_nearest 26 = .ok (.iconst 0, 1) := by decide +kernel
theorem dX18_nearest_27 : decode cX18_nearest 27 = .ok (.istore_n 3, 1) := by decide +kernel
theorem dX18_nearest_28 : decode cX18_nearest 28 = .ok (.iload_n 3, 1) := by decide +kernel
theorem dX18_nearest_29 : decode cX18_nearest 29 = .ok (.aload_n 0, 1) := by decide +kernel
theorem dX18_nearest_30 : decode cX18_nearest 30 = .ok (.getfield 20, 3) := by decide +kernel
theorem dX18_nearest_33 : decode cX18_nearest 33 = .ok (.invokevirtual 288, 3) := by decide +kernel
theorem dX18_nearest_36 : decode cX18_nearest 36 = .ok (.if_icmp .ge 57, 3) := by decide +kernel
theorem dX18_nearest_39 : decode cX18_nearest 39 = .ok (.aload_n 0, 1) := by decide +kernel
theorem dX18_nearest_40 : decode cX18_nearest 40 = .ok (.iload_n 3, 1) := by decide +kernel
theorem dX18_nearest_41 : decode cX18_nearest 41 = .ok (.invokevirtual 383, 3) := by decide +kernel
theorem dX18_nearest_44 : decode cX18_nearest 44 = .ok (.ifCond .ne 43, 3) := by decide +kernel
theorem dX18_nearest_47 : decode cX18_nearest 47 = .ok (.aload_n 0, 1) := by decide +kernel
theorem dX18_nearest_48 : decode cX18_nearest 48 = .ok (.iload_n 3, 1) := by decide +kernel
theorem dX18_nearest_49 : decode cX18_nearest 49 = .ok (.iconst 0, 1) := by decide +kernel
theorem dX18_nearest_50 : decode cX18_nearest 50 = .ok (.newarray .int, 2) := by decide +kernel
theorem dX18_nearest_52 : decode cX18_nearest 52 = .ok (.aload_n 0, 1) := by decide +kernel
theorem dX18_nearest_53 : decode cX18_nearest 53 = .ok (.getfield 43, 3) := by decide +kernel
theorem dX18_nearest_56 : decode cX18_nearest 56 = .ok (.invokevirtual 422, 3) := by decide +kernel
theorem dX18_nearest_59 : decode cX18_nearest 59 = .ok (.aload_n 0, 1) := by decide +kernel
theorem dX18_nearest_60 : decode cX18_nearest 60 = .ok (.getfield 40, 3) := by decide +kernel
theorem dX18_nearest_63 : decode cX18_nearest 63 = .ok (.aload_n 0, 1) := by decide +kernel
theorem dX18_nearest_64 : decode cX18_nearest 64 = .ok (.getfield 43, 3) := by decide +kernel
theorem dX18_nearest_67 : decode cX18_nearest 67 = .ok (.invokestatic 426, 3) := by decide +kernel
theorem dX18_nearest_70 : decode cX18_nearest 70 = .ok (.istore 4, 2) := by decide +kernel
theorem dX18_nearest_72 : decode cX18_nearest 72 = .ok (.iload_n 1, 1) := by decide +kernel
theorem dX18_nearest_73 : decode cX18_nearest 73 = .ok (.ifCond .lt 9, 3) := by decide +kernel
theorem dX18_nearest_76 : decode cX18_nearest 76 = .ok (.iload 4, 2) := by decide +kernel
theorem dX18_nearest_78 : decode cX18_nearest 78 = .ok (.iload_n 2, 1) := by decide +kernel
theorem dX18_nearest_79 : decode cX18_nearest 79 = .ok (.if_icmp .ge 8, 3) := by decide +kernel
theorem dX18_nearest_82 : decode cX18_nearest 82 = .ok (.iload_n 3, 1) := by decide +kernel
theorem dX18_nearest_83 : decode cX18_nearest 83 = .ok (.istore_n 1, 1) := by decide +kernel
theorem dX18_nearest_84 : decode cX18_nearest 84 = .ok (.iload 4, 2) := by decide +kernel
theorem dX18_nearest_86 : decode cX18_nearest 86 = .ok (.istore_n 2, 1) := by decide +kernel
theorem dX18_nearest_87 : decode cX18_nearest 87 = .ok (.iinc 3 1, 3) := by decide +kernel
theorem dX18_nearest_90 : decode cX18_nearest 90 = .ok (.goto (-62), 3) := by decide +kernel
theorem dX18_nearest_93 : decode cX18_nearest 93 = .ok (.aload_n 0, 1) := by decide +kernel
theorem dX18_nearest_94 : decode cX18_nearest 94 = .ok (.iload_n 1, 1) := by decide +kernel
theorem dX18_nearest_95 : decode cX18_nearest 95 = .ok (.ifCond .ge 7, 3) := by decide +kernel
theorem dX18_nearest_98 : decode cX18_nearest 98 = .ok (.iconst 2, 1) := by decide +kernel
theorem dX18_nearest_99 : decode cX18_nearest 99 = .ok (.goto 4, 3) := by decide +kernel
theorem dX18_nearest_102 : decode cX18_nearest 102 = .ok (.iconst 0, 1) := by decide +kernel
theorem dX18_nearest_103 : decode cX18_nearest 103 = .ok (.invokevirtual 84, 3) := by decide +kernel
theorem dX18_nearest_106 : decode cX18_nearest 106 = .ok (.ifCond .eq 7, 3) := by decide +kernel
theorem dX18_nearest_109 : decode cX18_nearest 109 = .ok (.iconst 0, 1) := by decide +kernel
theorem dX18_nearest_110 : decode cX18_nearest 110 = .ok (.goto 4, 3) := by decide +kernel
theorem dX18_nearest_113 : decode cX18_nearest 113 = .ok (.iload_n 1, 1) := by decide +kernel
theorem dX18_nearest_114 : decode cX18_nearest 114 = .ok (.ireturn, 1) := by decide +kernel
set_option maxRecDepth 20000 in
theorem ggX18_withWord_Jx4a65c_iterator_32c93 : GoodIn wsX18_withWord wsJx4a65c_iterator_32c93 := goodIn_r _ [8, 9, 10, 11, 12, 13, 14, 15, 16, 17, 18, 19, 20, 21, 22, 75, 76, 77, 78, 79, 80, 81] (by decide +kernel) (by decide +kernel)
set_option maxRecDepth 20000 in
theorem gX18_withWord_Jx4a65c_iterator_32c93 : GoodIn wsX18_withWord (wsV RX18 313 RJx4a65c yJx4a65c_iterator_32c93 wsJx4a65c_iterator_32c93) := goodIn_app (goodIn_of _ (by decide +kernel)) ggX18_withWord_Jx4a65c_iterator_32c93
set_option maxRecDepth 20000 in
theorem ggX18_withWord_Jx35411_hasNext_aae02 : GoodIn wsX18_withWord wsJx35411_hasNext_aae02 := goodIn_r _ [26, 27, 15, 75, 76, 77, 78, 79, 80, 81] (by decide +kernel) (by decide +kernel)
set_option maxRecDepth 20000 in
theorem gX18_withWord_Jx35411_hasNext_aae02_f317Jx35411 : GoodIn wsX18_withWord (va_wsF RX18 317 RJx35411 ⟨"java/util/Iterator", "hasNext", "()Z"⟩ yJx35411_hasNext_aae02 wsJx35411_hasNext_aae02) := goodIn_app (goodIn_of _ (by decide +kernel)) ggX18_withWord_Jx35411_hasNext_aae02
set_option maxRecDepth 20000 in
theorem ggX18_withWord_Jx35411_next_0502b : GoodIn wsX18_withWord wsJx35411_next_0502b := goodIn_r _ [31, 27, 15, 32, 19, 33, 34, 35, 11, 36, 20, 21, 22, 75, 76, 77, 78, 79, 80, 81] (by decide +kernel) (by decide +kernel)
set_option maxRecDepth 20000 in
theorem gX18_withWord_Jx35411_next_0502b_f322Jx35411 : GoodIn wsX18_withWord (va_wsF RX18 322 RJx35411 ⟨"java/util/Iterator", "next", "()Ljava/lang/Object;"⟩ yJx35411_next_0502b wsJx35411_next_0502b) := goodIn_app (goodIn_of _ (by decide +kernel)) ggX18_withWord_Jx35411_next_0502b
theorem dX18_withWord_0 : decode cX18_withWord 0 = .ok (.aload_n 0, 1) := by decide +kernel
theorem dX18_withWord_1 : decode cX18_withWord 1 = .ok (.iconst 0, 1) := by decide +kernel
theorem dX18_withWord_2 : decode cX18_withWord 2 = .ok (.putfield 73, 3) := by decide +kernel
theorem dX18_withWord_5 : decode cX18_withWord 5 = .ok (.iconst 0, 1) := by decide +kernel
theorem dX18_withWord_6 : decode cX18_withWord 6 = .ok (.istore_n 2, 1) := by decide +kernel
theorem dX18_withWord_7 : decode cX18_withWord 7 = .ok (.aload_n 0, 1) := by decide +kernel
theorem dX18_withWord_8 : decode cX18_withWord 8 = .ok (.getfield 20, 3) := by decide +kernel
theorem dX18_withWord_11 : decode cX18_withWord 11 = .ok (.invokevirtual 313, 3) := by decide +kernel
theorem dX18_withWord_14 : decode cX18_withWord 14 = .ok (.astore_n 3, 1) := by decide +kernel
theorem dX18_withWord_15 : decode cX18_withWord 15 = .ok (.aload_n 3, 1) := by decide +kernel
theorem dX18_withWord_16 : decode cX18_withWord 16 = .ok (.invokeinterface 317 1, 5) := by decide +kernel
theorem dX18_withWord_21 : decode cX18_withWord 21 = .ok (.ifCond .eq 86, 3) := by decide +kernel
theorem dX18_withWord_24 : decode cX18_withWord 24 = .ok (.aload_n 3, 1) := by decide +kernel
theorem dX18_withWord_25 : decode cX18_withWord 25 = .ok (.invokeinterface 322 1, 5) := by decide +kernel
theorem dX18_withWord_30 : decode cX18_withWord 30 = .ok (.checkcast 373, 3) := by decide +kernel
theorem dX18_withWord_33 : decode cX18_withWord 33 = .ok (.astore 4, 2) := by decide +kernel
theorem dX18_withWord_35 : decode cX18_withWord 35 = .ok (.iconst 0, 1) := by decide +kernel
theorem dX18_withWord_36 : decode cX18_withWord 36 = .ok (.istore 5, 2) := by decide +kernel
theorem dX18_withWord_38 : decode cX18_withWord 38 = .ok (.aload 4, 2) := by decide +kernel
theorem dX18_withWord_40 : decode cX18_withWord 40 = .ok (.getfield 498, 3) := by decide +kernel
theorem dX18_withWord_43 : decode cX18_withWord 43 = .ok (.astore 6, 2) := by decide +kernel
theorem dX18_withWord_45 : decode cX18_withWord 45 = .ok (.aload 6, 2) := by decide +kernel
theorem dX18_withWord_47 : decode cX18_withWord 47 = .ok (.arraylength, 1) := by decide +kernel
theorem dX18_withWord_48 : decode cX18_withWord 48 = .ok (.istore 7, 2) := by decide +kernel
theorem dX18_withWord_50 : decode cX18_withWord 50 = .ok (.iconst 0, 1) := by decide +kernel
theorem dX18_withWord_51 : decode cX18_withWord 51 = .ok (.istore 8, 2) := by decide +kernel
theorem dX18_withWord_53 : decode cX18_withWord 53 = .ok (.iload 8, 2) := by decide +kernel
theorem dX18_withWord_55 : decode cX18_withWord 55 = .ok (.iload 7, 2) := by decide +kernel
theorem dX18_withWord_57 : decode cX18_withWord 57 = .ok (.if_icmp .ge 34, 3) := by decide +kernel
theorem dX18_withWord_60 : decode cX18_withWord 60 = .ok (.aload 6, 2) := by decide +kernel
theorem dX18_withWord_62 : decode cX18_withWord 62 = .ok (.iload 8, 2) := by decide +kernel
theorem dX18_withWord_64 : decode cX18_withWord 64 = .ok (.iaload, 1) := by decide +kernel
theorem dX18_withWord_65 : decode cX18_withWord 65 = .ok (.istore 9, 2) := by decide +kernel
theorem dX18_withWord_67 : decode cX18_withWord 67 = .ok (.iload 5, 2) := by decide +kernel
theorem dX18_withWord_69 : decode cX18_withWord 69 = .ok (.ifCond .ne 9, 3) := by decide +kernel
theorem dX18_withWord_72 : decode cX18_withWord 72 = .ok (.iload 9, 2) := by decide +kernel
theorem dX18_withWord_74 : decode cX18_withWord 74 = .ok (.iload_n 1, 1) := by decide +kernel
theorem dX18_withWord_75 : decode cX18_withWord 75 = .ok (.if_icmp .ne 7, 3) := by decide +kernel
theorem dX18_withWord_78 : decode cX18_withWord 78 = .ok (.iconst 1, 1) := by decide +kernel
theorem dX18_withWord_79 : decode cX18_withWord 79 = .ok (.goto 4, 3) := by decide +kernel
theorem dX18_withWord_82 : decode cX18_withWord 82 = .ok (.iconst 0, 1) := by decide +kernel
theorem dX18_withWord_83 : decode cX18_withWord 83 = .ok (.istore 5, 2) := by decide +kernel
theorem dX18_withWord_85 : decode cX18_withWord 85 = .ok (.iinc 8 1, 3) := by decide +kernel
theorem dX18_withWord_88 : decode cX18_withWord 88 = .ok (.goto (-35), 3) := by decide +kernel
theorem dX18_withWord_91 : decode cX18_withWord 91 = .ok (.iload_n 2, 1) := by decide +kernel
theorem dX18_withWord_92 : decode cX18_withWord 92 = .ok (.iload 5, 2) := by decide +kernel
theorem dX18_withWord_94 : decode cX18_withWord 94 = .ok (.ifCond .eq 7, 3) := by decide +kernel
theorem dX18_withWord_97 : decode cX18_withWord 97 = .ok (.iconst 1, 1) := by decide +kernel
theorem dX18_withWord_98 : decode cX18_withWord 98 = .ok (.goto 4, 3) := by decide +kernel
theorem dX18_withWord_101 : decode cX18_withWord 101 = .ok (.iconst 0, 1) := by decide +kernel
theorem dX18_withWord_102 : decode cX18_withWord 102 = .ok (.iadd, 1) := by decide +kernel
theorem dX18_withWord_103 : decode cX18_withWord 103 = .ok (.istore_n 2, 1) := by decide +kernel
theorem dX18_withWord_104 : decode cX18_withWord 104 = .ok (.goto (-89), 3) := by decide +kernel
theorem dX18_withWord_107 : decode cX18_withWord 107 = .ok (.iload_n 2, 1) := by decide +kernel
theorem dX18_withWord_108 : decode cX18_withWord 108 = .ok (.ireturn, 1) := by decide +kernel
set_option maxRecDepth 20000 in
theorem ggX18_conflicts_X18_failsPerson : GoodIn wsX18_conflicts wsX18_failsPerson := goodIn_r _ [5, 6, 7, 8, 4, 9, 10, 11, 12, 13, 14, 15, 16, 17, 18, 19, 20, 21, 22, 23, 24, 274, 275, 276, 277, 278, 279, 280, 281, 282, 283, 284, 285, 286, 287, 288, 289, 290, 291, 292, 293, 294, 295, 296, 297, 298, 299, 300, 301, 302, 303, 304] (by decide +kernel) (by decide +kernel)
set_option maxRecDepth 20000 in
theorem gX18_conflicts_X18_failsPerson : GoodIn wsX18_conflicts (wsV RX18 337 RX18 yX18_failsPerson wsX18_failsPerson) := goodIn_app (goodIn_of _ (by decide +kernel)) ggX18_conflicts_X18_failsPerson
set_option maxRecDepth 20000 in
theorem ggX18_conflicts_X18_in : GoodIn wsX18_conflicts wsX18_in := goodIn_r _ [19] (by decide +kernel) (by decide +kernel)
set_option maxRecDepth 20000 in
theorem gX18_conflicts_X18_in : GoodIn wsX18_conflicts (va_wsS RX18 77 yX18_in wsX18_in) := goodIn_app (goodIn_of _ (by decide +kernel)) ggX18_conflicts_X18_in
set_option maxRecDepth 20000 in
theorem ggX18_conflicts_X18_fails : GoodIn wsX18_conflicts wsX18_fails := goodIn_r _ [23, 24, 274, 275, 276, 277, 278, 279, 280, 281, 282, 283, 284, 285, 286, 287, 288, 289, 290, 291, 292, 293, 294, 295, 296, 297, 298, 299, 300, 301] (by decide +kernel) (by decide +kernel)
set_option maxRecDepth 20000 in
theorem gX18_conflicts_X18_fails : GoodIn wsX18_conflicts (wsV RX18 84 RX18 yX18_fails wsX18_fails) := goodIn_app (goodIn_of _ (by decide +kernel)) ggX18_conflicts_X18_fails
set_option maxRecDepth 20000 in
theorem ggX18_conflicts_X18_failsRow : GoodIn wsX18_conflicts wsX18_failsRow := goodIn_ca (goodIn_r _ [28, 29, 30, 31, 32, 4, 33, 34, 35, 36, 37, 38, 39, 40, 41, 42, 43, 44, 45, 46, 47, 48, 49, 50, 51, 52, 53, 54, 55, 56, 17, 18, 19, 57, 58, 59, 60, 61, 62, 63, 64, 65, 66, 67, 68, 69, 70, 71, 72, 73, 74, 75, 76, 77, 78, 79, 80, 81, 82, 83, 20, 21, 22, 23, 24, 274, 275, 276, 277, 278, 279, 280, 281, 282, 283, 284, 285, 286, 287, 288, 289, 290, 291, 292, 293, 294, 295, 296, 297, 298, 299, 300, 301, 305, 306, 307, 308, 309, 310, 311, 312, 313, 314, 315, 316, 317, 318, 319, 320, 321, 322, 323, 324, 325] (by decide +kernel) (by decide +kernel)) (goodIn_sub (fun _ h => List.mem_cons_of_mem _ (List.mem_append_right _ h)) (by decide +kernel))
set_option maxRecDepth 20000 in
theorem gX18_conflicts_X18_failsRow : GoodIn wsX18_conflicts (wsV RX18 232 RX18 yX18_failsRow wsX18_failsRow) := goodIn_app (goodIn_of _ (by decide +kernel)) ggX18_conflicts_X18_failsRow
set_option maxRecDepth 20000 in
theorem ggX18_conflicts_X18_countConflicts : GoodIn wsX18_conflicts wsX18_countConflicts := goodIn_ca (goodIn_r _ [87, 37, 88, 89, 90, 91, 92, 4, 93, 94, 95, 96, 97, 98, 99, 100, 101, 102, 103, 104, 105, 106, 107, 108, 109, 110, 111, 17, 18, 19, 112, 113, 114, 115, 116, 117, 118, 119, 120, 121, 122, 123, 124, 125, 126, 127, 128, 129, 130, 11, 12, 13, 14, 15, 16, 131, 132, 133, 134, 135, 136, 137, 10, 138, 139, 140, 141, 142, 143, 144, 145, 146, 147, 148, 149, 150, 151, 152, 153, 154, 155, 156, 157, 158, 159, 160, 161, 162, 163, 34, 35, 36, 41, 42, 43, 44, 45, 46, 47, 164, 165, 166, 167, 168, 169, 170, 171, 74, 172, 71, 72, 73, 75, 76, 77, 78, 79, 173, 174, 175, 176, 177, 178, 179, 180, 181, 182, 183, 184, 185, 186, 187, 188, 189, 190, 191, 192, 193, 70, 194, 195, 196, 197, 198, 199, 200, 201, 202, 203, 204, 205, 206, 207, 208, 209, 210, 211, 212, 213, 214, 215, 216, 217, 218, 219, 220, 221, 222, 223, 224, 225, 226, 227, 228, 229, 230, 231, 232, 233, 234, 235, 236, 237, 238, 239, 240, 241, 242, 243, 244, 245, 246, 247, 248, 249, 250, 251, 252, 253, 254, 255, 256, 257, 258, 259, 260, 261, 262, 263, 264, 265, 266, 267, 268, 269, 270, 271, 272, 273, 274, 275, 276, 277, 278, 279, 280, 281, 282, 283, 284, 285, 286, 287, 288, 289, 290, 291, 292, 293, 294, 295, 296, 297, 298, 299, 300, 301, 305, 306, 307, 308, 309, 310, 311, 312, 313, 314, 315, 316, 317, 318, 319, 320, 321, 322, 323, 324, 325, 302, 303, 304, 326, 327, 328, 329, 330, 331, 332, 333, 334, 335, 336, 337, 338, 339, 340, 341, 342, 343, 344, 345, 346, 347, 348, 349, 350, 351, 352, 353, 354, 355, 356] (by decide +kernel) (by decide +kernel)) (goodIn_sub (fun _ h => List.mem_cons_of_mem _ (List.mem_append_right _ h)) (by decide +kernel))
set_option maxRecDepth 20000 in
theorem gX18_conflicts_X18_countConflicts : GoodIn wsX18_conflicts (wsV RX18 437 RX18 yX18_countConflicts wsX18_countConflicts) := goodIn_app (goodIn_of _ (by decide +kernel)) ggX18_conflicts_X18_countConflicts
theorem dX18_conflicts_0 : decode cX18_conflicts 0 = .ok (.aload_n 0, 1) := by decide +kernel
theorem dX18_conflicts_1 : decode cX18_conflicts 1 = .ok (.iload_n 1, 1) := by decide +kernel
theorem dX18_conflicts_2 : decode cX18_conflicts 2 = .ok (.invokevirtual 337, 3) := by decide +kernel
theorem dX18_conflicts_5 : decode cX18_conflicts 5 = .ok (.ifCond .ne 32, 3) := by decide +kernel
theorem dX18_conflicts_8 : decode cX18_conflicts 8 = .ok (.aload_n 0, 1) := by decide +kernel
theorem dX18_conflicts_9 : decode cX18_conflicts 9 = .ok (.iload_n 2, 1) := by decide +kernel
theorem dX18_conflicts_10 : decode cX18_conflicts 10 = .ok (.iconst 0, 1) := by decide +kernel
theorem dX18_conflicts_11 : decode cX18_conflicts 11 = .ok (.iconst 3, 1) := by decide +kernel
theorem dX18_conflicts_12 : decode cX18_conflicts 12 = .ok (.invokestatic 77, 3) := by decide +kernel
theorem dX18_conflicts_15 : decode cX18_conflicts 15 = .ok (.ifCond .eq 7, 3) := by decide +kernel
theorem dX18_conflicts_18 : decode cX18_conflicts 18 = .ok (.iconst 0, 1) := by decide +kernel
theorem dX18_conflicts_19 : decode cX18_conflicts 19 = .ok (.goto 4, 3) := by decide +kernel
theorem dX18_conflicts_22 : decode cX18_conflicts 22 = .ok (.iconst 2, 1) := by decide +kernel
theorem dX18_conflicts_23 : decode cX18_conflicts 23 = .ok (.invokevirtual 84, 3) := by decide +kernel
theorem dX18_conflicts_26 : decode cX18_conflicts 26 = .ok (.ifCond .ne 11, 3) := by decide +kernel
theorem dX18_conflicts_29 : decode cX18_conflicts 29 = .ok (.aload_n 0, 1) := by decide +kernel
theorem dX18_conflicts_30 : decode cX18_conflicts 30 = .ok (.iconst 3, 1) := by decide +kernel
theorem dX18_conflicts_31 : decode cX18_conflicts 31 = .ok (.invokevirtual 232, 3) := by decide +kernel
theorem dX18_conflicts_34 : decode cX18_conflicts 34 = .ok (.ifCond .eq 5, 3) := by decide +kernel
theorem dX18_conflicts_37 : decode cX18_conflicts 37 = .ok (.iconst 0, 1) := by decide +kernel
theorem dX18_conflicts_38 : decode cX18_conflicts 38 = .ok (.ireturn, 1) := by decide +kernel
theorem dX18_conflicts_39 : decode cX18_conflicts 39 = .ok (.aload_n 0, 1) := by decide +kernel
theorem dX18_conflicts_40 : decode cX18_conflicts 40 = .ok (.iload_n 1, 1) := by decide +kernel
theorem dX18_conflicts_41 : decode cX18_conflicts 41 = .ok (.iload_n 2, 1) := by decide +kernel
theorem dX18_conflicts_42 : decode cX18_conflicts 42 = .ok (.invokevirtual 437, 3) := by decide +kernel
theorem dX18_conflicts_45 : decode cX18_conflicts 45 = .ok (.ireturn, 1) := by decide +kernel
set_option maxRecDepth 20000 in
theorem ggX18_boreAs_Jx4a65c_get_915e3 : GoodIn wsX18_boreAs wsJx4a65c_get_915e3 := goodIn_r _ [7, 8, 9, 10, 11, 12, 13, 14, 15, 16, 17, 18, 19, 6, 20, 21, 140, 141, 142] (by decide +kernel) (by decide +kernel)
set_option maxRecDepth 20000 in
theorem gX18_boreAs_Jx4a65c_get_915e3 : GoodIn wsX18_boreAs (wsV RX18 294 RJx4a65c yJx4a65c_get_915e3 wsJx4a65c_get_915e3) := goodIn_app (goodIn_of _ (by decide +kernel)) ggX18_boreAs_Jx4a65c_get_915e3
set_option maxRecDepth 20000 in
theorem ggX18_boreAs_X18_bears : GoodIn wsX18_boreAs wsX18_bears := goodIn_ca (goodIn_r _ [26, 27, 28, 29, 30, 31, 32, 1, 2, 33, 34, 35, 25, 36, 3, 4, 5, 6, 7, 8, 9, 10, 11, 12, 13, 14, 15, 16, 17, 18, 19, 20, 21, 37, 38, 39, 40, 41, 42, 43, 44, 45, 46, 47, 48, 49, 50, 51, 52, 53, 54, 55, 56, 57, 58, 59, 60, 61, 62, 63, 64, 65, 66, 67, 68, 69, 70, 71, 72, 73, 74, 75, 76, 77, 78, 79, 80, 81, 82, 83, 84, 85, 86, 87, 88, 89, 90, 91, 92, 93, 94, 95, 96, 97, 98, 99, 100, 101, 102, 22, 23, 24, 103, 104, 105, 106, 107, 108, 109, 143, 144, 145, 146, 147, 148, 149, 150, 151, 152, 153, 154, 155, 156, 157, 138, 139, 110, 111, 112, 113, 114, 115, 116, 117, 118, 119, 120, 121, 122, 123, 124, 125, 126, 127, 128, 129, 130, 131, 132, 133, 134, 135, 136, 137, 158, 159, 160, 161, 162, 163, 164, 165, 166, 167, 140, 141, 142, 168, 169, 170, 171] (by decide +kernel) (by decide +kernel)) (goodIn_sub (fun _ h => List.mem_cons_of_mem _ (List.mem_append_right _ h)) (by decide +kernel))
set_option maxRecDepth 20000 in
theorem gX18_boreAs_X18_bears : GoodIn wsX18_boreAs (wsV RX18 347 RX18 yX18_bears wsX18_bears) := goodIn_app (goodIn_of _ (by decide +kernel)) ggX18_boreAs_X18_bears
theorem dX18_boreAs_0 : decode cX18_boreAs 0 = .ok (.aload_n 0, 1) := by decide +kernel
theorem dX18_boreAs_1 : decode cX18_boreAs 1 = .ok (.aload_n 0, 1) := by decide +kernel
theorem dX18_boreAs_2 : decode cX18_boreAs 2 = .ok (.getfield 16, 3) := by decide +kernel
theorem dX18_boreAs_5 : decode cX18_boreAs 5 = .ok (.iload_n 1, 1) := by decide +kernel
theorem dX18_boreAs_6 : decode cX18_boreAs 6 = .ok (.invokevirtual 294, 3) := by decide +kernel
theorem dX18_boreAs_9 : decode cX18_boreAs 9 = .ok (.checkcast 298, 3) := by decide +kernel
theorem dX18_boreAs_12 : decode cX18_boreAs 12 = .ok (.invokevirtual 347, 3) := by decide +kernel
theorem dX18_boreAs_15 : decode cX18_boreAs 15 = .ok (.astore_n 3, 1) := by decide +kernel
theorem dX18_boreAs_16 : decode cX18_boreAs 16 = .ok (.aload_n 3, 1) := by decide +kernel
theorem dX18_boreAs_17 : decode cX18_boreAs 17 = .ok (.ifnull 15, 3) := by decide +kernel
theorem dX18_boreAs_20 : decode cX18_boreAs 20 = .ok (.aload_n 3, 1) := by decide +kernel
theorem dX18_boreAs_21 : decode cX18_boreAs 21 = .ok (.getfield 378, 3) := by decide +kernel
theorem dX18_boreAs_24 : decode cX18_boreAs 24 = .ok (.iload_n 2, 1) := by decide +kernel
theorem dX18_boreAs_25 : decode cX18_boreAs 25 = .ok (.if_icmp .ne 7, 3) := by decide +kernel
theorem dX18_boreAs_28 : decode cX18_boreAs 28 = .ok (.iconst 1, 1) := by decide +kernel
theorem dX18_boreAs_29 : decode cX18_boreAs 29 = .ok (.goto 4, 3) := by decide +kernel
theorem dX18_boreAs_32 : decode cX18_boreAs 32 = .ok (.iconst 0, 1) := by decide +kernel
theorem dX18_boreAs_33 : decode cX18_boreAs 33 = .ok (.ireturn, 1) := by decide +kernel
set_option maxRecDepth 20000 in
theorem ggX18_isOld_Jx4a65c_get_915e3 : GoodIn wsX18_isOld wsJx4a65c_get_915e3 := goodIn_r _ [10, 11, 12, 13, 14, 15, 16, 17, 18, 19, 20, 21, 22, 9, 23, 24, 168, 169, 170] (by decide +kernel) (by decide +kernel)
set_option maxRecDepth 20000 in
theorem gX18_isOld_Jx4a65c_get_915e3 : GoodIn wsX18_isOld (wsV RX18 294 RJx4a65c yJx4a65c_get_915e3 wsJx4a65c_get_915e3) := goodIn_app (goodIn_of _ (by decide +kernel)) ggX18_isOld_Jx4a65c_get_915e3
set_option maxRecDepth 20000 in
theorem ggX18_isOld_Jx4a65c_iterator_32c93 : GoodIn wsX18_isOld wsJx4a65c_iterator_32c93 := goodIn_r _ [28, 29, 30, 31, 32, 33, 34, 35, 36, 37, 38, 39, 40, 41, 42, 171, 172, 173, 174, 168, 169, 170] (by decide +kernel) (by decide +kernel)
set_option maxRecDepth 20000 in
theorem gX18_isOld_Jx4a65c_iterator_32c93 : GoodIn wsX18_isOld (wsV RX18 313 RJx4a65c yJx4a65c_iterator_32c93 wsJx4a65c_iterator_32c93) := goodIn_app (goodIn_of _ (by decide +kernel)) ggX18_isOld_Jx4a65c_iterator_32c93
set_option maxRecDepth 20000 in
theorem ggX18_isOld_Jx35411_hasNext_aae02 : GoodIn wsX18_isOld wsJx35411_hasNext_aae02 := goodIn_r _ [46, 47, 35, 171, 172, 173, 174, 168, 169, 170] (by decide +kernel) (by decide +kernel)
set_option maxRecDepth 20000 in
theorem gX18_isOld_Jx35411_hasNext_aae02_f317Jx35411 : GoodIn wsX18_isOld (va_wsF RX18 317 RJx35411 ⟨"java/util/Iterator", "hasNext", "()Z"⟩ yJx35411_hasNext_aae02 wsJx35411_hasNext_aae02) := goodIn_app (goodIn_of _ (by decide +kernel)) ggX18_isOld_Jx35411_hasNext_aae02
set_option maxRecDepth 20000 in
theorem ggX18_isOld_Jx35411_next_0502b : GoodIn wsX18_isOld wsJx35411_next_0502b := goodIn_r _ [51, 47, 35, 52, 39, 53, 54, 55, 31, 56, 40, 41, 42, 171, 172, 173, 174, 168, 169, 170] (by decide +kernel) (by decide +kernel)
set_option maxRecDepth 20000 in
theorem gX18_isOld_Jx35411_next_0502b_f322Jx35411 : GoodIn wsX18_isOld (va_wsF RX18 322 RJx35411 ⟨"java/util/Iterator", "next", "()Ljava/lang/Object;"⟩ yJx35411_next_0502b wsJx35411_next_0502b) := goodIn_app (goodIn_of _ (by decide +kernel)) ggX18_isOld_Jx35411_next_0502b
set_option maxRecDepth 20000 in
theorem ggX18_isOld_X18_isSonOf : GoodIn wsX18_isOld wsX18_isSonOf := goodIn_r _ [61, 153, 154, 155, 156, 157, 158, 159, 160, 161, 162, 163, 164, 165, 166, 167] (by decide +kernel) (by decide +kernel)
set_option maxRecDepth 20000 in
theorem gX18_isOld_X18_isSonOf : GoodIn wsX18_isOld (wsV RX18 326 RX18 yX18_isSonOf wsX18_isSonOf) := goodIn_app (goodIn_of _ (by decide +kernel)) ggX18_isOld_X18_isSonOf
set_option maxRecDepth 20000 in
theorem ggX18_isOld_X18_boreAs : GoodIn wsX18_isOld wsX18_boreAs := goodIn_ca (goodIn_r _ [65, 4, 5, 6, 7, 8, 9, 10, 11, 12, 13, 14, 15, 16, 17, 18, 19, 20, 21, 22, 23, 24, 66, 67, 68, 60, 69, 2, 3, 70, 71, 72, 73, 74, 75, 76, 77, 78, 79, 80, 81, 82, 83, 84, 85, 37, 38, 86, 87, 88, 89, 90, 91, 92, 93, 94, 95, 96, 97, 98, 99, 25, 26, 27, 28, 29, 30, 31, 32, 33, 34, 35, 36, 39, 40, 41, 42, 43, 44, 45, 46, 47, 48, 49, 50, 51, 52, 53, 54, 55, 56, 57, 58, 59, 61, 100, 101, 102, 103, 104, 105, 106, 107, 108, 109, 110, 111, 112, 113, 114, 115, 116, 117, 118, 119, 120, 121, 122, 123, 124, 125, 126, 127, 128, 129, 130, 131, 132, 133, 134, 135, 136, 137, 138, 139, 140, 141, 142, 175, 176, 168, 169, 170, 153, 154, 155, 156, 157, 158, 159, 160, 161, 162, 163, 164, 165, 166, 167, 143, 144, 145, 146, 147, 148, 149, 150, 151, 152, 171, 172, 173, 174] (by decide +kernel) (by decide +kernel)) (goodIn_sub (fun _ h => List.mem_cons_of_mem _ (List.mem_append_right _ h)) (by decide +kernel))
set_option maxRecDepth 20000 in
theorem gX18_isOld_X18_boreAs : GoodIn wsX18_isOld (wsV RX18 499 RX18 yX18_boreAs wsX18_boreAs) := goodIn_app (goodIn_of _ (by decide +kernel)) ggX18_isOld_X18_boreAs
theorem dX18_isOld_0 : decode cX18_isOld 0 = .ok (.aload_n 0, 1) := by decide +kernel
theorem dX18_isOld_1 : decode cX18_isOld 1 = .ok (.getfield 285, 3) := by decide +kernel
theorem dX18_isOld_4 : decode cX18_isOld 4 = .ok (.aload_n 0, 1) := by decide +kernel
theorem dX18_isOld_5 : decode cX18_isOld 5 = .ok (.getfield 20, 3) := by decide +kernel
theorem dX18_isOld_8 : decode cX18_isOld 8 = .ok (.iload_n 1, 1) := by decide +kernel
theorem dX18_isOld_9 : decode cX18_isOld 9 = .ok (.invokevirtual 294, 3) := by decide +kernel
theorem dX18_isOld_12 : decode cX18_isOld 12 = .ok (.checkcast 373, 3) := by decide +kernel
theorem dX18_isOld_15 : decode cX18_isOld 15 = .ok (.getfield 449, 3) := by decide +kernel
theorem dX18_isOld_18 : decode cX18_isOld 18 = .ok (.isub, 1) := by decide +kernel
theorem dX18_isOld_19 : decode cX18_isOld 19 = .ok (.bipush 60, 2) := by decide +kernel
theorem dX18_isOld_21 : decode cX18_isOld 21 = .ok (.if_icmp .lt 5, 3) := by decide +kernel
theorem dX18_isOld_24 : decode cX18_isOld 24 = .ok (.iconst 1, 1) := by decide +kernel
theorem dX18_isOld_25 : decode cX18_isOld 25 = .ok (.ireturn, 1) := by decide +kernel
theorem dX18_isOld_26 : decode cX18_isOld 26 = .ok (.iconst 0, 1) := by decide +kernel
theorem dX18_isOld_27 : decode cX18_isOld 27 = .ok (.istore_n 2, 1) := by decide +kernel
theorem dX18_isOld_28 : decode cX18_isOld 28 = .ok (.aload_n 0, 1) := by decide +kernel
theorem dX18_isOld_29 : decode cX18_isOld 29 = .ok (.getfield 16, 3) := by decide +kernel
theorem dX18_isOld_32 : decode cX18_isOld 32 = .ok (.invokevirtual 313, 3) := by decide +kernel
theorem dX18_isOld_35 : decode cX18_isOld 35 = .ok (.astore_n 3, 1) := by decide +kernel
theorem dX18_isOld_36 : decode cX18_isOld 36 = .ok (.aload_n 3, 1) := by decide +kernel
theorem dX18_isOld_37 : decode cX18_isOld 37 = .ok (.invokeinterface 317 1, 5) := by decide +kernel
theorem dX18_isOld_42 : decode cX18_isOld 42 = .ok (.ifCond .eq 146, 3) := by decide +kernel
theorem dX18_isOld_45 : decode cX18_isOld 45 = .ok (.aload_n 3, 1) := by decide +kernel
theorem dX18_isOld_46 : decode cX18_isOld 46 = .ok (.invokeinterface 322 1, 5) := by decide +kernel
theorem dX18_isOld_51 : decode cX18_isOld 51 = .ok (.checkcast 298, 3) := by decide +kernel
theorem dX18_isOld_54 : decode cX18_isOld 54 = .ok (.astore 4, 2) := by decide +kernel
theorem dX18_isOld_56 : decode cX18_isOld 56 = .ok (.aload_n 0, 1) := by decide +kernel
theorem dX18_isOld_57 : decode cX18_isOld 57 = .ok (.getfield 16, 3) := by decide +kernel
theorem dX18_isOld_60 : decode cX18_isOld 60 = .ok (.invokevirtual 313, 3) := by decide +kernel
theorem dX18_isOld_63 : decode cX18_isOld 63 = .ok (.astore 5, 2) := by decide +kernel
theorem dX18_isOld_65 : decode cX18_isOld 65 = .ok (.aload 5, 2) := by decide +kernel
theorem dX18_isOld_67 : decode cX18_isOld 67 = .ok (.invokeinterface 317 1, 5) := by decide +kernel
theorem dX18_isOld_72 : decode cX18_isOld 72 = .ok (.ifCond .eq 113, 3) := by decide +kernel
theorem dX18_isOld_75 : decode cX18_isOld 75 = .ok (.aload 5, 2) := by decide +kernel
theorem dX18_isOld_77 : decode cX18_isOld 77 = .ok (.invokeinterface 322 1, 5) := by decide +kernel
theorem dX18_isOld_82 : decode cX18_isOld 82 = .ok (.checkcast 298, 3) := by decide +kernel
theorem dX18_isOld_85 : decode cX18_isOld 85 = .ok (.astore 6, 2) := by decide +kernel
theorem dX18_isOld_87 : decode cX18_isOld 87 = .ok (.iload_n 2, 1) := by decide +kernel
theorem dX18_isOld_88 : decode cX18_isOld 88 = .ok (.ifCond .ne 88, 3) := by decide +kernel
theorem dX18_isOld_91 : decode cX18_isOld 91 = .ok (.aload_n 0, 1) := by decide +kernel
theorem dX18_isOld_92 : decode cX18_isOld 92 = .ok (.aload 4, 2) := by decide +kernel
theorem dX18_isOld_94 : decode cX18_isOld 94 = .ok (.aload_n 0, 1) := by decide +kernel
theorem dX18_isOld_95 : decode cX18_isOld 95 = .ok (.getfield 20, 3) := by decide +kernel
theorem dX18_isOld_98 : decode cX18_isOld 98 = .ok (.iload_n 1, 1) := by decide +kernel
theorem dX18_isOld_99 : decode cX18_isOld 99 = .ok (.invokevirtual 294, 3) := by decide +kernel
theorem dX18_isOld_102 : decode cX18_isOld 102 = .ok (.checkcast 373, 3) := by decide +kernel
theorem dX18_isOld_105 : decode cX18_isOld 105 = .ok (.getfield 386, 3) := by decide +kernel
theorem dX18_isOld_108 : decode cX18_isOld 108 = .ok (.invokevirtual 326, 3) := by decide +kernel
theorem dX18_isOld_111 : decode cX18_isOld 111 = .ok (.ifCond .eq 69, 3) := by decide +kernel
theorem dX18_isOld_114 : decode cX18_isOld 114 = .ok (.aload_n 0, 1) := by decide +kernel
theorem dX18_isOld_115 : decode cX18_isOld 115 = .ok (.aload 6, 2) := by decide +kernel
theorem dX18_isOld_117 : decode cX18_isOld 117 = .ok (.aload 4, 2) := by decide +kernel
theorem dX18_isOld_119 : decode cX18_isOld 119 = .ok (.getfield 333, 3) := by decide +kernel
theorem dX18_isOld_122 : decode cX18_isOld 122 = .ok (.invokevirtual 326, 3) := by decide +kernel
theorem dX18_isOld_125 : decode cX18_isOld 125 = .ok (.ifCond .eq 55, 3) := by decide +kernel
theorem dX18_isOld_128 : decode cX18_isOld 128 = .ok (.aload_n 0, 1) := by decide +kernel
theorem dX18_isOld_129 : decode cX18_isOld 129 = .ok (.aload 4, 2) := by decide +kernel
theorem dX18_isOld_131 : decode cX18_isOld 131 = .ok (.getfield 333, 3) := by decide +kernel
theorem dX18_isOld_134 : decode cX18_isOld 134 = .ok (.iload_n 1, 1) := by decide +kernel
theorem dX18_isOld_135 : decode cX18_isOld 135 = .ok (.invokevirtual 499, 3) := by decide +kernel
theorem dX18_isOld_138 : decode cX18_isOld 138 = .ok (.ifCond .eq 42, 3) := by decide +kernel
theorem dX18_isOld_141 : decode cX18_isOld 141 = .ok (.aload_n 0, 1) := by decide +kernel
theorem dX18_isOld_142 : decode cX18_isOld 142 = .ok (.aload 6, 2) := by decide +kernel
theorem dX18_isOld_144 : decode cX18_isOld 144 = .ok (.getfield 333, 3) := by decide +kernel
theorem dX18_isOld_147 : decode cX18_isOld 147 = .ok (.iload_n 1, 1) := by decide +kernel
theorem dX18_isOld_148 : decode cX18_isOld 148 = .ok (.invokevirtual 499, 3) := by decide +kernel
theorem dX18_isOld_151 : decode cX18_isOld 151 = .ok (.ifCond .eq 29, 3) := by decide +kernel
theorem dX18_isOld_154 : decode cX18_isOld 154 = .ok (.aload_n 0, 1) := by decide +kernel
theorem dX18_isOld_155 : decode cX18_isOld 155 = .ok (.aload_n 0, 1) := by decide +kernel
theorem dX18_isOld_156 : decode cX18_isOld 156 = .ok (.getfield 20, 3) := by decide +kernel
theorem dX18_isOld_159 : decode cX18_isOld 159 = .ok (.iload_n 1, 1) := by decide +kernel
theorem dX18_isOld_160 : decode cX18_isOld 160 = .ok (.invokevirtual 294, 3) := by decide +kernel
theorem dX18_isOld_163 : decode cX18_isOld 163 = .ok (.checkcast 373, 3) := by decide +kernel
theorem dX18_isOld_166 : decode cX18_isOld 166 = .ok (.getfield 386, 3) := by decide +kernel
theorem dX18_isOld_169 : decode cX18_isOld 169 = .ok (.iload_n 1, 1) := by decide +kernel
theorem dX18_isOld_170 : decode cX18_isOld 170 = .ok (.invokevirtual 499, 3) := by decide +kernel
theorem dX18_isOld_173 : decode cX18_isOld 173 = .ok (.ifCond .eq 7, 3) := by decide +kernel
theorem dX18_isOld_176 : decode cX18_isOld 176 = .ok (.iconst 1, 1) := by decide +kernel
theorem dX18_isOld_177 : decode cX18_isOld 177 = .ok (.goto 4, 3) := by decide +kernel
theorem dX18_isOld_180 : decode cX18_isOld 180 = .ok (.iconst 0, 1) := by decide +kernel
theorem dX18_isOld_181 : decode cX18_isOld 181 = .ok (.istore_n 2, 1) := by decide +kernel
theorem dX18_isOld_182 : decode cX18_isOld 182 = .ok (.goto (-117), 3) := by decide +kernel
theorem dX18_isOld_185 : decode cX18_isOld 185 = .ok (.goto (-149), 3) := by decide +kernel
theorem dX18_isOld_188 : decode cX18_isOld 188 = .ok (.iload_n 2, 1) := by decide +kernel
theorem dX18_isOld_189 : decode cX18_isOld 189 = .ok (.ireturn, 1) := by decide +kernel
set_option maxRecDepth 20000 in
theorem ggX18_visit_X18_in : GoodIn wsX18_visit wsX18_in := goodIn_r _ [7] (by decide +kernel) (by decide +kernel)
set_option maxRecDepth 20000 in
theorem gX18_visit_X18_in : GoodIn wsX18_visit (va_wsS RX18 77 yX18_in wsX18_in) := goodIn_app (goodIn_of _ (by decide +kernel)) ggX18_visit_X18_in
set_option maxRecDepth 20000 in
theorem ggX18_visit_X18_fails : GoodIn wsX18_visit wsX18_fails := goodIn_r _ [11, 12, 233, 234, 235, 236, 237, 238, 239, 240, 241, 242, 243, 244, 245, 246, 247, 248, 249, 250, 251, 252, 253, 254, 255, 256, 257, 258, 259, 260] (by decide +kernel) (by decide +kernel)
set_option maxRecDepth 20000 in
theorem gX18_visit_X18_fails : GoodIn wsX18_visit (wsV RX18 84 RX18 yX18_fails wsX18_fails) := goodIn_app (goodIn_of _ (by decide +kernel)) ggX18_visit_X18_fails
set_option maxRecDepth 20000 in
theorem ggX18_visit_Jx4a65c_size_8abf5 : GoodIn wsX18_visit wsJx4a65c_size_8abf5 := goodIn_r _ [17, 18, 271, 272, 273] (by decide +kernel) (by decide +kernel)
set_option maxRecDepth 20000 in
theorem gX18_visit_Jx4a65c_size_8abf5 : GoodIn wsX18_visit (wsV RX18 288 RJx4a65c yJx4a65c_size_8abf5 wsJx4a65c_size_8abf5) := goodIn_app (goodIn_of _ (by decide +kernel)) ggX18_visit_Jx4a65c_size_8abf5
set_option maxRecDepth 20000 in
theorem ggX18_visit_Jx4a65c_get_915e3 : GoodIn wsX18_visit wsJx4a65c_get_915e3 := goodIn_r _ [22, 18, 23, 24, 25, 26, 27, 28, 29, 30, 31, 32, 33, 16, 34, 35, 271, 272, 273] (by decide +kernel) (by decide +kernel)
set_option maxRecDepth 20000 in
theorem gX18_visit_Jx4a65c_get_915e3 : GoodIn wsX18_visit (wsV RX18 294 RJx4a65c yJx4a65c_get_915e3 wsJx4a65c_get_915e3) := goodIn_app (goodIn_of _ (by decide +kernel)) ggX18_visit_Jx4a65c_get_915e3
set_option maxRecDepth 20000 in
theorem ggX18_visit_X18_isOld : GoodIn wsX18_visit wsX18_isOld := goodIn_ca (goodIn_r _ [39, 40, 1, 2, 41, 42, 19, 20, 21, 16, 22, 18, 23, 24, 25, 26, 27, 28, 29, 30, 31, 32, 33, 34, 35, 43, 44, 45, 46, 47, 48, 49, 50, 51, 52, 53, 54, 55, 56, 57, 58, 59, 60, 61, 62, 63, 64, 65, 66, 67, 68, 69, 70, 71, 72, 73, 74, 75, 76, 77, 6, 78, 79, 80, 81, 82, 83, 84, 85, 86, 87, 88, 89, 90, 91, 92, 93, 94, 13, 14, 15, 17, 95, 96, 97, 98, 99, 100, 101, 102, 103, 104, 105, 106, 107, 108, 109, 110, 111, 112, 113, 114, 115, 116, 117, 118, 119, 120, 121, 122, 123, 124, 125, 126, 127, 233, 234, 235, 236, 237, 238, 239, 240, 241, 242, 243, 244, 245, 246, 247, 248, 249, 250, 251, 252, 253, 254, 255, 256, 257, 258, 259, 260, 261, 262, 263, 264, 265, 266, 267, 268, 269, 270, 274, 275, 276, 277, 278, 279, 280, 281, 282, 283, 284, 285, 286, 287, 288, 271, 272, 273, 289, 290, 291, 292, 293, 294] (by decide +kernel) (by decide +kernel)) (goodIn_sub (fun _ h => List.mem_cons_of_mem _ (List.mem_append_right _ h)) (by decide +kernel))
set_option maxRecDepth 20000 in
theorem gX18_visit_X18_isOld : GoodIn wsX18_visit (wsV RX18 502 RX18 yX18_isOld wsX18_isOld) := goodIn_app (goodIn_of _ (by decide +kernel)) ggX18_visit_X18_isOld
set_option maxRecDepth 20000 in
theorem ggX18_visit_X18_far : GoodIn wsX18_visit wsX18_far := goodIn_ca (goodIn_r _ [131, 90, 132, 133, 134, 135, 136, 6, 137, 1, 2, 138, 139, 140, 19, 20, 21, 16, 22, 18, 23, 24, 25, 26, 27, 28, 29, 30, 31, 32, 33, 34, 35, 141, 142, 143, 55, 56, 144, 145, 146, 147, 148, 149, 150, 151, 152, 153, 154, 155, 156, 157, 158, 159, 160, 161, 162, 163, 164, 165, 166, 167, 168, 169, 170, 171, 172, 173, 174, 175, 176, 177, 178, 179, 180, 181, 182, 183, 184, 185, 186, 187, 188, 189, 190, 191, 192, 193, 194, 195, 196, 197, 198, 199, 200, 201, 202, 203, 204, 205, 206, 207, 208, 209, 210, 4, 5, 7, 211, 212, 213, 214, 215, 216, 217, 218, 219, 220, 221, 222, 223, 224, 225, 226, 227, 228, 229, 230, 231, 232, 233, 234, 235, 236, 237, 238, 239, 240, 241, 242, 243, 244, 245, 246, 247, 248, 249, 250, 251, 252, 253, 254, 255, 256, 257, 258, 259, 260, 295, 296, 297, 298, 299, 300, 261, 262, 263, 264, 265, 266, 267, 268, 269, 270, 271, 272, 273, 301, 302, 303, 304, 305, 306, 307, 308, 309, 310, 311, 312, 313, 314, 315] (by decide +kernel) (by decide +kernel)) (goodIn_sub (fun _ h => List.mem_cons_of_mem _ (List.mem_append_right _ h)) (by decide +kernel))
set_option maxRecDepth 20000 in
theorem gX18_visit_X18_far : GoodIn wsX18_visit (wsV RX18 471 RX18 yX18_far wsX18_far) := goodIn_app (goodIn_of _ (by decide +kernel)) ggX18_visit_X18_far
theorem dX18_visit_0 : decode cX18_visit 0 = .ok (.aload_n 0, 1) := by decide +kernel
theorem dX18_visit_1 : decode cX18_visit 1 = .ok (.iload_n 1, 1) := by decide +kernel
theorem dX18_visit_2 : decode cX18_visit 2 = .ok (.iconst 0, 1) := by decide +kernel
theorem dX18_visit_3 : decode cX18_visit 3 = .ok (.iconst 3, 1) := by decide +kernel
theorem dX18_visit_4 : decode cX18_visit 4 = .ok (.invokestatic 77, 3) := by decide +kernel
theorem dX18_visit_7 : decode cX18_visit 7 = .ok (.ifCond .eq 7, 3) := by decide +kernel
theorem dX18_visit_10 : decode cX18_visit 10 = .ok (.iconst 0, 1) := by decide +kernel
theorem dX18_visit_11 : decode cX18_visit 11 = .ok (.goto 4, 3) := by decide +kernel
theorem dX18_visit_14 : decode cX18_visit 14 = .ok (.iconst 1, 1) := by decide +kernel
theorem dX18_visit_15 : decode cX18_visit 15 = .ok (.invokevirtual 84, 3) := by decide +kernel
theorem dX18_visit_18 : decode cX18_visit 18 = .ok (.ifCond .eq 5, 3) := by decide +kernel
theorem dX18_visit_21 : decode cX18_visit 21 = .ok (.iconst 0, 1) := by decide +kernel
theorem dX18_visit_22 : decode cX18_visit 22 = .ok (.ireturn, 1) := by decide +kernel
theorem dX18_visit_23 : decode cX18_visit 23 = .ok (.iconst 0, 1) := by decide +kernel
theorem dX18_visit_24 : decode cX18_visit 24 = .ok (.istore_n 2, 1) := by decide +kernel
theorem dX18_visit_25 : decode cX18_visit 25 = .ok (.iconst 0, 1) := by decide +kernel
theorem dX18_visit_26 : decode cX18_visit 26 = .ok (.istore_n 3, 1) := by decide +kernel
theorem dX18_visit_27 : decode cX18_visit 27 = .ok (.iload_n 3, 1) := by decide +kernel
theorem dX18_visit_28 : decode cX18_visit 28 = .ok (.aload_n 0, 1) := by decide +kernel
theorem dX18_visit_29 : decode cX18_visit 29 = .ok (.getfield 20, 3) := by decide +kernel
theorem dX18_visit_32 : decode cX18_visit 32 = .ok (.invokevirtual 288, 3) := by decide +kernel
theorem dX18_visit_35 : decode cX18_visit 35 = .ok (.if_icmp .ge 191, 3) := by decide +kernel
theorem dX18_visit_38 : decode cX18_visit 38 = .ok (.aload_n 0, 1) := by decide +kernel
theorem dX18_visit_39 : decode cX18_visit 39 = .ok (.getfield 20, 3) := by decide +kernel
theorem dX18_visit_42 : decode cX18_visit 42 = .ok (.iload_n 3, 1) := by decide +kernel
theorem dX18_visit_43 : decode cX18_visit 43 = .ok (.invokevirtual 294, 3) := by decide +kernel
theorem dX18_visit_46 : decode cX18_visit 46 = .ok (.checkcast 373, 3) := by decide +kernel
theorem dX18_visit_49 : decode cX18_visit 49 = .ok (.astore 4, 2) := by decide +kernel
theorem dX18_visit_51 : decode cX18_visit 51 = .ok (.aload 4, 2) := by decide +kernel
theorem dX18_visit_53 : decode cX18_visit 53 = .ok (.getfield 375, 3) := by decide +kernel
theorem dX18_visit_56 : decode cX18_visit 56 = .ok (.bipush 117, 2) := by decide +kernel
theorem dX18_visit_58 : decode cX18_visit 58 = .ok (.if_icmp .ne 162, 3) := by decide +kernel
theorem dX18_visit_61 : decode cX18_visit 61 = .ok (.aload 4, 2) := by decide +kernel
theorem dX18_visit_63 : decode cX18_visit 63 = .ok (.getfield 419, 3) := by decide +kernel
theorem dX18_visit_66 : decode cX18_visit 66 = .ok (.iload_n 1, 1) := by decide +kernel
theorem dX18_visit_67 : decode cX18_visit 67 = .ok (.if_icmp .ne 153, 3) := by decide +kernel
theorem dX18_visit_70 : decode cX18_visit 70 = .ok (.aload_n 0, 1) := by decide +kernel
theorem dX18_visit_71 : decode cX18_visit 71 = .ok (.iload_n 3, 1) := by decide +kernel
theorem dX18_visit_72 : decode cX18_visit 72 = .ok (.invokevirtual 502, 3) := by decide +kernel
theorem dX18_visit_75 : decode cX18_visit 75 = .ok (.istore 5, 2) := by decide +kernel
theorem dX18_visit_77 : decode cX18_visit 77 = .ok (.iconst 0, 1) := by decide +kernel
theorem dX18_visit_78 : decode cX18_visit 78 = .ok (.istore 6, 2) := by decide +kernel
theorem dX18_visit_80 : decode cX18_visit 80 = .ok (.iload 6, 2) := by decide +kernel
theorem dX18_visit_82 : decode cX18_visit 82 = .ok (.aload_n 0, 1) := by decide +kernel
theorem dX18_visit_83 : decode cX18_visit 83 = .ok (.getfield 20, 3) := by decide +kernel
theorem dX18_visit_86 : decode cX18_visit 86 = .ok (.invokevirtual 288, 3) := by decide +kernel
theorem dX18_visit_89 : decode cX18_visit 89 = .ok (.if_icmp .ge 82, 3) := by decide +kernel
theorem dX18_visit_92 : decode cX18_visit 92 = .ok (.aload_n 0, 1) := by decide +kernel
theorem dX18_visit_93 : decode cX18_visit 93 = .ok (.getfield 20, 3) := by decide +kernel
theorem dX18_visit_96 : decode cX18_visit 96 = .ok (.iload 6, 2) := by decide +kernel
theorem dX18_visit_98 : decode cX18_visit 98 = .ok (.invokevirtual 294, 3) := by decide +kernel
theorem dX18_visit_101 : decode cX18_visit 101 = .ok (.checkcast 373, 3) := by decide +kernel
theorem dX18_visit_104 : decode cX18_visit 104 = .ok (.getfield 375, 3) := by decide +kernel
theorem dX18_visit_107 : decode cX18_visit 107 = .ok (.bipush 103, 2) := by decide +kernel
theorem dX18_visit_109 : decode cX18_visit 109 = .ok (.if_icmp .ne 32, 3) := by decide +kernel
theorem dX18_visit_112 : decode cX18_visit 112 = .ok (.aload_n 0, 1) := by decide +kernel
theorem dX18_visit_113 : decode cX18_visit 113 = .ok (.getfield 20, 3) := by decide +kernel
theorem dX18_visit_116 : decode cX18_visit 116 = .ok (.iload 6, 2) := by decide +kernel
theorem dX18_visit_118 : decode cX18_visit 118 = .ok (.invokevirtual 294, 3) := by decide +kernel
theorem dX18_visit_121 : decode cX18_visit 121 = .ok (.checkcast 373, 3) := by decide +kernel
theorem dX18_visit_124 : decode cX18_visit 124 = .ok (.getfield 419, 3) := by decide +kernel
theorem dX18_visit_127 : decode cX18_visit 127 = .ok (.iload_n 1, 1) := by decide +kernel
theorem dX18_visit_128 : decode cX18_visit 128 = .ok (.if_icmp .ne 13, 3) := by decide +kernel
theorem dX18_visit_131 : decode cX18_visit 131 = .ok (.aload_n 0, 1) := by decide +kernel
theorem dX18_visit_132 : decode cX18_visit 132 = .ok (.iload_n 3, 1) := by decide +kernel
theorem dX18_visit_133 : decode cX18_visit 133 = .ok (.iload 6, 2) := by decide +kernel
theorem dX18_visit_135 : decode cX18_visit 135 = .ok (.invokevirtual 471, 3) := by decide +kernel
theorem dX18_visit_138 : decode cX18_visit 138 = .ok (.goto 6, 3) := by decide +kernel
theorem dX18_visit_141 : decode cX18_visit 141 = .ok (.sipush 256, 3) := by decide +kernel
theorem dX18_visit_144 : decode cX18_visit 144 = .ok (.istore 7, 2) := by decide +kernel
theorem dX18_visit_146 : decode cX18_visit 146 = .ok (.iload 5, 2) := by decide +kernel
theorem dX18_visit_148 : decode cX18_visit 148 = .ok (.ifCond .eq 14, 3) := by decide +kernel
theorem dX18_visit_151 : decode cX18_visit 151 = .ok (.iload 7, 2) := by decide +kernel
theorem dX18_visit_153 : decode cX18_visit 153 = .ok (.bipush 24, 2) := by decide +kernel
theorem dX18_visit_155 : decode cX18_visit 155 = .ok (.if_icmp .lt 7, 3) := by decide +kernel
theorem dX18_visit_158 : decode cX18_visit 158 = .ok (.iconst 1, 1) := by decide +kernel
theorem dX18_visit_159 : decode cX18_visit 159 = .ok (.goto 4, 3) := by decide +kernel
theorem dX18_visit_162 : decode cX18_visit 162 = .ok (.iconst 0, 1) := by decide +kernel
theorem dX18_visit_163 : decode cX18_visit 163 = .ok (.istore 5, 2) := by decide +kernel
theorem dX18_visit_165 : decode cX18_visit 165 = .ok (.iinc 6 1, 3) := by decide +kernel
theorem dX18_visit_168 : decode cX18_visit 168 = .ok (.goto (-88), 3) := by decide +kernel
theorem dX18_visit_171 : decode cX18_visit 171 = .ok (.aload 4, 2) := by decide +kernel
theorem dX18_visit_173 : decode cX18_visit 173 = .ok (.iload 5, 2) := by decide +kernel
theorem dX18_visit_175 : decode cX18_visit 175 = .ok (.ifCond .eq 8, 3) := by decide +kernel
theorem dX18_visit_178 : decode cX18_visit 178 = .ok (.bipush 103, 2) := by decide +kernel
theorem dX18_visit_180 : decode cX18_visit 180 = .ok (.goto 5, 3) := by decide +kernel
theorem dX18_visit_183 : decode cX18_visit 183 = .ok (.bipush 118, 2) := by decide +kernel
theorem dX18_visit_185 : decode cX18_visit 185 = .ok (.putfield 375, 3) := by decide +kernel
theorem dX18_visit_188 : decode cX18_visit 188 = .ok (.iload_n 2, 1) := by decide +kernel
theorem dX18_visit_189 : decode cX18_visit 189 = .ok (.iload 5, 2) := by decide +kernel
theorem dX18_visit_191 : decode cX18_visit 191 = .ok (.ifCond .eq 7, 3) := by decide +kernel
theorem dX18_visit_194 : decode cX18_visit 194 = .ok (.iconst 1, 1) := by decide +kernel
theorem dX18_visit_195 : decode cX18_visit 195 = .ok (.goto 4, 3) := by decide +kernel
theorem dX18_visit_198 : decode cX18_visit 198 = .ok (.iconst 0, 1) := by decide +kernel
theorem dX18_visit_199 : decode cX18_visit 199 = .ok (.iadd, 1) := by decide +kernel
theorem dX18_visit_200 : decode cX18_visit 200 = .ok (.istore_n 2, 1) := by decide +kernel
theorem dX18_visit_201 : decode cX18_visit 201 = .ok (.aload_n 0, 1) := by decide +kernel
theorem dX18_visit_202 : decode cX18_visit 202 = .ok (.dup, 1) := by decide +kernel
theorem dX18_visit_203 : decode cX18_visit 203 = .ok (.getfield 505, 3) := by decide +kernel
theorem dX18_visit_206 : decode cX18_visit 206 = .ok (.iload 5, 2) := by decide +kernel
theorem dX18_visit_208 : decode cX18_visit 208 = .ok (.ifCond .eq 7, 3) := by decide +kernel
theorem dX18_visit_211 : decode cX18_visit 211 = .ok (.iconst 0, 1) := by decide +kernel
theorem dX18_visit_212 : decode cX18_visit 212 = .ok (.goto 4, 3) := by decide +kernel
theorem dX18_visit_215 : decode cX18_visit 215 = .ok (.iconst 1, 1) := by decide +kernel
theorem dX18_visit_216 : decode cX18_visit 216 = .ok (.iadd, 1) := by decide +kernel
theorem dX18_visit_217 : decode cX18_visit 217 = .ok (.putfield 505, 3) := by decide +kernel
theorem dX18_visit_220 : decode cX18_visit 220 = .ok (.iinc 3 1, 3) := by decide +kernel
theorem dX18_visit_223 : decode cX18_visit 223 = .ok (.goto (-196), 3) := by decide +kernel
theorem dX18_visit_226 : decode cX18_visit 226 = .ok (.iload_n 2, 1) := by decide +kernel
theorem dX18_visit_227 : decode cX18_visit 227 = .ok (.ireturn, 1) := by decide +kernel
theorem dX18_disclaimed_0 : decode cX18_disclaimed 0 = .ok (.aload_n 0, 1) := by decide +kernel
theorem dX18_disclaimed_1 : decode cX18_disclaimed 1 = .ok (.iconst 0, 1) := by decide +kernel
theorem dX18_disclaimed_2 : decode cX18_disclaimed 2 = .ok (.putfield 73, 3) := by decide +kernel
theorem dX18_disclaimed_5 : decode cX18_disclaimed 5 = .ok (.aload_n 0, 1) := by decide +kernel
theorem dX18_disclaimed_6 : decode cX18_disclaimed 6 = .ok (.getfield 505, 3) := by decide +kernel
theorem dX18_disclaimed_9 : decode cX18_disclaimed 9 = .ok (.ireturn, 1) := by decide +kernel
set_option maxRecDepth 20000 in
theorem ggX18_latest_Jx4a65c_size_8abf5 : GoodIn wsX18_latest wsJx4a65c_size_8abf5 := goodIn_r _ [7, 8, 63, 64, 65] (by decide +kernel) (by decide +kernel)
set_option maxRecDepth 20000 in
theorem gX18_latest_Jx4a65c_size_8abf5 : GoodIn wsX18_latest (wsV RX18 288 RJx4a65c yJx4a65c_size_8abf5 wsJx4a65c_size_8abf5) := goodIn_app (goodIn_of _ (by decide +kernel)) ggX18_latest_Jx4a65c_size_8abf5
set_option maxRecDepth 20000 in
theorem ggX18_latest_Jx4a65c_get_915e3 : GoodIn wsX18_latest wsJx4a65c_get_915e3 := goodIn_r _ [12, 8, 13, 14, 15, 16, 17, 18, 19, 20, 21, 22, 23, 6, 24, 25, 63, 64, 65] (by decide +kernel) (by decide +kernel)
set_option maxRecDepth 20000 in
theorem gX18_latest_Jx4a65c_get_915e3 : GoodIn wsX18_latest (wsV RX18 294 RJx4a65c yJx4a65c_get_915e3 wsJx4a65c_get_915e3) := goodIn_app (goodIn_of _ (by decide +kernel)) ggX18_latest_Jx4a65c_get_915e3
theorem dX18_latest_0 : decode cX18_latest 0 = .ok (.iconst (-1), 1) := by decide +kernel
theorem dX18_latest_1 : decode cX18_latest 1 = .ok (.istore_n 3, 1) := by decide +kernel
theorem dX18_latest_2 : decode cX18_latest 2 = .ok (.iconst 0, 1) := by decide +kernel
theorem dX18_latest_3 : decode cX18_latest 3 = .ok (.istore 4, 2) := by decide +kernel
theorem dX18_latest_5 : decode cX18_latest 5 = .ok (.iload 4, 2) := by decide +kernel
theorem dX18_latest_7 : decode cX18_latest 7 = .ok (.aload_n 0, 1) := by decide +kernel
theorem dX18_latest_8 : decode cX18_latest 8 = .ok (.getfield 23, 3) := by decide +kernel
theorem dX18_latest_11 : decode cX18_latest 11 = .ok (.invokevirtual 288, 3) := by decide +kernel
theorem dX18_latest_14 : decode cX18_latest 14 = .ok (.if_icmp .ge 59, 3) := by decide +kernel
theorem dX18_latest_17 : decode cX18_latest 17 = .ok (.aload_n 0, 1) := by decide +kernel
theorem dX18_latest_18 : decode cX18_latest 18 = .ok (.getfield 23, 3) := by decide +kernel
theorem dX18_latest_21 : decode cX18_latest 21 = .ok (.iload 4, 2) := by decide +kernel
theorem dX18_latest_23 : decode cX18_latest 23 = .ok (.invokevirtual 294, 3) := by decide +kernel
theorem dX18_latest_26 : decode cX18_latest 26 = .ok (.checkcast 508, 3) := by decide +kernel
theorem dX18_latest_29 : decode cX18_latest 29 = .ok (.astore 5, 2) := by decide +kernel
theorem dX18_latest_31 : decode cX18_latest 31 = .ok (.aload 5, 2) := by decide +kernel
theorem dX18_latest_33 : decode cX18_latest 33 = .ok (.getfield 510, 3) := by decide +kernel
theorem dX18_latest_36 : decode cX18_latest 36 = .ok (.ifCond .eq 29, 3) := by decide +kernel
theorem dX18_latest_39 : decode cX18_latest 39 = .ok (.aload 5, 2) := by decide +kernel
theorem dX18_latest_41 : decode cX18_latest 41 = .ok (.getfield 513, 3) := by decide +kernel
theorem dX18_latest_44 : decode cX18_latest 44 = .ok (.iload_n 1, 1) := by decide +kernel
theorem dX18_latest_45 : decode cX18_latest 45 = .ok (.if_icmp .ne 20, 3) := by decide +kernel
theorem dX18_latest_48 : decode cX18_latest 48 = .ok (.aload 5, 2) := by decide +kernel
theorem dX18_latest_50 : decode cX18_latest 50 = .ok (.getfield 514, 3) := by decide +kernel
theorem dX18_latest_53 : decode cX18_latest 53 = .ok (.bipush 8, 2) := by decide +kernel
theorem dX18_latest_55 : decode cX18_latest 55 = .ok (.idiv, 1) := by decide +kernel
theorem dX18_latest_56 : decode cX18_latest 56 = .ok (.iload_n 2, 1) := by decide +kernel
theorem dX18_latest_57 : decode cX18_latest 57 = .ok (.if_icmp .ne 8, 3) := by decide +kernel
theorem dX18_latest_60 : decode cX18_latest 60 = .ok (.iload 4, 2) := by decide +kernel
theorem dX18_latest_62 : decode cX18_latest 62 = .ok (.goto 4, 3) := by decide +kernel
theorem dX18_latest_65 : decode cX18_latest 65 = .ok (.iload_n 3, 1) := by decide +kernel
theorem dX18_latest_66 : decode cX18_latest 66 = .ok (.istore_n 3, 1) := by decide +kernel
theorem dX18_latest_67 : decode cX18_latest 67 = .ok (.iinc 4 1, 3) := by decide +kernel
theorem dX18_latest_70 : decode cX18_latest 70 = .ok (.goto (-65), 3) := by decide +kernel
theorem dX18_latest_73 : decode cX18_latest 73 = .ok (.iload_n 3, 1) := by decide +kernel
theorem dX18_latest_74 : decode cX18_latest 74 = .ok (.ireturn, 1) := by decide +kernel
set_option maxRecDepth 20000 in
theorem ggX18_judge_Jx4a65c_get_915e3 : GoodIn wsX18_judge wsJx4a65c_get_915e3 := goodIn_r _ [8, 9, 10, 11, 12, 13, 14, 15, 16, 17, 18, 19, 20, 7, 21, 22, 127, 128, 129] (by decide +kernel) (by decide +kernel)
set_option maxRecDepth 20000 in
theorem gX18_judge_Jx4a65c_get_915e3 : GoodIn wsX18_judge (wsV RX18 294 RJx4a65c yJx4a65c_get_915e3 wsJx4a65c_get_915e3) := goodIn_app (goodIn_of _ (by decide +kernel)) ggX18_judge_Jx4a65c_get_915e3
set_option maxRecDepth 20000 in
theorem ggX18_judge_Jx4a65c_add_9ea2d : GoodIn wsX18_judge wsJx4a65c_add_9ea2d := goodIn_r _ [26, 27, 28, 22, 9, 29, 30, 31, 7, 32, 33, 34, 35, 36, 37, 38, 39, 40, 41, 42, 43, 44, 45, 46, 47, 48, 49, 50, 51, 52, 53, 54, 55, 56, 57, 58, 59, 60, 61, 62, 63, 64, 65, 66, 67, 68, 69, 70, 71, 72, 73, 74, 75, 127, 128, 129] (by decide +kernel) (by decide +kernel)
set_option maxRecDepth 20000 in
theorem gX18_judge_Jx4a65c_add_9ea2d : GoodIn wsX18_judge (wsV RX18 306 RJx4a65c yJx4a65c_add_9ea2d wsJx4a65c_add_9ea2d) := goodIn_app (goodIn_of _ (by decide +kernel)) ggX18_judge_Jx4a65c_add_9ea2d
set_option maxRecDepth 20000 in
theorem ggX18_judge_Jx4a65c_size_8abf5 : GoodIn wsX18_judge wsJx4a65c_size_8abf5 := goodIn_r _ [79, 9, 127, 128, 129] (by decide +kernel) (by decide +kernel)
set_option maxRecDepth 20000 in
theorem gX18_judge_Jx4a65c_size_8abf5 : GoodIn wsX18_judge (wsV RX18 288 RJx4a65c yJx4a65c_size_8abf5 wsJx4a65c_size_8abf5) := goodIn_app (goodIn_of _ (by decide +kernel)) ggX18_judge_Jx4a65c_size_8abf5
theorem dX18_judge_0 : decode cX18_judge 0 = .ok (.aload_n 1, 1) := by decide +kernel
theorem dX18_judge_1 : decode cX18_judge 1 = .ok (.aload_n 0, 1) := by decide +kernel
theorem dX18_judge_2 : decode cX18_judge 2 = .ok (.getfield 20, 3) := by decide +kernel
theorem dX18_judge_5 : decode cX18_judge 5 = .ok (.aload_n 1, 1) := by decide +kernel
theorem dX18_judge_6 : decode cX18_judge 6 = .ok (.getfield 517, 3) := by decide +kernel
theorem dX18_judge_9 : decode cX18_judge 9 = .ok (.invokevirtual 294, 3) := by decide +kernel
theorem dX18_judge_12 : decode cX18_judge 12 = .ok (.checkcast 373, 3) := by decide +kernel
theorem dX18_judge_15 : decode cX18_judge 15 = .ok (.getfield 375, 3) := by decide +kernel
theorem dX18_judge_18 : decode cX18_judge 18 = .ok (.putfield 520, 3) := by decide +kernel
theorem dX18_judge_21 : decode cX18_judge 21 = .ok (.aload_n 0, 1) := by decide +kernel
theorem dX18_judge_22 : decode cX18_judge 22 = .ok (.getfield 20, 3) := by decide +kernel
theorem dX18_judge_25 : decode cX18_judge 25 = .ok (.aload_n 1, 1) := by decide +kernel
theorem dX18_judge_26 : decode cX18_judge 26 = .ok (.getfield 517, 3) := by decide +kernel
theorem dX18_judge_29 : decode cX18_judge 29 = .ok (.invokevirtual 294, 3) := by decide +kernel
theorem dX18_judge_32 : decode cX18_judge 32 = .ok (.checkcast 373, 3) := by decide +kernel
theorem dX18_judge_35 : decode cX18_judge 35 = .ok (.bipush 118, 2) := by decide +kernel
theorem dX18_judge_37 : decode cX18_judge 37 = .ok (.putfield 375, 3) := by decide +kernel
theorem dX18_judge_40 : decode cX18_judge 40 = .ok (.aload_n 0, 1) := by decide +kernel
theorem dX18_judge_41 : decode cX18_judge 41 = .ok (.getfield 23, 3) := by decide +kernel
theorem dX18_judge_44 : decode cX18_judge 44 = .ok (.aload_n 1, 1) := by decide +kernel
theorem dX18_judge_45 : decode cX18_judge 45 = .ok (.invokevirtual 306, 3) := by decide +kernel
theorem dX18_judge_48 : decode cX18_judge 48 = .ok (.istore_n 2, 1) := by decide +kernel
theorem dX18_judge_49 : decode cX18_judge 49 = .ok (.aload_n 0, 1) := by decide +kernel
theorem dX18_judge_50 : decode cX18_judge 50 = .ok (.getfield 23, 3) := by decide +kernel
theorem dX18_judge_53 : decode cX18_judge 53 = .ok (.invokevirtual 288, 3) := by decide +kernel
theorem dX18_judge_56 : decode cX18_judge 56 = .ok (.iconst 1, 1) := by decide +kernel
theorem dX18_judge_57 : decode cX18_judge 57 = .ok (.isub, 1) := by decide +kernel
theorem dX18_judge_58 : decode cX18_judge 58 = .ok (.ireturn, 1) := by decide +kernel
set_option maxRecDepth 20000 in
theorem ggX18_sue_X18_isPerson : GoodIn wsX18_sue wsX18_isPerson := goodIn_r _ [15, 1, 16, 17, 18, 19, 20, 21, 22, 23, 14, 24, 304, 305, 306, 307, 308, 309, 310, 311, 312, 313, 314, 315, 316, 317, 318, 319, 320, 321, 322, 323, 324, 325, 326, 327, 328, 329, 330, 331, 368, 369, 370] (by decide +kernel) (by decide +kernel)
set_option maxRecDepth 20000 in
theorem gX18_sue_X18_isPerson : GoodIn wsX18_sue (wsV RX18 291 RX18 yX18_isPerson wsX18_isPerson) := goodIn_app (goodIn_of _ (by decide +kernel)) ggX18_sue_X18_isPerson
set_option maxRecDepth 20000 in
theorem ggX18_sue_X18_fails : GoodIn wsX18_sue wsX18_fails := goodIn_r _ [28, 29, 304, 305, 306, 307, 308, 309, 310, 311, 312, 313, 314, 315, 316, 317, 318, 319, 320, 321, 322, 323, 324, 325, 326, 327, 328, 329, 330, 331] (by decide +kernel) (by decide +kernel)
set_option maxRecDepth 20000 in
theorem gX18_sue_X18_fails : GoodIn wsX18_sue (wsV RX18 84 RX18 yX18_fails wsX18_fails) := goodIn_app (goodIn_of _ (by decide +kernel)) ggX18_sue_X18_fails
set_option maxRecDepth 20000 in
theorem ggX18_sue_Jx4a65c_get_915e3 : GoodIn wsX18_sue wsJx4a65c_get_915e3 := goodIn_r _ [33, 21, 34, 35, 36, 37, 38, 39, 40, 41, 42, 43, 44, 19, 45, 46, 368, 369, 370] (by decide +kernel) (by decide +kernel)
set_option maxRecDepth 20000 in
theorem gX18_sue_Jx4a65c_get_915e3 : GoodIn wsX18_sue (wsV RX18 294 RJx4a65c yJx4a65c_get_915e3 wsJx4a65c_get_915e3) := goodIn_app (goodIn_of _ (by decide +kernel)) ggX18_sue_Jx4a65c_get_915e3
set_option maxRecDepth 20000 in
theorem ggX18_sue_X18_bears : GoodIn wsX18_sue wsX18_bears := goodIn_ca (goodIn_r _ [50, 3, 4, 51, 52, 53, 54, 1, 2, 55, 56, 57, 14, 58, 30, 31, 32, 19, 33, 21, 34, 35, 36, 37, 38, 39, 40, 41, 42, 43, 44, 45, 46, 16, 17, 18, 20, 59, 60, 61, 62, 63, 64, 65, 66, 67, 68, 69, 70, 71, 72, 73, 74, 75, 76, 77, 78, 79, 80, 81, 82, 83, 84, 85, 86, 87, 88, 89, 90, 91, 92, 93, 94, 95, 96, 97, 98, 99, 100, 101, 102, 103, 104, 105, 106, 107, 108, 109, 110, 111, 112, 113, 114, 115, 116, 117, 118, 119, 120, 47, 48, 49, 121, 122, 123, 124, 125, 126, 127, 332, 333, 334, 335, 336, 337, 338, 339, 340, 341, 342, 343, 344, 345, 346, 347, 348, 304, 305, 306, 307, 308, 309, 310, 311, 312, 313, 314, 315, 316, 317, 318, 319, 320, 321, 322, 323, 324, 325, 326, 327, 328, 329, 330, 331, 349, 350, 351, 352, 353, 354, 355, 356, 357, 358, 368, 369, 370, 371, 372, 373, 374] (by decide +kernel) (by decide +kernel)) (goodIn_sub (fun _ h => List.mem_cons_of_mem _ (List.mem_append_right _ h)) (by decide +kernel))
set_option maxRecDepth 20000 in
theorem gX18_sue_X18_bears : GoodIn wsX18_sue (wsV RX18 347 RX18 yX18_bears wsX18_bears) := goodIn_app (goodIn_of _ (by decide +kernel)) ggX18_sue_X18_bears
set_option maxRecDepth 20000 in
theorem ggX18_sue_X18_far : GoodIn wsX18_sue wsX18_far := goodIn_ca (goodIn_r _ [131, 54, 132, 133, 134, 135, 136, 14, 137, 3, 4, 138, 139, 140, 30, 31, 32, 19, 33, 21, 34, 35, 36, 37, 38, 39, 40, 41, 42, 43, 44, 45, 46, 141, 142, 143, 63, 64, 144, 145, 146, 147, 148, 149, 150, 151, 152, 153, 154, 155, 156, 157, 158, 159, 160, 161, 162, 163, 164, 165, 166, 167, 168, 169, 170, 171, 172, 173, 174, 175, 176, 177, 178, 179, 180, 181, 182, 183, 184, 185, 186, 187, 188, 189, 190, 191, 192, 193, 194, 195, 196, 197, 198, 199, 200, 201, 202, 203, 204, 205, 206, 207, 208, 209, 210, 22, 23, 24, 211, 212, 213, 214, 215, 216, 217, 218, 219, 220, 221, 222, 223, 224, 225, 226, 227, 228, 229, 230, 231, 232, 304, 305, 306, 307, 308, 309, 310, 311, 312, 313, 314, 315, 316, 317, 318, 319, 320, 321, 322, 323, 324, 325, 326, 327, 328, 329, 330, 331, 375, 376, 377, 378, 379, 380, 349, 350, 351, 352, 353, 354, 355, 356, 357, 358, 368, 369, 370, 381, 382, 383, 384, 385, 386, 387, 388, 389, 390, 391, 392, 393, 394, 395] (by decide +kernel) (by decide +kernel)) (goodIn_sub (fun _ h => List.mem_cons_of_mem _ (List.mem_append_right _ h)) (by decide +kernel))
set_option maxRecDepth 20000 in
theorem gX18_sue_X18_far : GoodIn wsX18_sue (wsV RX18 471 RX18 yX18_far wsX18_far) := goodIn_app (goodIn_of _ (by decide +kernel)) ggX18_sue_X18_far
set_option maxRecDepth 20000 in
theorem ggX18_sue_Jx4a65c_size_8abf5 : GoodIn wsX18_sue wsJx4a65c_size_8abf5 := goodIn_r _ [20, 21, 368, 369, 370] (by decide +kernel) (by decide +kernel)
set_option maxRecDepth 20000 in
theorem gX18_sue_Jx4a65c_size_8abf5 : GoodIn wsX18_sue (wsV RX18 288 RJx4a65c yJx4a65c_size_8abf5 wsJx4a65c_size_8abf5) := goodIn_app (goodIn_of _ (by decide +kernel)) ggX18_sue_Jx4a65c_size_8abf5
set_option maxRecDepth 20000 in
theorem ggX18_sue_X18_latest : GoodIn wsX18_sue wsX18_latest := goodIn_r _ [236, 5, 6, 16, 17, 18, 19, 20, 21, 30, 31, 32, 33, 34, 35, 36, 37, 38, 39, 40, 41, 42, 43, 44, 45, 46, 304, 305, 306, 307, 308, 309, 310, 311, 312, 313, 314, 315, 316, 317, 318, 319, 320, 321, 322, 323, 324, 325, 326, 327, 328, 329, 330, 331, 359, 360, 361, 362, 363, 364, 365, 366, 367, 368, 369, 370] (by decide +kernel) (by decide +kernel)
set_option maxRecDepth 20000 in
theorem gX18_sue_X18_latest : GoodIn wsX18_sue (wsV RX18 523 RX18 yX18_latest wsX18_latest) := goodIn_app (goodIn_of _ (by decide +kernel)) ggX18_sue_X18_latest
set_option maxRecDepth 20000 in
theorem ggX18_sue_X16_init : GoodIn wsX18_sue wsX16_init := goodIn_r _ [239, 240, 63, 64, 241, 242, 243, 244, 245, 246, 247, 248, 359, 360, 361, 362, 363, 364, 365, 366, 367] (by decide +kernel) (by decide +kernel)
set_option maxRecDepth 20000 in
theorem gX18_sue_X16_init : GoodIn wsX18_sue (wsX16_init) := ggX18_sue_X16_init
set_option maxRecDepth 20000 in
theorem ggX18_sue_X18_judge : GoodIn wsX18_sue wsX18_judge := goodIn_r _ [252, 3, 4, 5, 30, 31, 32, 19, 33, 21, 34, 35, 36, 37, 38, 39, 40, 41, 42, 43, 44, 45, 46, 253, 254, 255, 256, 257, 93, 258, 259, 260, 261, 262, 263, 264, 265, 266, 267, 268, 269, 270, 271, 272, 199, 273, 274, 275, 276, 277, 278, 279, 280, 281, 282, 283, 284, 285, 286, 287, 288, 289, 290, 291, 292, 293, 294, 295, 296, 297, 298, 299, 300, 301, 302, 303, 16, 17, 18, 20, 304, 305, 306, 307, 308, 309, 310, 311, 312, 313, 314, 315, 316, 317, 318, 319, 320, 321, 322, 323, 324, 325, 326, 327, 328, 329, 330, 331, 359, 360, 361, 362, 363, 364, 365, 366, 367, 349, 350, 351, 352, 353, 354, 355, 356, 357, 358, 368, 369, 370] (by decide +kernel) (by decide +kernel)
set_option maxRecDepth 20000 in
theorem gX18_sue_X18_judge : GoodIn wsX18_sue (wsV RX18 532 RX18 yX18_judge wsX18_judge) := goodIn_app (goodIn_of _ (by decide +kernel)) ggX18_sue_X18_judge
theorem dX18_sue_0 : decode cX18_sue 0 = .ok (.aload_n 0, 1) := by decide +kernel
theorem dX18_sue_1 : decode cX18_sue 1 = .ok (.aload_n 0, 1) := by decide +kernel
theorem dX18_sue_2 : decode cX18_sue 2 = .ok (.iload_n 1, 1) := by decide +kernel
theorem dX18_sue_3 : decode cX18_sue 3 = .ok (.invokevirtual 291, 3) := by decide +kernel
theorem dX18_sue_6 : decode cX18_sue 6 = .ok (.ifCond .eq 15, 3) := by decide +kernel
theorem dX18_sue_9 : decode cX18_sue 9 = .ok (.aload_n 0, 1) := by decide +kernel
theorem dX18_sue_10 : decode cX18_sue 10 = .ok (.iload_n 2, 1) := by decide +kernel
theorem dX18_sue_11 : decode cX18_sue 11 = .ok (.invokevirtual 291, 3) := by decide +kernel
theorem dX18_sue_14 : decode cX18_sue 14 = .ok (.ifCond .eq 7, 3) := by decide +kernel
theorem dX18_sue_17 : decode cX18_sue 17 = .ok (.iconst 0, 1) := by decide +kernel
theorem dX18_sue_18 : decode cX18_sue 18 = .ok (.goto 4, 3) := by decide +kernel
theorem dX18_sue_21 : decode cX18_sue 21 = .ok (.iconst 1, 1) := by decide +kernel
theorem dX18_sue_22 : decode cX18_sue 22 = .ok (.invokevirtual 84, 3) := by decide +kernel
theorem dX18_sue_25 : decode cX18_sue 25 = .ok (.ifCond .eq 5, 3) := by decide +kernel
theorem dX18_sue_28 : decode cX18_sue 28 = .ok (.iconst 0, 1) := by decide +kernel
theorem dX18_sue_29 : decode cX18_sue 29 = .ok (.ireturn, 1) := by decide +kernel
theorem dX18_sue_30 : decode cX18_sue 30 = .ok (.aload_n 0, 1) := by decide +kernel
theorem dX18_sue_31 : decode cX18_sue 31 = .ok (.getfield 16, 3) := by decide +kernel
theorem dX18_sue_34 : decode cX18_sue 34 = .ok (.iload_n 1, 1) := by decide +kernel
theorem dX18_sue_35 : decode cX18_sue 35 = .ok (.invokevirtual 294, 3) := by decide +kernel
theorem dX18_sue_38 : decode cX18_sue 38 = .ok (.checkcast 298, 3) := by decide +kernel
theorem dX18_sue_41 : decode cX18_sue 41 = .ok (.astore_n 3, 1) := by decide +kernel
theorem dX18_sue_42 : decode cX18_sue 42 = .ok (.aload_n 0, 1) := by decide +kernel
theorem dX18_sue_43 : decode cX18_sue 43 = .ok (.getfield 16, 3) := by decide +kernel
theorem dX18_sue_46 : decode cX18_sue 46 = .ok (.iload_n 2, 1) := by decide +kernel
theorem dX18_sue_47 : decode cX18_sue 47 = .ok (.invokevirtual 294, 3) := by decide +kernel
theorem dX18_sue_50 : decode cX18_sue 50 = .ok (.checkcast 298, 3) := by decide +kernel
theorem dX18_sue_53 : decode cX18_sue 53 = .ok (.astore 4, 2) := by decide +kernel
theorem dX18_sue_55 : decode cX18_sue 55 = .ok (.aload_n 3, 1) := by decide +kernel
theorem dX18_sue_56 : decode cX18_sue 56 = .ok (.getfield 330, 3) := by decide +kernel
theorem dX18_sue_59 : decode cX18_sue 59 = .ok (.ifCond .eq 11, 3) := by decide +kernel
theorem dX18_sue_62 : decode cX18_sue 62 = .ok (.aload_n 0, 1) := by decide +kernel
theorem dX18_sue_63 : decode cX18_sue 63 = .ok (.aload_n 3, 1) := by decide +kernel
theorem dX18_sue_64 : decode cX18_sue 64 = .ok (.invokevirtual 347, 3) := by decide +kernel
theorem dX18_sue_67 : decode cX18_sue 67 = .ok (.goto 4, 3) := by decide +kernel
theorem dX18_sue_70 : decode cX18_sue 70 = .ok (.aconst_null, 1) := by decide +kernel
theorem dX18_sue_71 : decode cX18_sue 71 = .ok (.astore 5, 2) := by decide +kernel
theorem dX18_sue_73 : decode cX18_sue 73 = .ok (.aload 4, 2) := by decide +kernel
theorem dX18_sue_75 : decode cX18_sue 75 = .ok (.getfield 330, 3) := by decide +kernel
theorem dX18_sue_78 : decode cX18_sue 78 = .ok (.ifCond .eq 12, 3) := by decide +kernel
theorem dX18_sue_81 : decode cX18_sue 81 = .ok (.aload_n 0, 1) := by decide +kernel
theorem dX18_sue_82 : decode cX18_sue 82 = .ok (.aload 4, 2) := by decide +kernel
theorem dX18_sue_84 : decode cX18_sue 84 = .ok (.invokevirtual 347, 3) := by decide +kernel
theorem dX18_sue_87 : decode cX18_sue 87 = .ok (.goto 4, 3) := by decide +kernel
theorem dX18_sue_90 : decode cX18_sue 90 = .ok (.aconst_null, 1) := by decide +kernel
theorem dX18_sue_91 : decode cX18_sue 91 = .ok (.astore 6, 2) := by decide +kernel
theorem dX18_sue_93 : decode cX18_sue 93 = .ok (.iload_n 1, 1) := by decide +kernel
theorem dX18_sue_94 : decode cX18_sue 94 = .ok (.iload_n 2, 1) := by decide +kernel
theorem dX18_sue_95 : decode cX18_sue 95 = .ok (.if_icmp .eq 69, 3) := by decide +kernel
theorem dX18_sue_98 : decode cX18_sue 98 = .ok (.aload 5, 2) := by decide +kernel
theorem dX18_sue_100 : decode cX18_sue 100 = .ok (.ifnull 64, 3) := by decide +kernel
theorem dX18_sue_103 : decode cX18_sue 103 = .ok (.aload 6, 2) := by decide +kernel
theorem dX18_sue_105 : decode cX18_sue 105 = .ok (.ifnull 59, 3) := by decide +kernel
theorem dX18_sue_108 : decode cX18_sue 108 = .ok (.aload 5, 2) := by decide +kernel
theorem dX18_sue_110 : decode cX18_sue 110 = .ok (.getfield 378, 3) := by decide +kernel
theorem dX18_sue_113 : decode cX18_sue 113 = .ok (.aload 6, 2) := by decide +kernel
theorem dX18_sue_115 : decode cX18_sue 115 = .ok (.getfield 378, 3) := by decide +kernel
theorem dX18_sue_118 : decode cX18_sue 118 = .ok (.if_icmp .eq 46, 3) := by decide +kernel
theorem dX18_sue_121 : decode cX18_sue 121 = .ok (.aload_n 0, 1) := by decide +kernel
theorem dX18_sue_122 : decode cX18_sue 122 = .ok (.getfield 20, 3) := by decide +kernel
theorem dX18_sue_125 : decode cX18_sue 125 = .ok (.aload 5, 2) := by decide +kernel
theorem dX18_sue_127 : decode cX18_sue 127 = .ok (.getfield 378, 3) := by decide +kernel
theorem dX18_sue_130 : decode cX18_sue 130 = .ok (.invokevirtual 294, 3) := by decide +kernel
theorem dX18_sue_133 : decode cX18_sue 133 = .ok (.checkcast 373, 3) := by decide +kernel
theorem dX18_sue_136 : decode cX18_sue 136 = .ok (.getfield 419, 3) := by decide +kernel
theorem dX18_sue_139 : decode cX18_sue 139 = .ok (.aload_n 0, 1) := by decide +kernel
theorem dX18_sue_140 : decode cX18_sue 140 = .ok (.getfield 20, 3) := by decide +kernel
theorem dX18_sue_143 : decode cX18_sue 143 = .ok (.aload 6, 2) := by decide +kernel
theorem dX18_sue_145 : decode cX18_sue 145 = .ok (.getfield 378, 3) := by decide +kernel
theorem dX18_sue_148 : decode cX18_sue 148 = .ok (.invokevirtual 294, 3) := by decide +kernel
theorem dX18_sue_151 : decode cX18_sue 151 = .ok (.checkcast 373, 3) := by decide +kernel
theorem dX18_sue_154 : decode cX18_sue 154 = .ok (.getfield 419, 3) := by decide +kernel
theorem dX18_sue_157 : decode cX18_sue 157 = .ok (.if_icmp .ne 7, 3) := by decide +kernel
theorem dX18_sue_160 : decode cX18_sue 160 = .ok (.iconst 1, 1) := by decide +kernel
theorem dX18_sue_161 : decode cX18_sue 161 = .ok (.goto 4, 3) := by decide +kernel
theorem dX18_sue_164 : decode cX18_sue 164 = .ok (.iconst 0, 1) := by decide +kernel
theorem dX18_sue_165 : decode cX18_sue 165 = .ok (.istore 7, 2) := by decide +kernel
theorem dX18_sue_167 : decode cX18_sue 167 = .ok (.iload 7, 2) := by decide +kernel
theorem dX18_sue_169 : decode cX18_sue 169 = .ok (.ifCond .eq 20, 3) := by decide +kernel
theorem dX18_sue_172 : decode cX18_sue 172 = .ok (.aload_n 0, 1) := by decide +kernel
theorem dX18_sue_173 : decode cX18_sue 173 = .ok (.aload 5, 2) := by decide +kernel
theorem dX18_sue_175 : decode cX18_sue 175 = .ok (.getfield 378, 3) := by decide +kernel
theorem dX18_sue_178 : decode cX18_sue 178 = .ok (.aload 6, 2) := by decide +kernel
theorem dX18_sue_180 : decode cX18_sue 180 = .ok (.getfield 378, 3) := by decide +kernel
theorem dX18_sue_183 : decode cX18_sue 183 = .ok (.invokevirtual 471, 3) := by decide +kernel
theorem dX18_sue_186 : decode cX18_sue 186 = .ok (.goto 6, 3) := by decide +kernel
theorem dX18_sue_189 : decode cX18_sue 189 = .ok (.sipush 256, 3) := by decide +kernel
theorem dX18_sue_192 : decode cX18_sue 192 = .ok (.istore 8, 2) := by decide +kernel
theorem dX18_sue_194 : decode cX18_sue 194 = .ok (.aload_n 0, 1) := by decide +kernel
theorem dX18_sue_195 : decode cX18_sue 195 = .ok (.iload 8, 2) := by decide +kernel
theorem dX18_sue_197 : decode cX18_sue 197 = .ok (.bipush 24, 2) := by decide +kernel
theorem dX18_sue_199 : decode cX18_sue 199 = .ok (.if_icmp .lt 7, 3) := by decide +kernel
theorem dX18_sue_202 : decode cX18_sue 202 = .ok (.iconst 2, 1) := by decide +kernel
theorem dX18_sue_203 : decode cX18_sue 203 = .ok (.goto 20, 3) := by decide +kernel
theorem dX18_sue_206 : decode cX18_sue 206 = .ok (.aload_n 0, 1) := by decide +kernel
theorem dX18_sue_207 : decode cX18_sue 207 = .ok (.getfield 23, 3) := by decide +kernel
theorem dX18_sue_210 : decode cX18_sue 210 = .ok (.invokevirtual 288, 3) := by decide +kernel
theorem dX18_sue_213 : decode cX18_sue 213 = .ok (.bipush 20, 2) := by decide +kernel
theorem dX18_sue_215 : decode cX18_sue 215 = .ok (.if_icmp .ne 7, 3) := by decide +kernel
theorem dX18_sue_218 : decode cX18_sue 218 = .ok (.iconst 3, 1) := by decide +kernel
theorem dX18_sue_219 : decode cX18_sue 219 = .ok (.goto 4, 3) := by decide +kernel
theorem dX18_sue_222 : decode cX18_sue 222 = .ok (.iconst 0, 1) := by decide +kernel
theorem dX18_sue_223 : decode cX18_sue 223 = .ok (.invokevirtual 84, 3) := by decide +kernel
theorem dX18_sue_226 : decode cX18_sue 226 = .ok (.ifCond .eq 5, 3) := by decide +kernel
theorem dX18_sue_229 : decode cX18_sue 229 = .ok (.iconst 0, 1) := by decide +kernel
theorem dX18_sue_230 : decode cX18_sue 230 = .ok (.ireturn, 1) := by decide +kernel
theorem dX18_sue_231 : decode cX18_sue 231 = .ok (.aload_n 0, 1) := by decide +kernel
theorem dX18_sue_232 : decode cX18_sue 232 = .ok (.getfield 20, 3) := by decide +kernel
theorem dX18_sue_235 : decode cX18_sue 235 = .ok (.aload 5, 2) := by decide +kernel
theorem dX18_sue_237 : decode cX18_sue 237 = .ok (.getfield 378, 3) := by decide +kernel
theorem dX18_sue_240 : decode cX18_sue 240 = .ok (.invokevirtual 294, 3) := by decide +kernel
theorem dX18_sue_243 : decode cX18_sue 243 = .ok (.checkcast 373, 3) := by decide +kernel
theorem dX18_sue_246 : decode cX18_sue 246 = .ok (.getfield 449, 3) := by decide +kernel
theorem dX18_sue_249 : decode cX18_sue 249 = .ok (.aload_n 0, 1) := by decide +kernel
theorem dX18_sue_250 : decode cX18_sue 250 = .ok (.getfield 20, 3) := by decide +kernel
theorem dX18_sue_253 : decode cX18_sue 253 = .ok (.aload 6, 2) := by decide +kernel
theorem dX18_sue_255 : decode cX18_sue 255 = .ok (.getfield 378, 3) := by decide +kernel
theorem dX18_sue_258 : decode cX18_sue 258 = .ok (.invokevirtual 294, 3) := by decide +kernel
theorem dX18_sue_261 : decode cX18_sue 261 = .ok (.checkcast 373, 3) := by decide +kernel
theorem dX18_sue_264 : decode cX18_sue 264 = .ok (.getfield 449, 3) := by decide +kernel
theorem dX18_sue_267 : decode cX18_sue 267 = .ok (.isub, 1) := by decide +kernel
theorem dX18_sue_268 : decode cX18_sue 268 = .ok (.istore 9, 2) := by decide +kernel
theorem dX18_sue_270 : decode cX18_sue 270 = .ok (.iload 9, 2) := by decide +kernel
theorem dX18_sue_272 : decode cX18_sue 272 = .ok (.ifCond .lt 21, 3) := by decide +kernel
theorem dX18_sue_275 : decode cX18_sue 275 = .ok (.iload 9, 2) := by decide +kernel
theorem dX18_sue_277 : decode cX18_sue 277 = .ok (.ifCond .ne 20, 3) := by decide +kernel
theorem dX18_sue_280 : decode cX18_sue 280 = .ok (.aload 5, 2) := by decide +kernel
theorem dX18_sue_282 : decode cX18_sue 282 = .ok (.getfield 378, 3) := by decide +kernel
theorem dX18_sue_285 : decode cX18_sue 285 = .ok (.aload 6, 2) := by decide +kernel
theorem dX18_sue_287 : decode cX18_sue 287 = .ok (.getfield 378, 3) := by decide +kernel
theorem dX18_sue_290 : decode cX18_sue 290 = .ok (.if_icmp .ge 7, 3) := by decide +kernel
theorem dX18_sue_293 : decode cX18_sue 293 = .ok (.iconst 1, 1) := by decide +kernel
theorem dX18_sue_294 : decode cX18_sue 294 = .ok (.goto 4, 3) := by decide +kernel
theorem dX18_sue_297 : decode cX18_sue 297 = .ok (.iconst 0, 1) := by decide +kernel
theorem dX18_sue_298 : decode cX18_sue 298 = .ok (.istore 10, 2) := by decide +kernel
theorem dX18_sue_300 : decode cX18_sue 300 = .ok (.iload 10, 2) := by decide +kernel
theorem dX18_sue_302 : decode cX18_sue 302 = .ok (.ifCond .eq 11, 3) := by decide +kernel
theorem dX18_sue_305 : decode cX18_sue 305 = .ok (.aload 5, 2) := by decide +kernel
theorem dX18_sue_307 : decode cX18_sue 307 = .ok (.getfield 378, 3) := by decide +kernel
theorem dX18_sue_310 : decode cX18_sue 310 = .ok (.goto 8, 3) := by decide +kernel
theorem dX18_sue_313 : decode cX18_sue 313 = .ok (.aload 6, 2) := by decide +kernel
theorem dX18_sue_315 : decode cX18_sue 315 = .ok (.getfield 378, 3) := by decide +kernel
theorem dX18_sue_318 : decode cX18_sue 318 = .ok (.istore 11, 2) := by decide +kernel
theorem dX18_sue_320 : decode cX18_sue 320 = .ok (.iload 10, 2) := by decide +kernel
theorem dX18_sue_322 : decode cX18_sue 322 = .ok (.ifCond .eq 11, 3) := by decide +kernel
theorem dX18_sue_325 : decode cX18_sue 325 = .ok (.aload 6, 2) := by decide +kernel
theorem dX18_sue_327 : decode cX18_sue 327 = .ok (.getfield 378, 3) := by decide +kernel
theorem dX18_sue_330 : decode cX18_sue 330 = .ok (.goto 8, 3) := by decide +kernel
theorem dX18_sue_333 : decode cX18_sue 333 = .ok (.aload 5, 2) := by decide +kernel
theorem dX18_sue_335 : decode cX18_sue 335 = .ok (.getfield 378, 3) := by decide +kernel
theorem dX18_sue_338 : decode cX18_sue 338 = .ok (.istore 12, 2) := by decide +kernel
theorem dX18_sue_340 : decode cX18_sue 340 = .ok (.aload_n 0, 1) := by decide +kernel
theorem dX18_sue_341 : decode cX18_sue 341 = .ok (.getfield 20, 3) := by decide +kernel
theorem dX18_sue_344 : decode cX18_sue 344 = .ok (.iload 11, 2) := by decide +kernel
theorem dX18_sue_346 : decode cX18_sue 346 = .ok (.invokevirtual 294, 3) := by decide +kernel
theorem dX18_sue_349 : decode cX18_sue 349 = .ok (.checkcast 373, 3) := by decide +kernel
theorem dX18_sue_352 : decode cX18_sue 352 = .ok (.getfield 419, 3) := by decide +kernel
theorem dX18_sue_355 : decode cX18_sue 355 = .ok (.istore 13, 2) := by decide +kernel
theorem dX18_sue_357 : decode cX18_sue 357 = .ok (.aload_n 0, 1) := by decide +kernel
theorem dX18_sue_358 : decode cX18_sue 358 = .ok (.iload 13, 2) := by decide +kernel
theorem dX18_sue_360 : decode cX18_sue 360 = .ok (.iload 8, 2) := by decide +kernel
theorem dX18_sue_362 : decode cX18_sue 362 = .ok (.bipush 8, 2) := by decide +kernel
theorem dX18_sue_364 : decode cX18_sue 364 = .ok (.idiv, 1) := by decide +kernel
theorem dX18_sue_365 : decode cX18_sue 365 = .ok (.invokevirtual 523, 3) := by decide +kernel
theorem dX18_sue_368 : decode cX18_sue 368 = .ok (.istore 14, 2) := by decide +kernel
theorem dX18_sue_370 : decode cX18_sue 370 = .ok (.iload 14, 2) := by decide +kernel
theorem dX18_sue_372 : decode cX18_sue 372 = .ok (.ifCond .lt 21, 3) := by decide +kernel
theorem dX18_sue_375 : decode cX18_sue 375 = .ok (.aload_n 0, 1) := by decide +kernel
theorem dX18_sue_376 : decode cX18_sue 376 = .ok (.getfield 23, 3) := by decide +kernel
theorem dX18_sue_379 : decode cX18_sue 379 = .ok (.iload 14, 2) := by decide +kernel
theorem dX18_sue_381 : decode cX18_sue 381 = .ok (.invokevirtual 294, 3) := by decide +kernel
theorem dX18_sue_384 : decode cX18_sue 384 = .ok (.checkcast 508, 3) := by decide +kernel
theorem dX18_sue_387 : decode cX18_sue 387 = .ok (.getfield 526, 3) := by decide +kernel
theorem dX18_sue_390 : decode cX18_sue 390 = .ok (.goto 35, 3) := by decide +kernel
theorem dX18_sue_393 : decode cX18_sue 393 = .ok (.aload_n 0, 1) := by decide +kernel
theorem dX18_sue_394 : decode cX18_sue 394 = .ok (.getfield 285, 3) := by decide +kernel
theorem dX18_sue_397 : decode cX18_sue 397 = .ok (.aload_n 0, 1) := by decide +kernel
theorem dX18_sue_398 : decode cX18_sue 398 = .ok (.getfield 20, 3) := by decide +kernel
theorem dX18_sue_401 : decode cX18_sue 401 = .ok (.iload 12, 2) := by decide +kernel
theorem dX18_sue_403 : decode cX18_sue 403 = .ok (.invokevirtual 294, 3) := by decide +kernel
theorem dX18_sue_406 : decode cX18_sue 406 = .ok (.checkcast 373, 3) := by decide +kernel
theorem dX18_sue_409 : decode cX18_sue 409 = .ok (.getfield 449, 3) := by decide +kernel
theorem dX18_sue_412 : decode cX18_sue 412 = .ok (.isub, 1) := by decide +kernel
theorem dX18_sue_413 : decode cX18_sue 413 = .ok (.bipush 60, 2) := by decide +kernel
theorem dX18_sue_415 : decode cX18_sue 415 = .ok (.if_icmp .lt 8, 3) := by decide +kernel
theorem dX18_sue_418 : decode cX18_sue 418 = .ok (.bipush 121, 2) := by decide +kernel
theorem dX18_sue_420 : decode cX18_sue 420 = .ok (.goto 5, 3) := by decide +kernel
theorem dX18_sue_423 : decode cX18_sue 423 = .ok (.bipush 101, 2) := by decide +kernel
theorem dX18_sue_425 : decode cX18_sue 425 = .ok (.istore 15, 2) := by decide +kernel
theorem dX18_sue_427 : decode cX18_sue 427 = .ok (.aload_n 0, 1) := by decide +kernel
theorem dX18_sue_428 : decode cX18_sue 428 = .ok (.new 508, 3) := by decide +kernel
theorem dX18_sue_431 : decode cX18_sue 431 = .ok (.dup, 1) := by decide +kernel
theorem dX18_sue_432 : decode cX18_sue 432 = .ok (.iload 15, 2) := by decide +kernel
theorem dX18_sue_434 : decode cX18_sue 434 = .ok (.bipush 101, 2) := by decide +kernel
theorem dX18_sue_436 : decode cX18_sue 436 = .ok (.if_icmp .ne 8, 3) := by decide +kernel
theorem dX18_sue_439 : decode cX18_sue 439 = .ok (.iload 11, 2) := by decide +kernel
theorem dX18_sue_441 : decode cX18_sue 441 = .ok (.goto 5, 3) := by decide +kernel
theorem dX18_sue_444 : decode cX18_sue 444 = .ok (.iload 12, 2) := by decide +kernel
theorem dX18_sue_446 : decode cX18_sue 446 = .ok (.iload 15, 2) := by decide +kernel
theorem dX18_sue_448 : decode cX18_sue 448 = .ok (.bipush 101, 2) := by decide +kernel
theorem dX18_sue_450 : decode cX18_sue 450 = .ok (.if_icmp .ne 8, 3) := by decide +kernel
theorem dX18_sue_453 : decode cX18_sue 453 = .ok (.iload 12, 2) := by decide +kernel
theorem dX18_sue_455 : decode cX18_sue 455 = .ok (.goto 5, 3) := by decide +kernel
theorem dX18_sue_458 : decode cX18_sue 458 = .ok (.iload 11, 2) := by decide +kernel
theorem dX18_sue_460 : decode cX18_sue 460 = .ok (.iload 13, 2) := by decide +kernel
theorem dX18_sue_462 : decode cX18_sue 462 = .ok (.iload 8, 2) := by decide +kernel
theorem dX18_sue_464 : decode cX18_sue 464 = .ok (.aload_n 0, 1) := by decide +kernel
theorem dX18_sue_465 : decode cX18_sue 465 = .ok (.getfield 285, 3) := by decide +kernel
theorem dX18_sue_468 : decode cX18_sue 468 = .ok (.iload 15, 2) := by decide +kernel
theorem dX18_sue_470 : decode cX18_sue 470 = .ok (.iconst 0, 1) := by decide +kernel
theorem dX18_sue_471 : decode cX18_sue 471 = .ok (.invokespecial 529, 3) := by decide +kernel
theorem dX18_sue_474 : decode cX18_sue 474 = .ok (.invokevirtual 532, 3) := by decide +kernel
theorem dX18_sue_477 : decode cX18_sue 477 = .ok (.ireturn, 1) := by decide +kernel
set_option maxRecDepth 20000 in
theorem ggX18_failsJudgment_Jx4a65c_size_8abf5 : GoodIn wsX18_failsJudgment wsJx4a65c_size_8abf5 := goodIn_r _ [6, 7, 45, 46, 47] (by decide +kernel) (by decide +kernel)
set_option maxRecDepth 20000 in
theorem gX18_failsJudgment_Jx4a65c_size_8abf5 : GoodIn wsX18_failsJudgment (wsV RX18 288 RJx4a65c yJx4a65c_size_8abf5 wsJx4a65c_size_8abf5) := goodIn_app (goodIn_of _ (by decide +kernel)) ggX18_failsJudgment_Jx4a65c_size_8abf5
set_option maxRecDepth 20000 in
theorem ggX18_failsJudgment_X18_in : GoodIn wsX18_failsJudgment wsX18_in := goodIn_r _ [11] (by decide +kernel) (by decide +kernel)
set_option maxRecDepth 20000 in
theorem gX18_failsJudgment_X18_in : GoodIn wsX18_failsJudgment (va_wsS RX18 77 yX18_in wsX18_in) := goodIn_app (goodIn_of _ (by decide +kernel)) ggX18_failsJudgment_X18_in
set_option maxRecDepth 20000 in
theorem ggX18_failsJudgment_X18_fails : GoodIn wsX18_failsJudgment wsX18_fails := goodIn_r _ [15, 16, 17, 18, 19, 20, 21, 22, 23, 24, 25, 26, 27, 28, 29, 30, 31, 32, 33, 34, 35, 36, 37, 38, 39, 40, 41, 42, 43, 44] (by decide +kernel) (by decide +kernel)
set_option maxRecDepth 20000 in
theorem gX18_failsJudgment_X18_fails : GoodIn wsX18_failsJudgment (wsV RX18 84 RX18 yX18_fails wsX18_fails) := goodIn_app (goodIn_of _ (by decide +kernel)) ggX18_failsJudgment_X18_fails
theorem dX18_failsJudgment_0 : decode cX18_failsJudgment 0 = .ok (.aload_n 0, 1) := by decide +kernel
theorem dX18_failsJudgment_1 : decode cX18_failsJudgment 1 = .ok (.iload_n 1, 1) := by decide +kernel
theorem dX18_failsJudgment_2 : decode cX18_failsJudgment 2 = .ok (.iconst 0, 1) := by decide +kernel
theorem dX18_failsJudgment_3 : decode cX18_failsJudgment 3 = .ok (.aload_n 0, 1) := by decide +kernel
theorem dX18_failsJudgment_4 : decode cX18_failsJudgment 4 = .ok (.getfield 23, 3) := by decide +kernel
theorem dX18_failsJudgment_7 : decode cX18_failsJudgment 7 = .ok (.invokevirtual 288, 3) := by decide +kernel
theorem dX18_failsJudgment_10 : decode cX18_failsJudgment 10 = .ok (.iconst 1, 1) := by decide +kernel
theorem dX18_failsJudgment_11 : decode cX18_failsJudgment 11 = .ok (.isub, 1) := by decide +kernel
theorem dX18_failsJudgment_12 : decode cX18_failsJudgment 12 = .ok (.invokestatic 77, 3) := by decide +kernel
theorem dX18_failsJudgment_15 : decode cX18_failsJudgment 15 = .ok (.ifCond .eq 7, 3) := by decide +kernel
theorem dX18_failsJudgment_18 : decode cX18_failsJudgment 18 = .ok (.iconst 0, 1) := by decide +kernel
theorem dX18_failsJudgment_19 : decode cX18_failsJudgment 19 = .ok (.goto 4, 3) := by decide +kernel
theorem dX18_failsJudgment_22 : decode cX18_failsJudgment 22 = .ok (.iconst 1, 1) := by decide +kernel
theorem dX18_failsJudgment_23 : decode cX18_failsJudgment 23 = .ok (.invokevirtual 84, 3) := by decide +kernel
theorem dX18_failsJudgment_26 : decode cX18_failsJudgment 26 = .ok (.ireturn, 1) := by decide +kernel
set_option maxRecDepth 20000 in
theorem ggX18_judged_X18_failsJudgment : GoodIn wsX18_judged wsX18_failsJudgment := goodIn_r _ [7, 1, 8, 9, 10, 11, 12, 13, 14, 15, 6, 16, 17, 18, 19, 20, 21, 39, 40, 41, 42, 43, 44, 45, 46, 47, 48, 49, 50, 51, 52, 53, 54, 55, 56, 57, 58, 59, 60, 61, 62, 63, 64, 65, 66, 76, 77, 78] (by decide +kernel) (by decide +kernel)
set_option maxRecDepth 20000 in
theorem gX18_judged_X18_failsJudgment : GoodIn wsX18_judged (wsV RX18 536 RX18 yX18_failsJudgment wsX18_failsJudgment) := goodIn_app (goodIn_of _ (by decide +kernel)) ggX18_judged_X18_failsJudgment
set_option maxRecDepth 20000 in
theorem ggX18_judged_Jx4a65c_get_915e3 : GoodIn wsX18_judged wsJx4a65c_get_915e3 := goodIn_r _ [25, 13, 26, 27, 28, 29, 30, 31, 32, 33, 34, 35, 36, 11, 37, 38, 76, 77, 78] (by decide +kernel) (by decide +kernel)
set_option maxRecDepth 20000 in
theorem gX18_judged_Jx4a65c_get_915e3 : GoodIn wsX18_judged (wsV RX18 294 RJx4a65c yJx4a65c_get_915e3 wsJx4a65c_get_915e3) := goodIn_app (goodIn_of _ (by decide +kernel)) ggX18_judged_Jx4a65c_get_915e3
theorem dX18_judged_0 : decode cX18_judged 0 = .ok (.aload_n 0, 1) := by decide +kernel
theorem dX18_judged_1 : decode cX18_judged 1 = .ok (.iload_n 1, 1) := by decide +kernel
theorem dX18_judged_2 : decode cX18_judged 2 = .ok (.invokevirtual 536, 3) := by decide +kernel
theorem dX18_judged_5 : decode cX18_judged 5 = .ok (.ifCond .eq 7, 3) := by decide +kernel
theorem dX18_judged_8 : decode cX18_judged 8 = .ok (.iconst 0, 1) := by decide +kernel
theorem dX18_judged_9 : decode cX18_judged 9 = .ok (.goto 17, 3) := by decide +kernel
theorem dX18_judged_12 : decode cX18_judged 12 = .ok (.aload_n 0, 1) := by decide +kernel
theorem dX18_judged_13 : decode cX18_judged 13 = .ok (.getfield 23, 3) := by decide +kernel
theorem dX18_judged_16 : decode cX18_judged 16 = .ok (.iload_n 1, 1) := by decide +kernel
theorem dX18_judged_17 : decode cX18_judged 17 = .ok (.invokevirtual 294, 3) := by decide +kernel
theorem dX18_judged_20 : decode cX18_judged 20 = .ok (.checkcast 508, 3) := by decide +kernel
theorem dX18_judged_23 : decode cX18_judged 23 = .ok (.getfield 526, 3) := by decide +kernel
theorem dX18_judged_26 : decode cX18_judged 26 = .ok (.ireturn, 1) := by decide +kernel
set_option maxRecDepth 20000 in
theorem ggX18_stands_X18_failsJudgment : GoodIn wsX18_stands wsX18_failsJudgment := goodIn_r _ [7, 1, 8, 9, 10, 11, 12, 13, 14, 15, 6, 16, 17, 18, 19, 20, 21, 39, 40, 41, 42, 43, 44, 45, 46, 47, 48, 49, 50, 51, 52, 53, 54, 55, 56, 57, 58, 59, 60, 61, 62, 63, 64, 65, 66, 76, 77, 78] (by decide +kernel) (by decide +kernel)
set_option maxRecDepth 20000 in
theorem gX18_stands_X18_failsJudgment : GoodIn wsX18_stands (wsV RX18 536 RX18 yX18_failsJudgment wsX18_failsJudgment) := goodIn_app (goodIn_of _ (by decide +kernel)) ggX18_stands_X18_failsJudgment
set_option maxRecDepth 20000 in
theorem ggX18_stands_Jx4a65c_get_915e3 : GoodIn wsX18_stands wsJx4a65c_get_915e3 := goodIn_r _ [25, 13, 26, 27, 28, 29, 30, 31, 32, 33, 34, 35, 36, 11, 37, 38, 76, 77, 78] (by decide +kernel) (by decide +kernel)
set_option maxRecDepth 20000 in
theorem gX18_stands_Jx4a65c_get_915e3 : GoodIn wsX18_stands (wsV RX18 294 RJx4a65c yJx4a65c_get_915e3 wsJx4a65c_get_915e3) := goodIn_app (goodIn_of _ (by decide +kernel)) ggX18_stands_Jx4a65c_get_915e3
theorem dX18_stands_0 : decode cX18_stands 0 = .ok (.aload_n 0, 1) := by decide +kernel
theorem dX18_stands_1 : decode cX18_stands 1 = .ok (.iload_n 1, 1) := by decide +kernel
theorem dX18_stands_2 : decode cX18_stands 2 = .ok (.invokevirtual 536, 3) := by decide +kernel
theorem dX18_stands_5 : decode cX18_stands 5 = .ok (.ifCond .ne 24, 3) := by decide +kernel
theorem dX18_stands_8 : decode cX18_stands 8 = .ok (.aload_n 0, 1) := by decide +kernel
theorem dX18_stands_9 : decode cX18_stands 9 = .ok (.getfield 23, 3) := by decide +kernel
theorem dX18_stands_12 : decode cX18_stands 12 = .ok (.iload_n 1, 1) := by decide +kernel
theorem dX18_stands_13 : decode cX18_stands 13 = .ok (.invokevirtual 294, 3) := by decide +kernel
theorem dX18_stands_16 : decode cX18_stands 16 = .ok (.checkcast 508, 3) := by decide +kernel
theorem dX18_stands_19 : decode cX18_stands 19 = .ok (.getfield 510, 3) := by decide +kernel
theorem dX18_stands_22 : decode cX18_stands 22 = .ok (.ifCond .eq 7, 3) := by decide +kernel
theorem dX18_stands_25 : decode cX18_stands 25 = .ok (.iconst 1, 1) := by decide +kernel
theorem dX18_stands_26 : decode cX18_stands 26 = .ok (.goto 4, 3) := by decide +kernel
theorem dX18_stands_29 : decode cX18_stands 29 = .ok (.iconst 0, 1) := by decide +kernel
theorem dX18_stands_30 : decode cX18_stands 30 = .ok (.ireturn, 1) := by decide +kernel
set_option maxRecDepth 20000 in
theorem ggX18_precedent_X18_in : GoodIn wsX18_precedent wsX18_in := goodIn_r _ [4] (by decide +kernel) (by decide +kernel)
set_option maxRecDepth 20000 in
theorem gX18_precedent_X18_in : GoodIn wsX18_precedent (va_wsS RX18 77 yX18_in wsX18_in) := goodIn_app (goodIn_of _ (by decide +kernel)) ggX18_precedent_X18_in
set_option maxRecDepth 20000 in
theorem ggX18_precedent_X18_fails : GoodIn wsX18_precedent wsX18_fails := goodIn_r _ [8, 9, 39, 40, 41, 42, 43, 44, 45, 46, 47, 48, 49, 50, 51, 52, 53, 54, 55, 56, 57, 58, 59, 60, 61, 62, 63, 64, 65, 66] (by decide +kernel) (by decide +kernel)
set_option maxRecDepth 20000 in
theorem gX18_precedent_X18_fails : GoodIn wsX18_precedent (wsV RX18 84 RX18 yX18_fails wsX18_fails) := goodIn_app (goodIn_of _ (by decide +kernel)) ggX18_precedent_X18_fails
set_option maxRecDepth 20000 in
theorem ggX18_precedent_X18_latest : GoodIn wsX18_precedent wsX18_latest := goodIn_r _ [13, 14, 15, 16, 17, 18, 19, 20, 21, 22, 23, 24, 25, 26, 27, 28, 29, 30, 31, 32, 33, 34, 35, 36, 37, 38, 39, 40, 41, 42, 43, 44, 45, 46, 47, 48, 49, 50, 51, 52, 53, 54, 55, 56, 57, 58, 59, 60, 61, 62, 63, 64, 65, 66, 67, 68, 69, 70, 71, 72, 73, 74, 75, 76, 77, 78] (by decide +kernel) (by decide +kernel)
set_option maxRecDepth 20000 in
theorem gX18_precedent_X18_latest : GoodIn wsX18_precedent (wsV RX18 523 RX18 yX18_latest wsX18_latest) := goodIn_app (goodIn_of _ (by decide +kernel)) ggX18_precedent_X18_latest
theorem dX18_precedent_0 : decode cX18_precedent 0 = .ok (.aload_n 0, 1) := by decide +kernel
theorem dX18_precedent_1 : decode cX18_precedent 1 = .ok (.iload_n 1, 1) := by decide +kernel
theorem dX18_precedent_2 : decode cX18_precedent 2 = .ok (.iconst 0, 1) := by decide +kernel
theorem dX18_precedent_3 : decode cX18_precedent 3 = .ok (.iconst 3, 1) := by decide +kernel
theorem dX18_precedent_4 : decode cX18_precedent 4 = .ok (.invokestatic 77, 3) := by decide +kernel
theorem dX18_precedent_7 : decode cX18_precedent 7 = .ok (.ifCond .eq 16, 3) := by decide +kernel
theorem dX18_precedent_10 : decode cX18_precedent 10 = .ok (.iload_n 2, 1) := by decide +kernel
theorem dX18_precedent_11 : decode cX18_precedent 11 = .ok (.iconst 0, 1) := by decide +kernel
theorem dX18_precedent_12 : decode cX18_precedent 12 = .ok (.iconst 2, 1) := by decide +kernel
theorem dX18_precedent_13 : decode cX18_precedent 13 = .ok (.invokestatic 77, 3) := by decide +kernel
theorem dX18_precedent_16 : decode cX18_precedent 16 = .ok (.ifCond .eq 7, 3) := by decide +kernel
theorem dX18_precedent_19 : decode cX18_precedent 19 = .ok (.iconst 0, 1) := by decide +kernel
theorem dX18_precedent_20 : decode cX18_precedent 20 = .ok (.goto 4, 3) := by decide +kernel
theorem dX18_precedent_23 : decode cX18_precedent 23 = .ok (.iconst 1, 1) := by decide +kernel
theorem dX18_precedent_24 : decode cX18_precedent 24 = .ok (.invokevirtual 84, 3) := by decide +kernel
theorem dX18_precedent_27 : decode cX18_precedent 27 = .ok (.ifCond .eq 5, 3) := by decide +kernel
theorem dX18_precedent_30 : decode cX18_precedent 30 = .ok (.iconst 0, 1) := by decide +kernel
theorem dX18_precedent_31 : decode cX18_precedent 31 = .ok (.ireturn, 1) := by decide +kernel
theorem dX18_precedent_32 : decode cX18_precedent 32 = .ok (.aload_n 0, 1) := by decide +kernel
theorem dX18_precedent_33 : decode cX18_precedent 33 = .ok (.iload_n 1, 1) := by decide +kernel
theorem dX18_precedent_34 : decode cX18_precedent 34 = .ok (.iload_n 2, 1) := by decide +kernel
theorem dX18_precedent_35 : decode cX18_precedent 35 = .ok (.invokevirtual 523, 3) := by decide +kernel
theorem dX18_precedent_38 : decode cX18_precedent 38 = .ok (.istore_n 3, 1) := by decide +kernel
theorem dX18_precedent_39 : decode cX18_precedent 39 = .ok (.aload_n 0, 1) := by decide +kernel
theorem dX18_precedent_40 : decode cX18_precedent 40 = .ok (.iload_n 3, 1) := by decide +kernel
theorem dX18_precedent_41 : decode cX18_precedent 41 = .ok (.ifCond .ge 7, 3) := by decide +kernel
theorem dX18_precedent_44 : decode cX18_precedent 44 = .ok (.iconst 2, 1) := by decide +kernel
theorem dX18_precedent_45 : decode cX18_precedent 45 = .ok (.goto 4, 3) := by decide +kernel
theorem dX18_precedent_48 : decode cX18_precedent 48 = .ok (.iconst 0, 1) := by decide +kernel
theorem dX18_precedent_49 : decode cX18_precedent 49 = .ok (.invokevirtual 84, 3) := by decide +kernel
theorem dX18_precedent_52 : decode cX18_precedent 52 = .ok (.ifCond .eq 7, 3) := by decide +kernel
theorem dX18_precedent_55 : decode cX18_precedent 55 = .ok (.iconst 0, 1) := by decide +kernel
theorem dX18_precedent_56 : decode cX18_precedent 56 = .ok (.goto 4, 3) := by decide +kernel
theorem dX18_precedent_59 : decode cX18_precedent 59 = .ok (.iload_n 3, 1) := by decide +kernel
theorem dX18_precedent_60 : decode cX18_precedent 60 = .ok (.ireturn, 1) := by decide +kernel
set_option maxRecDepth 20000 in
theorem ggX18_appeal_X18_failsJudgment : GoodIn wsX18_appeal wsX18_failsJudgment := goodIn_r _ [13, 1, 14, 15, 16, 17, 18, 19, 20, 21, 12, 22, 23, 24, 25, 26, 27, 116, 117, 118, 119, 120, 121, 122, 123, 124, 125, 126, 127, 128, 129, 130, 131, 132, 133, 134, 135, 136, 137, 138, 139, 140, 141, 142, 143, 163, 164, 165] (by decide +kernel) (by decide +kernel)
set_option maxRecDepth 20000 in
theorem gX18_appeal_X18_failsJudgment : GoodIn wsX18_appeal (wsV RX18 536 RX18 yX18_failsJudgment wsX18_failsJudgment) := goodIn_app (goodIn_of _ (by decide +kernel)) ggX18_appeal_X18_failsJudgment
set_option maxRecDepth 20000 in
theorem ggX18_appeal_Jx4a65c_get_915e3 : GoodIn wsX18_appeal wsJx4a65c_get_915e3 := goodIn_r _ [31, 19, 32, 33, 34, 35, 36, 37, 38, 39, 40, 41, 42, 17, 43, 44, 163, 164, 165] (by decide +kernel) (by decide +kernel)
set_option maxRecDepth 20000 in
theorem gX18_appeal_Jx4a65c_get_915e3 : GoodIn wsX18_appeal (wsV RX18 294 RJx4a65c yJx4a65c_get_915e3 wsJx4a65c_get_915e3) := goodIn_app (goodIn_of _ (by decide +kernel)) ggX18_appeal_Jx4a65c_get_915e3
set_option maxRecDepth 20000 in
theorem ggX18_appeal_Jx4a65c_size_8abf5 : GoodIn wsX18_appeal wsJx4a65c_size_8abf5 := goodIn_r _ [18, 19, 163, 164, 165] (by decide +kernel) (by decide +kernel)
set_option maxRecDepth 20000 in
theorem gX18_appeal_Jx4a65c_size_8abf5 : GoodIn wsX18_appeal (wsV RX18 288 RJx4a65c yJx4a65c_size_8abf5 wsJx4a65c_size_8abf5) := goodIn_app (goodIn_of _ (by decide +kernel)) ggX18_appeal_Jx4a65c_size_8abf5
set_option maxRecDepth 20000 in
theorem ggX18_appeal_X18_fails : GoodIn wsX18_appeal wsX18_fails := goodIn_r _ [26, 27, 116, 117, 118, 119, 120, 121, 122, 123, 124, 125, 126, 127, 128, 129, 130, 131, 132, 133, 134, 135, 136, 137, 138, 139, 140, 141, 142, 143] (by decide +kernel) (by decide +kernel)
set_option maxRecDepth 20000 in
theorem gX18_appeal_X18_fails : GoodIn wsX18_appeal (wsV RX18 84 RX18 yX18_fails wsX18_fails) := goodIn_app (goodIn_of _ (by decide +kernel)) ggX18_appeal_X18_fails
set_option maxRecDepth 20000 in
theorem ggX18_appeal_X16_init : GoodIn wsX18_appeal wsX16_init := goodIn_r _ [47, 48, 49, 50, 51, 52, 53, 54, 55, 56, 57, 58, 144, 145, 146, 147, 148, 149, 150, 151, 152] (by decide +kernel) (by decide +kernel)
set_option maxRecDepth 20000 in
theorem gX18_appeal_X16_init : GoodIn wsX18_appeal (wsX16_init) := ggX18_appeal_X16_init
set_option maxRecDepth 20000 in
theorem ggX18_appeal_X18_judge : GoodIn wsX18_appeal wsX18_judge := goodIn_r _ [62, 4, 5, 1, 28, 29, 30, 17, 31, 19, 32, 33, 34, 35, 36, 37, 38, 39, 40, 41, 42, 43, 44, 63, 64, 65, 66, 67, 68, 69, 70, 71, 72, 73, 74, 75, 76, 77, 78, 79, 80, 81, 82, 83, 84, 85, 86, 87, 88, 89, 90, 91, 92, 93, 94, 95, 96, 97, 98, 99, 100, 101, 102, 103, 104, 105, 106, 107, 108, 109, 110, 111, 112, 113, 114, 115, 14, 15, 16, 18, 116, 117, 118, 119, 120, 121, 122, 123, 124, 125, 126, 127, 128, 129, 130, 131, 132, 133, 134, 135, 136, 137, 138, 139, 140, 141, 142, 143, 144, 145, 146, 147, 148, 149, 150, 151, 152, 153, 154, 155, 156, 157, 158, 159, 160, 161, 162, 163, 164, 165] (by decide +kernel) (by decide +kernel)
set_option maxRecDepth 20000 in
theorem gX18_appeal_X18_judge : GoodIn wsX18_appeal (wsV RX18 532 RX18 yX18_judge wsX18_judge) := goodIn_app (goodIn_of _ (by decide +kernel)) ggX18_appeal_X18_judge
theorem dX18_appeal_0 : decode cX18_appeal 0 = .ok (.aload_n 0, 1) := by decide +kernel
theorem dX18_appeal_1 : decode cX18_appeal 1 = .ok (.iload_n 1, 1) := by decide +kernel
theorem dX18_appeal_2 : decode cX18_appeal 2 = .ok (.invokevirtual 536, 3) := by decide +kernel
theorem dX18_appeal_5 : decode cX18_appeal 5 = .ok (.ifCond .eq 5, 3) := by decide +kernel
theorem dX18_appeal_8 : decode cX18_appeal 8 = .ok (.iconst 0, 1) := by decide +kernel
theorem dX18_appeal_9 : decode cX18_appeal 9 = .ok (.ireturn, 1) := by decide +kernel
theorem dX18_appeal_10 : decode cX18_appeal 10 = .ok (.aload_n 0, 1) := by decide +kernel
theorem dX18_appeal_11 : decode cX18_appeal 11 = .ok (.getfield 23, 3) := by decide +kernel
theorem dX18_appeal_14 : decode cX18_appeal 14 = .ok (.iload_n 1, 1) := by decide +kernel
theorem dX18_appeal_15 : decode cX18_appeal 15 = .ok (.invokevirtual 294, 3) := by decide +kernel
theorem dX18_appeal_18 : decode cX18_appeal 18 = .ok (.checkcast 508, 3) := by decide +kernel
theorem dX18_appeal_21 : decode cX18_appeal 21 = .ok (.astore_n 2, 1) := by decide +kernel
theorem dX18_appeal_22 : decode cX18_appeal 22 = .ok (.aload_n 2, 1) := by decide +kernel
theorem dX18_appeal_23 : decode cX18_appeal 23 = .ok (.getfield 510, 3) := by decide +kernel
theorem dX18_appeal_26 : decode cX18_appeal 26 = .ok (.ifCond .eq 36, 3) := by decide +kernel
theorem dX18_appeal_29 : decode cX18_appeal 29 = .ok (.aload_n 0, 1) := by decide +kernel
theorem dX18_appeal_30 : decode cX18_appeal 30 = .ok (.getfield 285, 3) := by decide +kernel
theorem dX18_appeal_33 : decode cX18_appeal 33 = .ok (.aload_n 2, 1) := by decide +kernel
theorem dX18_appeal_34 : decode cX18_appeal 34 = .ok (.getfield 539, 3) := by decide +kernel
theorem dX18_appeal_37 : decode cX18_appeal 37 = .ok (.isub, 1) := by decide +kernel
theorem dX18_appeal_38 : decode cX18_appeal 38 = .ok (.iconst 2, 1) := by decide +kernel
theorem dX18_appeal_39 : decode cX18_appeal 39 = .ok (.if_icmp .ge 23, 3) := by decide +kernel
theorem dX18_appeal_42 : decode cX18_appeal 42 = .ok (.aload_n 2, 1) := by decide +kernel
theorem dX18_appeal_43 : decode cX18_appeal 43 = .ok (.getfield 540, 3) := by decide +kernel
theorem dX18_appeal_46 : decode cX18_appeal 46 = .ok (.ifCond .ne 16, 3) := by decide +kernel
theorem dX18_appeal_49 : decode cX18_appeal 49 = .ok (.aload_n 2, 1) := by decide +kernel
theorem dX18_appeal_50 : decode cX18_appeal 50 = .ok (.getfield 514, 3) := by decide +kernel
theorem dX18_appeal_53 : decode cX18_appeal 53 = .ok (.bipush 12, 2) := by decide +kernel
theorem dX18_appeal_55 : decode cX18_appeal 55 = .ok (.if_icmp .lt 7, 3) := by decide +kernel
theorem dX18_appeal_58 : decode cX18_appeal 58 = .ok (.iconst 1, 1) := by decide +kernel
theorem dX18_appeal_59 : decode cX18_appeal 59 = .ok (.goto 4, 3) := by decide +kernel
theorem dX18_appeal_62 : decode cX18_appeal 62 = .ok (.iconst 0, 1) := by decide +kernel
theorem dX18_appeal_63 : decode cX18_appeal 63 = .ok (.istore_n 3, 1) := by decide +kernel
theorem dX18_appeal_64 : decode cX18_appeal 64 = .ok (.aload_n 0, 1) := by decide +kernel
theorem dX18_appeal_65 : decode cX18_appeal 65 = .ok (.iload_n 3, 1) := by decide +kernel
theorem dX18_appeal_66 : decode cX18_appeal 66 = .ok (.ifCond .ne 7, 3) := by decide +kernel
theorem dX18_appeal_69 : decode cX18_appeal 69 = .ok (.iconst 2, 1) := by decide +kernel
theorem dX18_appeal_70 : decode cX18_appeal 70 = .ok (.goto 20, 3) := by decide +kernel
theorem dX18_appeal_73 : decode cX18_appeal 73 = .ok (.aload_n 0, 1) := by decide +kernel
theorem dX18_appeal_74 : decode cX18_appeal 74 = .ok (.getfield 23, 3) := by decide +kernel
theorem dX18_appeal_77 : decode cX18_appeal 77 = .ok (.invokevirtual 288, 3) := by decide +kernel
theorem dX18_appeal_80 : decode cX18_appeal 80 = .ok (.bipush 20, 2) := by decide +kernel
theorem dX18_appeal_82 : decode cX18_appeal 82 = .ok (.if_icmp .ne 7, 3) := by decide +kernel
theorem dX18_appeal_85 : decode cX18_appeal 85 = .ok (.iconst 3, 1) := by decide +kernel
theorem dX18_appeal_86 : decode cX18_appeal 86 = .ok (.goto 4, 3) := by decide +kernel
theorem dX18_appeal_89 : decode cX18_appeal 89 = .ok (.iconst 0, 1) := by decide +kernel
theorem dX18_appeal_90 : decode cX18_appeal 90 = .ok (.invokevirtual 84, 3) := by decide +kernel
theorem dX18_appeal_93 : decode cX18_appeal 93 = .ok (.ifCond .eq 5, 3) := by decide +kernel
theorem dX18_appeal_96 : decode cX18_appeal 96 = .ok (.iconst 0, 1) := by decide +kernel
theorem dX18_appeal_97 : decode cX18_appeal 97 = .ok (.ireturn, 1) := by decide +kernel
theorem dX18_appeal_98 : decode cX18_appeal 98 = .ok (.aload_n 2, 1) := by decide +kernel
theorem dX18_appeal_99 : decode cX18_appeal 99 = .ok (.iconst 0, 1) := by decide +kernel
theorem dX18_appeal_100 : decode cX18_appeal 100 = .ok (.putfield 510, 3) := by decide +kernel
theorem dX18_appeal_103 : decode cX18_appeal 103 = .ok (.aload_n 0, 1) := by decide +kernel
theorem dX18_appeal_104 : decode cX18_appeal 104 = .ok (.getfield 20, 3) := by decide +kernel
theorem dX18_appeal_107 : decode cX18_appeal 107 = .ok (.aload_n 2, 1) := by decide +kernel
theorem dX18_appeal_108 : decode cX18_appeal 108 = .ok (.getfield 517, 3) := by decide +kernel
theorem dX18_appeal_111 : decode cX18_appeal 111 = .ok (.invokevirtual 294, 3) := by decide +kernel
theorem dX18_appeal_114 : decode cX18_appeal 114 = .ok (.checkcast 373, 3) := by decide +kernel
theorem dX18_appeal_117 : decode cX18_appeal 117 = .ok (.aload_n 2, 1) := by decide +kernel
theorem dX18_appeal_118 : decode cX18_appeal 118 = .ok (.getfield 520, 3) := by decide +kernel
theorem dX18_appeal_121 : decode cX18_appeal 121 = .ok (.putfield 375, 3) := by decide +kernel
theorem dX18_appeal_124 : decode cX18_appeal 124 = .ok (.aload_n 0, 1) := by decide +kernel
theorem dX18_appeal_125 : decode cX18_appeal 125 = .ok (.new 508, 3) := by decide +kernel
theorem dX18_appeal_128 : decode cX18_appeal 128 = .ok (.dup, 1) := by decide +kernel
theorem dX18_appeal_129 : decode cX18_appeal 129 = .ok (.aload_n 2, 1) := by decide +kernel
theorem dX18_appeal_130 : decode cX18_appeal 130 = .ok (.getfield 517, 3) := by decide +kernel
theorem dX18_appeal_133 : decode cX18_appeal 133 = .ok (.aload_n 2, 1) := by decide +kernel
theorem dX18_appeal_134 : decode cX18_appeal 134 = .ok (.getfield 543, 3) := by decide +kernel
theorem dX18_appeal_137 : decode cX18_appeal 137 = .ok (.aload_n 2, 1) := by decide +kernel
theorem dX18_appeal_138 : decode cX18_appeal 138 = .ok (.getfield 513, 3) := by decide +kernel
theorem dX18_appeal_141 : decode cX18_appeal 141 = .ok (.aload_n 2, 1) := by decide +kernel
theorem dX18_appeal_142 : decode cX18_appeal 142 = .ok (.getfield 514, 3) := by decide +kernel
theorem dX18_appeal_145 : decode cX18_appeal 145 = .ok (.aload_n 0, 1) := by decide +kernel
theorem dX18_appeal_146 : decode cX18_appeal 146 = .ok (.getfield 285, 3) := by decide +kernel
theorem dX18_appeal_149 : decode cX18_appeal 149 = .ok (.aload_n 2, 1) := by decide +kernel
theorem dX18_appeal_150 : decode cX18_appeal 150 = .ok (.getfield 526, 3) := by decide +kernel
theorem dX18_appeal_153 : decode cX18_appeal 153 = .ok (.bipush 101, 2) := by decide +kernel
theorem dX18_appeal_155 : decode cX18_appeal 155 = .ok (.if_icmp .ne 8, 3) := by decide +kernel
theorem dX18_appeal_158 : decode cX18_appeal 158 = .ok (.bipush 121, 2) := by decide +kernel
theorem dX18_appeal_160 : decode cX18_appeal 160 = .ok (.goto 5, 3) := by decide +kernel
theorem dX18_appeal_163 : decode cX18_appeal 163 = .ok (.bipush 101, 2) := by decide +kernel
theorem dX18_appeal_165 : decode cX18_appeal 165 = .ok (.iconst 1, 1) := by decide +kernel
theorem dX18_appeal_166 : decode cX18_appeal 166 = .ok (.invokespecial 529, 3) := by decide +kernel
theorem dX18_appeal_169 : decode cX18_appeal 169 = .ok (.invokevirtual 532, 3) := by decide +kernel
theorem dX18_appeal_172 : decode cX18_appeal 172 = .ok (.ireturn, 1) := by decide +kernel
set_option maxRecDepth 20000 in
theorem ggX18_setRank_X18_failsPerson : GoodIn wsX18_setRank wsX18_failsPerson := goodIn_r _ [7, 8, 9, 10, 6, 11, 1, 12, 13, 14, 15, 16, 17, 18, 19, 20, 21, 22, 23, 24, 25, 43, 44, 45, 46, 47, 48, 49, 50, 51, 52, 53, 54, 55, 56, 57, 58, 59, 60, 61, 62, 63, 64, 65, 66, 67, 68, 69, 70, 86, 87, 88] (by decide +kernel) (by decide +kernel)
set_option maxRecDepth 20000 in
theorem gX18_setRank_X18_failsPerson : GoodIn wsX18_setRank (wsV RX18 337 RX18 yX18_failsPerson wsX18_failsPerson) := goodIn_app (goodIn_of _ (by decide +kernel)) ggX18_setRank_X18_failsPerson
set_option maxRecDepth 20000 in
theorem ggX18_setRank_X18_in : GoodIn wsX18_setRank wsX18_in := goodIn_r _ [20] (by decide +kernel) (by decide +kernel)
set_option maxRecDepth 20000 in
theorem gX18_setRank_X18_in : GoodIn wsX18_setRank (va_wsS RX18 77 yX18_in wsX18_in) := goodIn_app (goodIn_of _ (by decide +kernel)) ggX18_setRank_X18_in
set_option maxRecDepth 20000 in
theorem ggX18_setRank_X18_fails : GoodIn wsX18_setRank wsX18_fails := goodIn_r _ [24, 25, 43, 44, 45, 46, 47, 48, 49, 50, 51, 52, 53, 54, 55, 56, 57, 58, 59, 60, 61, 62, 63, 64, 65, 66, 67, 68, 69, 70] (by decide +kernel) (by decide +kernel)
set_option maxRecDepth 20000 in
theorem gX18_setRank_X18_fails : GoodIn wsX18_setRank (wsV RX18 84 RX18 yX18_fails wsX18_fails) := goodIn_app (goodIn_of _ (by decide +kernel)) ggX18_setRank_X18_fails
set_option maxRecDepth 20000 in
theorem ggX18_setRank_Jx4a65c_get_915e3 : GoodIn wsX18_setRank wsJx4a65c_get_915e3 := goodIn_r _ [29, 17, 30, 31, 32, 33, 34, 35, 36, 37, 38, 39, 40, 15, 41, 42, 86, 87, 88] (by decide +kernel) (by decide +kernel)
set_option maxRecDepth 20000 in
theorem gX18_setRank_Jx4a65c_get_915e3 : GoodIn wsX18_setRank (wsV RX18 294 RJx4a65c yJx4a65c_get_915e3 wsJx4a65c_get_915e3) := goodIn_app (goodIn_of _ (by decide +kernel)) ggX18_setRank_Jx4a65c_get_915e3
theorem dX18_setRank_0 : decode cX18_setRank 0 = .ok (.aload_n 0, 1) := by decide +kernel
theorem dX18_setRank_1 : decode cX18_setRank 1 = .ok (.iload_n 1, 1) := by decide +kernel
theorem dX18_setRank_2 : decode cX18_setRank 2 = .ok (.invokevirtual 337, 3) := by decide +kernel
theorem dX18_setRank_5 : decode cX18_setRank 5 = .ok (.ifCond .ne 24, 3) := by decide +kernel
theorem dX18_setRank_8 : decode cX18_setRank 8 = .ok (.aload_n 0, 1) := by decide +kernel
theorem dX18_setRank_9 : decode cX18_setRank 9 = .ok (.iload_n 2, 1) := by decide +kernel
theorem dX18_setRank_10 : decode cX18_setRank 10 = .ok (.iconst 0, 1) := by decide +kernel
theorem dX18_setRank_11 : decode cX18_setRank 11 = .ok (.iconst 4, 1) := by decide +kernel
theorem dX18_setRank_12 : decode cX18_setRank 12 = .ok (.invokestatic 77, 3) := by decide +kernel
theorem dX18_setRank_15 : decode cX18_setRank 15 = .ok (.ifCond .eq 7, 3) := by decide +kernel
theorem dX18_setRank_18 : decode cX18_setRank 18 = .ok (.iconst 0, 1) := by decide +kernel
theorem dX18_setRank_19 : decode cX18_setRank 19 = .ok (.goto 4, 3) := by decide +kernel
theorem dX18_setRank_22 : decode cX18_setRank 22 = .ok (.iconst 2, 1) := by decide +kernel
theorem dX18_setRank_23 : decode cX18_setRank 23 = .ok (.invokevirtual 84, 3) := by decide +kernel
theorem dX18_setRank_26 : decode cX18_setRank 26 = .ok (.ifCond .eq 5, 3) := by decide +kernel
theorem dX18_setRank_29 : decode cX18_setRank 29 = .ok (.iconst 0, 1) := by decide +kernel
theorem dX18_setRank_30 : decode cX18_setRank 30 = .ok (.ireturn, 1) := by decide +kernel
theorem dX18_setRank_31 : decode cX18_setRank 31 = .ok (.aload_n 0, 1) := by decide +kernel
theorem dX18_setRank_32 : decode cX18_setRank 32 = .ok (.getfield 16, 3) := by decide +kernel
theorem dX18_setRank_35 : decode cX18_setRank 35 = .ok (.iload_n 1, 1) := by decide +kernel
theorem dX18_setRank_36 : decode cX18_setRank 36 = .ok (.invokevirtual 294, 3) := by decide +kernel
theorem dX18_setRank_39 : decode cX18_setRank 39 = .ok (.checkcast 298, 3) := by decide +kernel
theorem dX18_setRank_42 : decode cX18_setRank 42 = .ok (.getfield 546, 3) := by decide +kernel
theorem dX18_setRank_45 : decode cX18_setRank 45 = .ok (.istore_n 3, 1) := by decide +kernel
theorem dX18_setRank_46 : decode cX18_setRank 46 = .ok (.aload_n 0, 1) := by decide +kernel
theorem dX18_setRank_47 : decode cX18_setRank 47 = .ok (.getfield 16, 3) := by decide +kernel
theorem dX18_setRank_50 : decode cX18_setRank 50 = .ok (.iload_n 1, 1) := by decide +kernel
theorem dX18_setRank_51 : decode cX18_setRank 51 = .ok (.invokevirtual 294, 3) := by decide +kernel
theorem dX18_setRank_54 : decode cX18_setRank 54 = .ok (.checkcast 298, 3) := by decide +kernel
theorem dX18_setRank_57 : decode cX18_setRank 57 = .ok (.iload_n 2, 1) := by decide +kernel
theorem dX18_setRank_58 : decode cX18_setRank 58 = .ok (.putfield 546, 3) := by decide +kernel
theorem dX18_setRank_61 : decode cX18_setRank 61 = .ok (.iload_n 3, 1) := by decide +kernel
theorem dX18_setRank_62 : decode cX18_setRank 62 = .ok (.ireturn, 1) := by decide +kernel
set_option maxRecDepth 20000 in
theorem ggX18_setCrest_X18_failsPerson : GoodIn wsX18_setCrest wsX18_failsPerson := goodIn_r _ [7, 8, 9, 10, 6, 11, 1, 12, 13, 14, 15, 16, 17, 18, 19, 20, 21, 22, 23, 24, 25, 43, 44, 45, 46, 47, 48, 49, 50, 51, 52, 53, 54, 55, 56, 57, 58, 59, 60, 61, 62, 63, 64, 65, 66, 67, 68, 69, 70, 86, 87, 88] (by decide +kernel) (by decide +kernel)
set_option maxRecDepth 20000 in
theorem gX18_setCrest_X18_failsPerson : GoodIn wsX18_setCrest (wsV RX18 337 RX18 yX18_failsPerson wsX18_failsPerson) := goodIn_app (goodIn_of _ (by decide +kernel)) ggX18_setCrest_X18_failsPerson
set_option maxRecDepth 20000 in
theorem ggX18_setCrest_X18_in : GoodIn wsX18_setCrest wsX18_in := goodIn_r _ [20] (by decide +kernel) (by decide +kernel)
set_option maxRecDepth 20000 in
theorem gX18_setCrest_X18_in : GoodIn wsX18_setCrest (va_wsS RX18 77 yX18_in wsX18_in) := goodIn_app (goodIn_of _ (by decide +kernel)) ggX18_setCrest_X18_in
set_option maxRecDepth 20000 in
theorem ggX18_setCrest_X18_fails : GoodIn wsX18_setCrest wsX18_fails := goodIn_r _ [24, 25, 43, 44, 45, 46, 47, 48, 49, 50, 51, 52, 53, 54, 55, 56, 57, 58, 59, 60, 61, 62, 63, 64, 65, 66, 67, 68, 69, 70] (by decide +kernel) (by decide +kernel)
set_option maxRecDepth 20000 in
theorem gX18_setCrest_X18_fails : GoodIn wsX18_setCrest (wsV RX18 84 RX18 yX18_fails wsX18_fails) := goodIn_app (goodIn_of _ (by decide +kernel)) ggX18_setCrest_X18_fails
set_option maxRecDepth 20000 in
theorem ggX18_setCrest_Jx4a65c_get_915e3 : GoodIn wsX18_setCrest wsJx4a65c_get_915e3 := goodIn_r _ [29, 17, 30, 31, 32, 33, 34, 35, 36, 37, 38, 39, 40, 15, 41, 42, 86, 87, 88] (by decide +kernel) (by decide +kernel)
set_option maxRecDepth 20000 in
theorem gX18_setCrest_Jx4a65c_get_915e3 : GoodIn wsX18_setCrest (wsV RX18 294 RJx4a65c yJx4a65c_get_915e3 wsJx4a65c_get_915e3) := goodIn_app (goodIn_of _ (by decide +kernel)) ggX18_setCrest_Jx4a65c_get_915e3
theorem dX18_setCrest_0 : decode cX18_setCrest 0 = .ok (.aload_n 0, 1) := by decide +kernel
theorem dX18_setCrest_1 : decode cX18_setCrest 1 = .ok (.iload_n 1, 1) := by decide +kernel
theorem dX18_setCrest_2 : decode cX18_setCrest 2 = .ok (.invokevirtual 337, 3) := by decide +kernel
theorem dX18_setCrest_5 : decode cX18_setCrest 5 = .ok (.ifCond .ne 26, 3) := by decide +kernel
theorem dX18_setCrest_8 : decode cX18_setCrest 8 = .ok (.aload_n 0, 1) := by decide +kernel
theorem dX18_setCrest_9 : decode cX18_setCrest 9 = .ok (.iload_n 2, 1) := by decide +kernel
theorem dX18_setCrest_10 : decode cX18_setCrest 10 = .ok (.bipush 51, 2) := by decide +kernel
theorem dX18_setCrest_12 : decode cX18_setCrest 12 = .ok (.bipush 58, 2) := by decide +kernel
theorem dX18_setCrest_14 : decode cX18_setCrest 14 = .ok (.invokestatic 77, 3) := by decide +kernel
theorem dX18_setCrest_17 : decode cX18_setCrest 17 = .ok (.ifCond .eq 7, 3) := by decide +kernel
theorem dX18_setCrest_20 : decode cX18_setCrest 20 = .ok (.iconst 0, 1) := by decide +kernel
theorem dX18_setCrest_21 : decode cX18_setCrest 21 = .ok (.goto 4, 3) := by decide +kernel
theorem dX18_setCrest_24 : decode cX18_setCrest 24 = .ok (.iconst 2, 1) := by decide +kernel
theorem dX18_setCrest_25 : decode cX18_setCrest 25 = .ok (.invokevirtual 84, 3) := by decide +kernel
theorem dX18_setCrest_28 : decode cX18_setCrest 28 = .ok (.ifCond .eq 5, 3) := by decide +kernel
theorem dX18_setCrest_31 : decode cX18_setCrest 31 = .ok (.iconst 0, 1) := by decide +kernel
theorem dX18_setCrest_32 : decode cX18_setCrest 32 = .ok (.ireturn, 1) := by decide +kernel
theorem dX18_setCrest_33 : decode cX18_setCrest 33 = .ok (.aload_n 0, 1) := by decide +kernel
theorem dX18_setCrest_34 : decode cX18_setCrest 34 = .ok (.getfield 16, 3) := by decide +kernel
theorem dX18_setCrest_37 : decode cX18_setCrest 37 = .ok (.iload_n 1, 1) := by decide +kernel
theorem dX18_setCrest_38 : decode cX18_setCrest 38 = .ok (.invokevirtual 294, 3) := by decide +kernel
theorem dX18_setCrest_41 : decode cX18_setCrest 41 = .ok (.checkcast 298, 3) := by decide +kernel
theorem dX18_setCrest_44 : decode cX18_setCrest 44 = .ok (.getfield 549, 3) := by decide +kernel
theorem dX18_setCrest_47 : decode cX18_setCrest 47 = .ok (.istore_n 3, 1) := by decide +kernel
theorem dX18_setCrest_48 : decode cX18_setCrest 48 = .ok (.aload_n 0, 1) := by decide +kernel
theorem dX18_setCrest_49 : decode cX18_setCrest 49 = .ok (.getfield 16, 3) := by decide +kernel
theorem dX18_setCrest_52 : decode cX18_setCrest 52 = .ok (.iload_n 1, 1) := by decide +kernel
theorem dX18_setCrest_53 : decode cX18_setCrest 53 = .ok (.invokevirtual 294, 3) := by decide +kernel
theorem dX18_setCrest_56 : decode cX18_setCrest 56 = .ok (.checkcast 298, 3) := by decide +kernel
theorem dX18_setCrest_59 : decode cX18_setCrest 59 = .ok (.iload_n 2, 1) := by decide +kernel
theorem dX18_setCrest_60 : decode cX18_setCrest 60 = .ok (.putfield 549, 3) := by decide +kernel
theorem dX18_setCrest_63 : decode cX18_setCrest 63 = .ok (.iload_n 3, 1) := by decide +kernel
theorem dX18_setCrest_64 : decode cX18_setCrest 64 = .ok (.ireturn, 1) := by decide +kernel
set_option maxRecDepth 20000 in
theorem ggX18_crestOf_X18_bears : GoodIn wsX18_crestOf wsX18_bears := goodIn_ca (goodIn_r _ [7, 8, 9, 10, 11, 12, 13, 1, 2, 14, 15, 16, 6, 17, 18, 19, 20, 21, 22, 23, 24, 25, 26, 27, 28, 29, 30, 31, 32, 33, 34, 35, 36, 37, 38, 39, 40, 41, 42, 43, 44, 45, 46, 47, 48, 49, 50, 51, 52, 53, 54, 55, 56, 57, 58, 59, 60, 61, 62, 63, 64, 65, 66, 67, 68, 69, 70, 71, 72, 73, 74, 75, 76, 77, 78, 79, 80, 81, 82, 83, 84, 85, 86, 87, 88, 89, 90, 91, 92, 93, 94, 95, 96, 97, 98, 99, 100, 101, 102, 3, 4, 5, 103, 104, 105, 106, 107, 108, 109, 113, 114, 115, 116, 117, 118, 119, 120, 121, 122, 123, 124, 125, 126, 127, 156, 157, 128, 129, 130, 131, 132, 133, 134, 135, 136, 137, 138, 139, 140, 141, 142, 143, 144, 145, 146, 147, 148, 149, 150, 151, 152, 153, 154, 155, 158, 159, 160, 161, 162, 163, 164, 165, 166, 167, 168, 169, 170, 171, 172, 173, 174] (by decide +kernel) (by decide +kernel)) (goodIn_sub (fun _ h => List.mem_cons_of_mem _ (List.mem_append_right _ h)) (by decide +kernel))
set_option maxRecDepth 20000 in
theorem gX18_crestOf_X18_bears : GoodIn wsX18_crestOf (wsV RX18 347 RX18 yX18_bears wsX18_bears) := goodIn_app (goodIn_of _ (by decide +kernel)) ggX18_crestOf_X18_bears
set_option maxRecDepth 20000 in
theorem ggX18_crestOf_Jx4a65c_get_915e3 : GoodIn wsX18_crestOf wsJx4a65c_get_915e3 := goodIn_r _ [22, 23, 24, 25, 26, 27, 28, 29, 30, 31, 32, 33, 34, 21, 35, 36, 168, 169, 170] (by decide +kernel) (by decide +kernel)
set_option maxRecDepth 20000 in
theorem gX18_crestOf_Jx4a65c_get_915e3 : GoodIn wsX18_crestOf (wsV RX18 294 RJx4a65c yJx4a65c_get_915e3 wsJx4a65c_get_915e3) := goodIn_app (goodIn_of _ (by decide +kernel)) ggX18_crestOf_Jx4a65c_get_915e3
set_option maxRecDepth 20000 in
theorem ggX18_crestOf_X18_isHeir : GoodIn wsX18_crestOf wsX18_isHeir := goodIn_r _ [106, 1, 2, 18, 19, 20, 21, 22, 23, 24, 25, 26, 27, 28, 29, 30, 31, 32, 33, 34, 35, 36, 61, 62, 63, 64, 65, 66, 67, 68, 69, 70, 71, 72, 45, 46, 73, 74, 75, 76, 77, 78, 79, 80, 81, 82, 83, 84, 85, 86, 87, 88, 89, 90, 91, 92, 93, 6, 94, 57, 58, 59, 60, 113, 114, 115, 116, 117, 118, 119, 120, 121, 122, 123, 124, 125, 126, 127, 128, 129, 130, 131, 132, 133, 134, 135, 136, 137, 138, 139, 140, 141, 142, 143, 144, 145, 146, 147, 148, 149, 150, 151, 152, 153, 154, 155, 168, 169, 170, 171, 172, 173, 174] (by decide +kernel) (by decide +kernel)
set_option maxRecDepth 20000 in
theorem gX18_crestOf_X18_isHeir : GoodIn wsX18_crestOf (wsV RX18 358 RX18 yX18_isHeir wsX18_isHeir) := goodIn_app (goodIn_of _ (by decide +kernel)) ggX18_crestOf_X18_isHeir
set_option maxRecDepth 20000 in
theorem ggX18_crestOf_X18_crestOf : GoodIn wsX18_crestOf wsX18_crestOf := goodIn_ca (goodIn_r _ [0, 1, 2, 3, 4, 5, 6, 7, 8, 9, 10, 11, 12, 13, 14, 15, 16, 17, 18, 19, 20, 21, 22, 23, 24, 25, 26, 27, 28, 29, 30, 31, 32, 33, 34, 35, 36, 37, 38, 39, 40, 41, 42, 43, 44, 45, 46, 47, 48, 49, 50, 51, 52, 53, 54, 55, 56, 57, 58, 59, 60, 61, 62, 63, 64, 65, 66, 67, 68, 69, 70, 71, 72, 73, 74, 75, 76, 77, 78, 79, 80, 81, 82, 83, 84, 85, 86, 87, 88, 89, 90, 91, 92, 93, 94, 95, 96, 97, 98, 99, 100, 101, 102, 103, 104, 105, 106, 107, 108, 109, 110, 111, 112, 113, 114, 115, 116, 117, 118, 119, 120, 121, 122, 123, 124, 125, 126, 127, 128, 129, 130, 131, 132, 133, 134, 135, 136, 137, 138, 139, 140, 141, 142, 143, 144, 145, 146, 147, 148, 149, 150, 151, 152, 153, 154, 155, 156, 157, 158, 159, 160, 161, 162, 163, 164, 165, 166, 167, 168, 169, 170, 171, 172, 173, 174] (by decide +kernel) (by decide +kernel)) (goodIn_sub (fun _ h => List.mem_cons_of_mem _ (List.mem_append_right _ h)) (by decide +kernel))
set_option maxRecDepth 20000 in
theorem gX18_crestOf_X18_crestOf : GoodIn wsX18_crestOf (wsV RX18 552 RX18 yX18_crestOf wsX18_crestOf) := goodIn_app (goodIn_of _ (by decide +kernel)) ggX18_crestOf_X18_crestOf
theorem dX18_crestOf_0 : decode cX18_crestOf 0 = .ok (.aload_n 1, 1) := by decide +kernel
theorem dX18_crestOf_1 : decode cX18_crestOf 1 = .ok (.getfield 549, 3) := by decide +kernel
theorem dX18_crestOf_4 : decode cX18_crestOf 4 = .ok (.ifCond .le 8, 3) := by decide +kernel
theorem dX18_crestOf_7 : decode cX18_crestOf 7 = .ok (.aload_n 1, 1) := by decide +kernel
theorem dX18_crestOf_8 : decode cX18_crestOf 8 = .ok (.getfield 549, 3) := by decide +kernel
theorem dX18_crestOf_11 : decode cX18_crestOf 11 = .ok (.ireturn, 1) := by decide +kernel
theorem dX18_crestOf_12 : decode cX18_crestOf 12 = .ok (.aload_n 0, 1) := by decide +kernel
theorem dX18_crestOf_13 : decode cX18_crestOf 13 = .ok (.aload_n 1, 1) := by decide +kernel
theorem dX18_crestOf_14 : decode cX18_crestOf 14 = .ok (.invokevirtual 347, 3) := by decide +kernel
theorem dX18_crestOf_17 : decode cX18_crestOf 17 = .ok (.astore_n 2, 1) := by decide +kernel
theorem dX18_crestOf_18 : decode cX18_crestOf 18 = .ok (.aload_n 1, 1) := by decide +kernel
theorem dX18_crestOf_19 : decode cX18_crestOf 19 = .ok (.getfield 310, 3) := by decide +kernel
theorem dX18_crestOf_22 : decode cX18_crestOf 22 = .ok (.ifCond .ge 7, 3) := by decide +kernel
theorem dX18_crestOf_25 : decode cX18_crestOf 25 = .ok (.aconst_null, 1) := by decide +kernel
theorem dX18_crestOf_26 : decode cX18_crestOf 26 = .ok (.goto 21, 3) := by decide +kernel
theorem dX18_crestOf_29 : decode cX18_crestOf 29 = .ok (.aload_n 0, 1) := by decide +kernel
theorem dX18_crestOf_30 : decode cX18_crestOf 30 = .ok (.aload_n 0, 1) := by decide +kernel
theorem dX18_crestOf_31 : decode cX18_crestOf 31 = .ok (.getfield 16, 3) := by decide +kernel
theorem dX18_crestOf_34 : decode cX18_crestOf 34 = .ok (.aload_n 1, 1) := by decide +kernel
theorem dX18_crestOf_35 : decode cX18_crestOf 35 = .ok (.getfield 310, 3) := by decide +kernel
theorem dX18_crestOf_38 : decode cX18_crestOf 38 = .ok (.invokevirtual 294, 3) := by decide +kernel
theorem dX18_crestOf_41 : decode cX18_crestOf 41 = .ok (.checkcast 298, 3) := by decide +kernel
theorem dX18_crestOf_44 : decode cX18_crestOf 44 = .ok (.invokevirtual 347, 3) := by decide +kernel
theorem dX18_crestOf_47 : decode cX18_crestOf 47 = .ok (.astore_n 3, 1) := by decide +kernel
theorem dX18_crestOf_48 : decode cX18_crestOf 48 = .ok (.aload_n 2, 1) := by decide +kernel
theorem dX18_crestOf_49 : decode cX18_crestOf 49 = .ok (.ifnull 22, 3) := by decide +kernel
theorem dX18_crestOf_52 : decode cX18_crestOf 52 = .ok (.aload_n 3, 1) := by decide +kernel
theorem dX18_crestOf_53 : decode cX18_crestOf 53 = .ok (.ifnull 18, 3) := by decide +kernel
theorem dX18_crestOf_56 : decode cX18_crestOf 56 = .ok (.aload_n 2, 1) := by decide +kernel
theorem dX18_crestOf_57 : decode cX18_crestOf 57 = .ok (.getfield 378, 3) := by decide +kernel
theorem dX18_crestOf_60 : decode cX18_crestOf 60 = .ok (.aload_n 3, 1) := by decide +kernel
theorem dX18_crestOf_61 : decode cX18_crestOf 61 = .ok (.getfield 378, 3) := by decide +kernel
theorem dX18_crestOf_64 : decode cX18_crestOf 64 = .ok (.if_icmp .ne 7, 3) := by decide +kernel
theorem dX18_crestOf_67 : decode cX18_crestOf 67 = .ok (.iconst 1, 1) := by decide +kernel
theorem dX18_crestOf_68 : decode cX18_crestOf 68 = .ok (.goto 4, 3) := by decide +kernel
theorem dX18_crestOf_71 : decode cX18_crestOf 71 = .ok (.iconst 0, 1) := by decide +kernel
theorem dX18_crestOf_72 : decode cX18_crestOf 72 = .ok (.istore 4, 2) := by decide +kernel
theorem dX18_crestOf_74 : decode cX18_crestOf 74 = .ok (.iload 4, 2) := by decide +kernel
theorem dX18_crestOf_76 : decode cX18_crestOf 76 = .ok (.ifCond .eq 49, 3) := by decide +kernel
theorem dX18_crestOf_79 : decode cX18_crestOf 79 = .ok (.aload_n 1, 1) := by decide +kernel
theorem dX18_crestOf_80 : decode cX18_crestOf 80 = .ok (.getfield 330, 3) := by decide +kernel
theorem dX18_crestOf_83 : decode cX18_crestOf 83 = .ok (.ifCond .eq 14, 3) := by decide +kernel
theorem dX18_crestOf_86 : decode cX18_crestOf 86 = .ok (.aload_n 0, 1) := by decide +kernel
theorem dX18_crestOf_87 : decode cX18_crestOf 87 = .ok (.aload_n 1, 1) := by decide +kernel
theorem dX18_crestOf_88 : decode cX18_crestOf 88 = .ok (.invokevirtual 358, 3) := by decide +kernel
theorem dX18_crestOf_91 : decode cX18_crestOf 91 = .ok (.ifCond .eq 34, 3) := by decide +kernel
theorem dX18_crestOf_94 : decode cX18_crestOf 94 = .ok (.goto 10, 3) := by decide +kernel
theorem dX18_crestOf_97 : decode cX18_crestOf 97 = .ok (.aload_n 1, 1) := by decide +kernel
theorem dX18_crestOf_98 : decode cX18_crestOf 98 = .ok (.getfield 361, 3) := by decide +kernel
theorem dX18_crestOf_101 : decode cX18_crestOf 101 = .ok (.ifCond .eq 24, 3) := by decide +kernel
theorem dX18_crestOf_104 : decode cX18_crestOf 104 = .ok (.aload_n 0, 1) := by decide +kernel
theorem dX18_crestOf_105 : decode cX18_crestOf 105 = .ok (.aload_n 0, 1) := by decide +kernel
theorem dX18_crestOf_106 : decode cX18_crestOf 106 = .ok (.getfield 16, 3) := by decide +kernel
theorem dX18_crestOf_109 : decode cX18_crestOf 109 = .ok (.aload_n 1, 1) := by decide +kernel
theorem dX18_crestOf_110 : decode cX18_crestOf 110 = .ok (.getfield 310, 3) := by decide +kernel
theorem dX18_crestOf_113 : decode cX18_crestOf 113 = .ok (.invokevirtual 294, 3) := by decide +kernel
theorem dX18_crestOf_116 : decode cX18_crestOf 116 = .ok (.checkcast 298, 3) := by decide +kernel
theorem dX18_crestOf_119 : decode cX18_crestOf 119 = .ok (.invokevirtual 552, 3) := by decide +kernel
theorem dX18_crestOf_122 : decode cX18_crestOf 122 = .ok (.goto 4, 3) := by decide +kernel
theorem dX18_crestOf_125 : decode cX18_crestOf 125 = .ok (.iconst 0, 1) := by decide +kernel
theorem dX18_crestOf_126 : decode cX18_crestOf 126 = .ok (.ireturn, 1) := by decide +kernel
set_option maxRecDepth 20000 in
theorem ggX18_crest_X18_failsPerson : GoodIn wsX18_crest wsX18_failsPerson := goodIn_r _ [7, 8, 9, 10, 6, 11, 1, 12, 13, 14, 15, 16, 17, 18, 19, 20, 21, 22, 23, 24, 25, 130, 131, 132, 133, 134, 135, 136, 137, 138, 139, 140, 141, 142, 143, 144, 145, 146, 147, 148, 149, 150, 151, 152, 153, 154, 155, 156, 157, 173, 174, 175] (by decide +kernel) (by decide +kernel)
set_option maxRecDepth 20000 in
theorem gX18_crest_X18_failsPerson : GoodIn wsX18_crest (wsV RX18 337 RX18 yX18_failsPerson wsX18_failsPerson) := goodIn_app (goodIn_of _ (by decide +kernel)) ggX18_crest_X18_failsPerson
set_option maxRecDepth 20000 in
theorem ggX18_crest_Jx4a65c_get_915e3 : GoodIn wsX18_crest wsJx4a65c_get_915e3 := goodIn_r _ [29, 17, 30, 31, 32, 33, 34, 35, 36, 37, 38, 39, 40, 15, 41, 42, 173, 174, 175] (by decide +kernel) (by decide +kernel)
set_option maxRecDepth 20000 in
theorem gX18_crest_Jx4a65c_get_915e3 : GoodIn wsX18_crest (wsV RX18 294 RJx4a65c yJx4a65c_get_915e3 wsJx4a65c_get_915e3) := goodIn_app (goodIn_of _ (by decide +kernel)) ggX18_crest_Jx4a65c_get_915e3
set_option maxRecDepth 20000 in
theorem ggX18_crest_X18_crestOf : GoodIn wsX18_crest wsX18_crestOf := goodIn_ca (goodIn_r _ [46, 1, 2, 47, 48, 49, 6, 50, 51, 52, 53, 54, 55, 56, 57, 58, 59, 60, 26, 27, 28, 15, 29, 17, 30, 31, 32, 33, 34, 35, 36, 37, 38, 39, 40, 41, 42, 12, 13, 14, 16, 61, 62, 63, 64, 65, 66, 67, 68, 69, 70, 71, 72, 73, 74, 75, 76, 77, 78, 79, 80, 81, 82, 83, 84, 85, 86, 87, 88, 89, 90, 91, 92, 93, 94, 95, 96, 97, 98, 99, 100, 101, 102, 103, 104, 105, 106, 107, 108, 109, 110, 111, 112, 113, 114, 115, 116, 117, 118, 119, 120, 121, 122, 123, 124, 125, 126, 127, 128, 129, 43, 44, 45, 158, 159, 160, 161, 162, 163, 164, 165, 166, 167, 168, 169, 170, 171, 172, 130, 131, 132, 133, 134, 135, 136, 137, 138, 139, 140, 141, 142, 143, 144, 145, 146, 147, 148, 149, 150, 151, 152, 153, 154, 155, 156, 157, 176, 177, 178, 179, 180, 181, 182, 183, 184, 185, 186, 187, 173, 174, 175, 188, 189, 190, 191] (by decide +kernel) (by decide +kernel)) (goodIn_sub (fun _ h => List.mem_cons_of_mem _ (List.mem_append_right _ h)) (by decide +kernel))
set_option maxRecDepth 20000 in
theorem gX18_crest_X18_crestOf : GoodIn wsX18_crest (wsV RX18 552 RX18 yX18_crestOf wsX18_crestOf) := goodIn_app (goodIn_of _ (by decide +kernel)) ggX18_crest_X18_crestOf
set_option maxRecDepth 20000 in
theorem ggX18_crest_X18_fails : GoodIn wsX18_crest wsX18_fails := goodIn_r _ [24, 25, 130, 131, 132, 133, 134, 135, 136, 137, 138, 139, 140, 141, 142, 143, 144, 145, 146, 147, 148, 149, 150, 151, 152, 153, 154, 155, 156, 157] (by decide +kernel) (by decide +kernel)
set_option maxRecDepth 20000 in
theorem gX18_crest_X18_fails : GoodIn wsX18_crest (wsV RX18 84 RX18 yX18_fails wsX18_fails) := goodIn_app (goodIn_of _ (by decide +kernel)) ggX18_crest_X18_fails
theorem dX18_crest_0 : decode cX18_crest 0 = .ok (.aload_n 0, 1) := by decide +kernel
theorem dX18_crest_1 : decode cX18_crest 1 = .ok (.iload_n 1, 1) := by decide +kernel
theorem dX18_crest_2 : decode cX18_crest 2 = .ok (.invokevirtual 337, 3) := by decide +kernel
theorem dX18_crest_5 : decode cX18_crest 5 = .ok (.ifCond .eq 5, 3) := by decide +kernel
theorem dX18_crest_8 : decode cX18_crest 8 = .ok (.iconst 0, 1) := by decide +kernel
theorem dX18_crest_9 : decode cX18_crest 9 = .ok (.ireturn, 1) := by decide +kernel
theorem dX18_crest_10 : decode cX18_crest 10 = .ok (.aload_n 0, 1) := by decide +kernel
theorem dX18_crest_11 : decode cX18_crest 11 = .ok (.getfield 16, 3) := by decide +kernel
theorem dX18_crest_14 : decode cX18_crest 14 = .ok (.iload_n 1, 1) := by decide +kernel
theorem dX18_crest_15 : decode cX18_crest 15 = .ok (.invokevirtual 294, 3) := by decide +kernel
theorem dX18_crest_18 : decode cX18_crest 18 = .ok (.checkcast 298, 3) := by decide +kernel
theorem dX18_crest_21 : decode cX18_crest 21 = .ok (.getfield 546, 3) := by decide +kernel
theorem dX18_crest_24 : decode cX18_crest 24 = .ok (.ifCond .le 21, 3) := by decide +kernel
theorem dX18_crest_27 : decode cX18_crest 27 = .ok (.aload_n 0, 1) := by decide +kernel
theorem dX18_crest_28 : decode cX18_crest 28 = .ok (.aload_n 0, 1) := by decide +kernel
theorem dX18_crest_29 : decode cX18_crest 29 = .ok (.getfield 16, 3) := by decide +kernel
theorem dX18_crest_32 : decode cX18_crest 32 = .ok (.iload_n 1, 1) := by decide +kernel
theorem dX18_crest_33 : decode cX18_crest 33 = .ok (.invokevirtual 294, 3) := by decide +kernel
theorem dX18_crest_36 : decode cX18_crest 36 = .ok (.checkcast 298, 3) := by decide +kernel
theorem dX18_crest_39 : decode cX18_crest 39 = .ok (.invokevirtual 552, 3) := by decide +kernel
theorem dX18_crest_42 : decode cX18_crest 42 = .ok (.goto 4, 3) := by decide +kernel
theorem dX18_crest_45 : decode cX18_crest 45 = .ok (.iconst 0, 1) := by decide +kernel
theorem dX18_crest_46 : decode cX18_crest 46 = .ok (.istore_n 2, 1) := by decide +kernel
theorem dX18_crest_47 : decode cX18_crest 47 = .ok (.aload_n 0, 1) := by decide +kernel
theorem dX18_crest_48 : decode cX18_crest 48 = .ok (.iload_n 2, 1) := by decide +kernel
theorem dX18_crest_49 : decode cX18_crest 49 = .ok (.ifCond .ne 7, 3) := by decide +kernel
theorem dX18_crest_52 : decode cX18_crest 52 = .ok (.iconst 2, 1) := by decide +kernel
theorem dX18_crest_53 : decode cX18_crest 53 = .ok (.goto 4, 3) := by decide +kernel
theorem dX18_crest_56 : decode cX18_crest 56 = .ok (.iconst 0, 1) := by decide +kernel
theorem dX18_crest_57 : decode cX18_crest 57 = .ok (.invokevirtual 84, 3) := by decide +kernel
theorem dX18_crest_60 : decode cX18_crest 60 = .ok (.ifCond .eq 7, 3) := by decide +kernel
theorem dX18_crest_63 : decode cX18_crest 63 = .ok (.iconst 0, 1) := by decide +kernel
theorem dX18_crest_64 : decode cX18_crest 64 = .ok (.goto 4, 3) := by decide +kernel
theorem dX18_crest_67 : decode cX18_crest 67 = .ok (.iload_n 2, 1) := by decide +kernel
theorem dX18_crest_68 : decode cX18_crest 68 = .ok (.ireturn, 1) := by decide +kernel
set_option maxRecDepth 20000 in
theorem ggX18_setSupporters_X18_failsPerson : GoodIn wsX18_setSupporters wsX18_failsPerson := goodIn_r _ [7, 8, 9, 10, 6, 11, 1, 12, 13, 14, 15, 16, 17, 18, 19, 20, 21, 22, 23, 24, 25, 43, 44, 45, 46, 47, 48, 49, 50, 51, 52, 53, 54, 55, 56, 57, 58, 59, 60, 61, 62, 63, 64, 65, 66, 67, 68, 69, 70, 86, 87, 88] (by decide +kernel) (by decide +kernel)
set_option maxRecDepth 20000 in
theorem gX18_setSupporters_X18_failsPerson : GoodIn wsX18_setSupporters (wsV RX18 337 RX18 yX18_failsPerson wsX18_failsPerson) := goodIn_app (goodIn_of _ (by decide +kernel)) ggX18_setSupporters_X18_failsPerson
set_option maxRecDepth 20000 in
theorem ggX18_setSupporters_X18_in : GoodIn wsX18_setSupporters wsX18_in := goodIn_r _ [20] (by decide +kernel) (by decide +kernel)
set_option maxRecDepth 20000 in
theorem gX18_setSupporters_X18_in : GoodIn wsX18_setSupporters (va_wsS RX18 77 yX18_in wsX18_in) := goodIn_app (goodIn_of _ (by decide +kernel)) ggX18_setSupporters_X18_in
set_option maxRecDepth 20000 in
theorem ggX18_setSupporters_X18_fails : GoodIn wsX18_setSupporters wsX18_fails := goodIn_r _ [24, 25, 43, 44, 45, 46, 47, 48, 49, 50, 51, 52, 53, 54, 55, 56, 57, 58, 59, 60, 61, 62, 63, 64, 65, 66, 67, 68, 69, 70] (by decide +kernel) (by decide +kernel)
set_option maxRecDepth 20000 in
theorem gX18_setSupporters_X18_fails : GoodIn wsX18_setSupporters (wsV RX18 84 RX18 yX18_fails wsX18_fails) := goodIn_app (goodIn_of _ (by decide +kernel)) ggX18_setSupporters_X18_fails
set_option maxRecDepth 20000 in
theorem ggX18_setSupporters_Jx4a65c_get_915e3 : GoodIn wsX18_setSupporters wsJx4a65c_get_915e3 := goodIn_r _ [29, 17, 30, 31, 32, 33, 34, 35, 36, 37, 38, 39, 40, 15, 41, 42, 86, 87, 88] (by decide +kernel) (by decide +kernel)
set_option maxRecDepth 20000 in
theorem gX18_setSupporters_Jx4a65c_get_915e3 : GoodIn wsX18_setSupporters (wsV RX18 294 RJx4a65c yJx4a65c_get_915e3 wsJx4a65c_get_915e3) := goodIn_app (goodIn_of _ (by decide +kernel)) ggX18_setSupporters_Jx4a65c_get_915e3
theorem dX18_setSupporters_0 : decode cX18_setSupporters 0 = .ok (.aload_n 0, 1) := by decide +kernel
theorem dX18_setSupporters_1 : decode cX18_setSupporters 1 = .ok (.iload_n 1, 1) := by decide +kernel
theorem dX18_setSupporters_2 : decode cX18_setSupporters 2 = .ok (.invokevirtual 337, 3) := by decide +kernel
theorem dX18_setSupporters_5 : decode cX18_setSupporters 5 = .ok (.ifCond .ne 37, 3) := by decide +kernel
theorem dX18_setSupporters_8 : decode cX18_setSupporters 8 = .ok (.aload_n 0, 1) := by decide +kernel
theorem dX18_setSupporters_9 : decode cX18_setSupporters 9 = .ok (.iload_n 2, 1) := by decide +kernel
theorem dX18_setSupporters_10 : decode cX18_setSupporters 10 = .ok (.bipush 51, 2) := by decide +kernel
theorem dX18_setSupporters_12 : decode cX18_setSupporters 12 = .ok (.bipush 58, 2) := by decide +kernel
theorem dX18_setSupporters_14 : decode cX18_setSupporters 14 = .ok (.invokestatic 77, 3) := by decide +kernel
theorem dX18_setSupporters_17 : decode cX18_setSupporters 17 = .ok (.ifCond .eq 18, 3) := by decide +kernel
theorem dX18_setSupporters_20 : decode cX18_setSupporters 20 = .ok (.iload_n 3, 1) := by decide +kernel
theorem dX18_setSupporters_21 : decode cX18_setSupporters 21 = .ok (.bipush 51, 2) := by decide +kernel
theorem dX18_setSupporters_23 : decode cX18_setSupporters 23 = .ok (.bipush 58, 2) := by decide +kernel
theorem dX18_setSupporters_25 : decode cX18_setSupporters 25 = .ok (.invokestatic 77, 3) := by decide +kernel
theorem dX18_setSupporters_28 : decode cX18_setSupporters 28 = .ok (.ifCond .eq 7, 3) := by decide +kernel
theorem dX18_setSupporters_31 : decode cX18_setSupporters 31 = .ok (.iconst 0, 1) := by decide +kernel
theorem dX18_setSupporters_32 : decode cX18_setSupporters 32 = .ok (.goto 4, 3) := by decide +kernel
theorem dX18_setSupporters_35 : decode cX18_setSupporters 35 = .ok (.iconst 2, 1) := by decide +kernel
theorem dX18_setSupporters_36 : decode cX18_setSupporters 36 = .ok (.invokevirtual 84, 3) := by decide +kernel
theorem dX18_setSupporters_39 : decode cX18_setSupporters 39 = .ok (.ifCond .eq 5, 3) := by decide +kernel
theorem dX18_setSupporters_42 : decode cX18_setSupporters 42 = .ok (.iconst 0, 1) := by decide +kernel
theorem dX18_setSupporters_43 : decode cX18_setSupporters 43 = .ok (.ireturn, 1) := by decide +kernel
theorem dX18_setSupporters_44 : decode cX18_setSupporters 44 = .ok (.aload_n 0, 1) := by decide +kernel
theorem dX18_setSupporters_45 : decode cX18_setSupporters 45 = .ok (.getfield 16, 3) := by decide +kernel
theorem dX18_setSupporters_48 : decode cX18_setSupporters 48 = .ok (.iload_n 1, 1) := by decide +kernel
theorem dX18_setSupporters_49 : decode cX18_setSupporters 49 = .ok (.invokevirtual 294, 3) := by decide +kernel
theorem dX18_setSupporters_52 : decode cX18_setSupporters 52 = .ok (.checkcast 298, 3) := by decide +kernel
theorem dX18_setSupporters_55 : decode cX18_setSupporters 55 = .ok (.astore 4, 2) := by decide +kernel
theorem dX18_setSupporters_57 : decode cX18_setSupporters 57 = .ok (.aload 4, 2) := by decide +kernel
theorem dX18_setSupporters_59 : decode cX18_setSupporters 59 = .ok (.getfield 556, 3) := by decide +kernel
theorem dX18_setSupporters_62 : decode cX18_setSupporters 62 = .ok (.ifCond .le 7, 3) := by decide +kernel
theorem dX18_setSupporters_65 : decode cX18_setSupporters 65 = .ok (.iconst 1, 1) := by decide +kernel
theorem dX18_setSupporters_66 : decode cX18_setSupporters 66 = .ok (.goto 4, 3) := by decide +kernel
theorem dX18_setSupporters_69 : decode cX18_setSupporters 69 = .ok (.iconst 0, 1) := by decide +kernel
theorem dX18_setSupporters_70 : decode cX18_setSupporters 70 = .ok (.istore 5, 2) := by decide +kernel
theorem dX18_setSupporters_72 : decode cX18_setSupporters 72 = .ok (.aload 4, 2) := by decide +kernel
theorem dX18_setSupporters_74 : decode cX18_setSupporters 74 = .ok (.iload_n 2, 1) := by decide +kernel
theorem dX18_setSupporters_75 : decode cX18_setSupporters 75 = .ok (.putfield 556, 3) := by decide +kernel
theorem dX18_setSupporters_78 : decode cX18_setSupporters 78 = .ok (.aload 4, 2) := by decide +kernel
theorem dX18_setSupporters_80 : decode cX18_setSupporters 80 = .ok (.iload_n 3, 1) := by decide +kernel
theorem dX18_setSupporters_81 : decode cX18_setSupporters 81 = .ok (.putfield 559, 3) := by decide +kernel
theorem dX18_setSupporters_84 : decode cX18_setSupporters 84 = .ok (.iload 5, 2) := by decide +kernel
theorem dX18_setSupporters_86 : decode cX18_setSupporters 86 = .ok (.ireturn, 1) := by decide +kernel
set_option maxRecDepth 20000 in
theorem ggX18_supporter_X18_failsPerson : GoodIn wsX18_supporter wsX18_failsPerson := goodIn_r _ [7, 8, 9, 10, 6, 11, 1, 12, 13, 14, 15, 16, 17, 18, 19, 20, 21, 22, 23, 24, 25, 43, 44, 45, 46, 47, 48, 49, 50, 51, 52, 53, 54, 55, 56, 57, 58, 59, 60, 61, 62, 63, 64, 65, 66, 67, 68, 69, 70, 86, 87, 88] (by decide +kernel) (by decide +kernel)
set_option maxRecDepth 20000 in
theorem gX18_supporter_X18_failsPerson : GoodIn wsX18_supporter (wsV RX18 337 RX18 yX18_failsPerson wsX18_failsPerson) := goodIn_app (goodIn_of _ (by decide +kernel)) ggX18_supporter_X18_failsPerson
set_option maxRecDepth 20000 in
theorem ggX18_supporter_Jx4a65c_get_915e3 : GoodIn wsX18_supporter wsJx4a65c_get_915e3 := goodIn_r _ [29, 17, 30, 31, 32, 33, 34, 35, 36, 37, 38, 39, 40, 15, 41, 42, 86, 87, 88] (by decide +kernel) (by decide +kernel)
set_option maxRecDepth 20000 in
theorem gX18_supporter_Jx4a65c_get_915e3 : GoodIn wsX18_supporter (wsV RX18 294 RJx4a65c yJx4a65c_get_915e3 wsJx4a65c_get_915e3) := goodIn_app (goodIn_of _ (by decide +kernel)) ggX18_supporter_Jx4a65c_get_915e3
set_option maxRecDepth 20000 in
theorem ggX18_supporter_X18_fails : GoodIn wsX18_supporter wsX18_fails := goodIn_r _ [24, 25, 43, 44, 45, 46, 47, 48, 49, 50, 51, 52, 53, 54, 55, 56, 57, 58, 59, 60, 61, 62, 63, 64, 65, 66, 67, 68, 69, 70] (by decide +kernel) (by decide +kernel)
set_option maxRecDepth 20000 in
theorem gX18_supporter_X18_fails : GoodIn wsX18_supporter (wsV RX18 84 RX18 yX18_fails wsX18_fails) := goodIn_app (goodIn_of _ (by decide +kernel)) ggX18_supporter_X18_fails
theorem dX18_supporter_0 : decode cX18_supporter 0 = .ok (.aload_n 0, 1) := by decide +kernel
theorem dX18_supporter_1 : decode cX18_supporter 1 = .ok (.iload_n 1, 1) := by decide +kernel
theorem dX18_supporter_2 : decode cX18_supporter 2 = .ok (.invokevirtual 337, 3) := by decide +kernel
theorem dX18_supporter_5 : decode cX18_supporter 5 = .ok (.ifCond .ne 50, 3) := by decide +kernel
theorem dX18_supporter_8 : decode cX18_supporter 8 = .ok (.aload_n 0, 1) := by decide +kernel
theorem dX18_supporter_9 : decode cX18_supporter 9 = .ok (.aload_n 0, 1) := by decide +kernel
theorem dX18_supporter_10 : decode cX18_supporter 10 = .ok (.getfield 16, 3) := by decide +kernel
theorem dX18_supporter_13 : decode cX18_supporter 13 = .ok (.iload_n 1, 1) := by decide +kernel
theorem dX18_supporter_14 : decode cX18_supporter 14 = .ok (.invokevirtual 294, 3) := by decide +kernel
theorem dX18_supporter_17 : decode cX18_supporter 17 = .ok (.checkcast 298, 3) := by decide +kernel
theorem dX18_supporter_20 : decode cX18_supporter 20 = .ok (.getfield 546, 3) := by decide +kernel
theorem dX18_supporter_23 : decode cX18_supporter 23 = .ok (.iconst 3, 1) := by decide +kernel
theorem dX18_supporter_24 : decode cX18_supporter 24 = .ok (.if_icmp .lt 20, 3) := by decide +kernel
theorem dX18_supporter_27 : decode cX18_supporter 27 = .ok (.aload_n 0, 1) := by decide +kernel
theorem dX18_supporter_28 : decode cX18_supporter 28 = .ok (.getfield 16, 3) := by decide +kernel
theorem dX18_supporter_31 : decode cX18_supporter 31 = .ok (.iload_n 1, 1) := by decide +kernel
theorem dX18_supporter_32 : decode cX18_supporter 32 = .ok (.invokevirtual 294, 3) := by decide +kernel
theorem dX18_supporter_35 : decode cX18_supporter 35 = .ok (.checkcast 298, 3) := by decide +kernel
theorem dX18_supporter_38 : decode cX18_supporter 38 = .ok (.getfield 556, 3) := by decide +kernel
theorem dX18_supporter_41 : decode cX18_supporter 41 = .ok (.ifCond .ne 7, 3) := by decide +kernel
theorem dX18_supporter_44 : decode cX18_supporter 44 = .ok (.iconst 2, 1) := by decide +kernel
theorem dX18_supporter_45 : decode cX18_supporter 45 = .ok (.goto 4, 3) := by decide +kernel
theorem dX18_supporter_48 : decode cX18_supporter 48 = .ok (.iconst 0, 1) := by decide +kernel
theorem dX18_supporter_49 : decode cX18_supporter 49 = .ok (.invokevirtual 84, 3) := by decide +kernel
theorem dX18_supporter_52 : decode cX18_supporter 52 = .ok (.ifCond .eq 5, 3) := by decide +kernel
theorem dX18_supporter_55 : decode cX18_supporter 55 = .ok (.iconst 0, 1) := by decide +kernel
theorem dX18_supporter_56 : decode cX18_supporter 56 = .ok (.ireturn, 1) := by decide +kernel
theorem dX18_supporter_57 : decode cX18_supporter 57 = .ok (.iload_n 2, 1) := by decide +kernel
theorem dX18_supporter_58 : decode cX18_supporter 58 = .ok (.ifCond .eq 20, 3) := by decide +kernel
theorem dX18_supporter_61 : decode cX18_supporter 61 = .ok (.aload_n 0, 1) := by decide +kernel
theorem dX18_supporter_62 : decode cX18_supporter 62 = .ok (.getfield 16, 3) := by decide +kernel
theorem dX18_supporter_65 : decode cX18_supporter 65 = .ok (.iload_n 1, 1) := by decide +kernel
theorem dX18_supporter_66 : decode cX18_supporter 66 = .ok (.invokevirtual 294, 3) := by decide +kernel
theorem dX18_supporter_69 : decode cX18_supporter 69 = .ok (.checkcast 298, 3) := by decide +kernel
theorem dX18_supporter_72 : decode cX18_supporter 72 = .ok (.getfield 556, 3) := by decide +kernel
theorem dX18_supporter_75 : decode cX18_supporter 75 = .ok (.goto 17, 3) := by decide +kernel
theorem dX18_supporter_78 : decode cX18_supporter 78 = .ok (.aload_n 0, 1) := by decide +kernel
theorem dX18_supporter_79 : decode cX18_supporter 79 = .ok (.getfield 16, 3) := by decide +kernel
theorem dX18_supporter_82 : decode cX18_supporter 82 = .ok (.iload_n 1, 1) := by decide +kernel
theorem dX18_supporter_83 : decode cX18_supporter 83 = .ok (.invokevirtual 294, 3) := by decide +kernel
theorem dX18_supporter_86 : decode cX18_supporter 86 = .ok (.checkcast 298, 3) := by decide +kernel
theorem dX18_supporter_89 : decode cX18_supporter 89 = .ok (.getfield 559, 3) := by decide +kernel
theorem dX18_supporter_92 : decode cX18_supporter 92 = .ok (.ireturn, 1) := by decide +kernel
set_option maxRecDepth 20000 in
theorem ggX18_augment_X18_in : GoodIn wsX18_augment wsX18_in := goodIn_r _ [6] (by decide +kernel) (by decide +kernel)
set_option maxRecDepth 20000 in
theorem gX18_augment_X18_in : GoodIn wsX18_augment (va_wsS RX18 77 yX18_in wsX18_in) := goodIn_app (goodIn_of _ (by decide +kernel)) ggX18_augment_X18_in
set_option maxRecDepth 20000 in
theorem ggX18_augment_X18_failsArms : GoodIn wsX18_augment wsX18_failsArms := goodIn_r _ [10, 11, 12, 13, 5, 14, 1, 15, 16, 17, 18, 19, 20, 3, 4, 6, 21, 22, 23, 24, 25, 47, 48, 49, 50, 51, 52, 53, 54, 55, 56, 57, 58, 59, 60, 61, 62, 63, 64, 65, 66, 67, 68, 69, 70, 71, 72, 73, 74, 85, 86, 87] (by decide +kernel) (by decide +kernel)
set_option maxRecDepth 20000 in
theorem gX18_augment_X18_failsArms : GoodIn wsX18_augment (wsV RX18 446 RX18 yX18_failsArms wsX18_failsArms) := goodIn_app (goodIn_of _ (by decide +kernel)) ggX18_augment_X18_failsArms
set_option maxRecDepth 20000 in
theorem ggX18_augment_X18_isVoid : GoodIn wsX18_augment wsX18_isVoid := goodIn_r _ [29, 1, 2, 30, 31, 32, 18, 33, 20, 34, 35, 36, 37, 38, 39, 40, 41, 42, 43, 44, 45, 46, 47, 48, 49, 50, 51, 52, 53, 54, 55, 56, 57, 58, 59, 60, 61, 62, 63, 64, 65, 66, 67, 68, 69, 70, 71, 72, 73, 74, 75, 76, 77, 78, 79, 80, 81, 82, 83, 84, 85, 86, 87] (by decide +kernel) (by decide +kernel)
set_option maxRecDepth 20000 in
theorem gX18_augment_X18_isVoid : GoodIn wsX18_augment (wsV RX18 383 RX18 yX18_isVoid wsX18_isVoid) := goodIn_app (goodIn_of _ (by decide +kernel)) ggX18_augment_X18_isVoid
set_option maxRecDepth 20000 in
theorem ggX18_augment_X18_fails : GoodIn wsX18_augment wsX18_fails := goodIn_r _ [24, 25, 47, 48, 49, 50, 51, 52, 53, 54, 55, 56, 57, 58, 59, 60, 61, 62, 63, 64, 65, 66, 67, 68, 69, 70, 71, 72, 73, 74] (by decide +kernel) (by decide +kernel)
set_option maxRecDepth 20000 in
theorem gX18_augment_X18_fails : GoodIn wsX18_augment (wsV RX18 84 RX18 yX18_fails wsX18_fails) := goodIn_app (goodIn_of _ (by decide +kernel)) ggX18_augment_X18_fails
set_option maxRecDepth 20000 in
theorem ggX18_augment_Jx4a65c_get_915e3 : GoodIn wsX18_augment wsJx4a65c_get_915e3 := goodIn_r _ [33, 20, 34, 35, 36, 37, 38, 39, 40, 41, 42, 43, 44, 18, 45, 46, 85, 86, 87] (by decide +kernel) (by decide +kernel)
set_option maxRecDepth 20000 in
theorem gX18_augment_Jx4a65c_get_915e3 : GoodIn wsX18_augment (wsV RX18 294 RJx4a65c yJx4a65c_get_915e3 wsJx4a65c_get_915e3) := goodIn_app (goodIn_of _ (by decide +kernel)) ggX18_augment_Jx4a65c_get_915e3
theorem dX18_augment_0 : decode cX18_augment 0 = .ok (.iload_n 2, 1) := by decide +kernel
theorem dX18_augment_1 : decode cX18_augment 1 = .ok (.iconst 1, 1) := by decide +kernel
theorem dX18_augment_2 : decode cX18_augment 2 = .ok (.bipush 8, 2) := by decide +kernel
theorem dX18_augment_4 : decode cX18_augment 4 = .ok (.invokestatic 77, 3) := by decide +kernel
theorem dX18_augment_7 : decode cX18_augment 7 = .ok (.ifCond .eq 29, 3) := by decide +kernel
theorem dX18_augment_10 : decode cX18_augment 10 = .ok (.iload_n 3, 1) := by decide +kernel
theorem dX18_augment_11 : decode cX18_augment 11 = .ok (.bipush 51, 2) := by decide +kernel
theorem dX18_augment_13 : decode cX18_augment 13 = .ok (.bipush 58, 2) := by decide +kernel
theorem dX18_augment_15 : decode cX18_augment 15 = .ok (.invokestatic 77, 3) := by decide +kernel
theorem dX18_augment_18 : decode cX18_augment 18 = .ok (.ifCond .eq 18, 3) := by decide +kernel
theorem dX18_augment_21 : decode cX18_augment 21 = .ok (.iload 4, 2) := by decide +kernel
theorem dX18_augment_23 : decode cX18_augment 23 = .ok (.iconst 1, 1) := by decide +kernel
theorem dX18_augment_24 : decode cX18_augment 24 = .ok (.bipush 8, 2) := by decide +kernel
theorem dX18_augment_26 : decode cX18_augment 26 = .ok (.invokestatic 77, 3) := by decide +kernel
theorem dX18_augment_29 : decode cX18_augment 29 = .ok (.ifCond .eq 7, 3) := by decide +kernel
theorem dX18_augment_32 : decode cX18_augment 32 = .ok (.iconst 1, 1) := by decide +kernel
theorem dX18_augment_33 : decode cX18_augment 33 = .ok (.goto 4, 3) := by decide +kernel
theorem dX18_augment_36 : decode cX18_augment 36 = .ok (.iconst 0, 1) := by decide +kernel
theorem dX18_augment_37 : decode cX18_augment 37 = .ok (.istore 5, 2) := by decide +kernel
theorem dX18_augment_39 : decode cX18_augment 39 = .ok (.aload_n 0, 1) := by decide +kernel
theorem dX18_augment_40 : decode cX18_augment 40 = .ok (.iload_n 1, 1) := by decide +kernel
theorem dX18_augment_41 : decode cX18_augment 41 = .ok (.invokevirtual 446, 3) := by decide +kernel
theorem dX18_augment_44 : decode cX18_augment 44 = .ok (.ifCond .ne 32, 3) := by decide +kernel
theorem dX18_augment_47 : decode cX18_augment 47 = .ok (.aload_n 0, 1) := by decide +kernel
theorem dX18_augment_48 : decode cX18_augment 48 = .ok (.iload 5, 2) := by decide +kernel
theorem dX18_augment_50 : decode cX18_augment 50 = .ok (.ifCond .ne 7, 3) := by decide +kernel
theorem dX18_augment_53 : decode cX18_augment 53 = .ok (.iconst 2, 1) := by decide +kernel
theorem dX18_augment_54 : decode cX18_augment 54 = .ok (.goto 16, 3) := by decide +kernel
theorem dX18_augment_57 : decode cX18_augment 57 = .ok (.aload_n 0, 1) := by decide +kernel
theorem dX18_augment_58 : decode cX18_augment 58 = .ok (.iload_n 1, 1) := by decide +kernel
theorem dX18_augment_59 : decode cX18_augment 59 = .ok (.invokevirtual 383, 3) := by decide +kernel
theorem dX18_augment_62 : decode cX18_augment 62 = .ok (.ifCond .eq 7, 3) := by decide +kernel
theorem dX18_augment_65 : decode cX18_augment 65 = .ok (.iconst 3, 1) := by decide +kernel
theorem dX18_augment_66 : decode cX18_augment 66 = .ok (.goto 4, 3) := by decide +kernel
theorem dX18_augment_69 : decode cX18_augment 69 = .ok (.iconst 0, 1) := by decide +kernel
theorem dX18_augment_70 : decode cX18_augment 70 = .ok (.invokevirtual 84, 3) := by decide +kernel
theorem dX18_augment_73 : decode cX18_augment 73 = .ok (.ifCond .eq 5, 3) := by decide +kernel
theorem dX18_augment_76 : decode cX18_augment 76 = .ok (.iconst 0, 1) := by decide +kernel
theorem dX18_augment_77 : decode cX18_augment 77 = .ok (.ireturn, 1) := by decide +kernel
theorem dX18_augment_78 : decode cX18_augment 78 = .ok (.aload_n 0, 1) := by decide +kernel
theorem dX18_augment_79 : decode cX18_augment 79 = .ok (.getfield 20, 3) := by decide +kernel
theorem dX18_augment_82 : decode cX18_augment 82 = .ok (.iload_n 1, 1) := by decide +kernel
theorem dX18_augment_83 : decode cX18_augment 83 = .ok (.invokevirtual 294, 3) := by decide +kernel
theorem dX18_augment_86 : decode cX18_augment 86 = .ok (.checkcast 373, 3) := by decide +kernel
theorem dX18_augment_89 : decode cX18_augment 89 = .ok (.astore 6, 2) := by decide +kernel
theorem dX18_augment_91 : decode cX18_augment 91 = .ok (.aload 6, 2) := by decide +kernel
theorem dX18_augment_93 : decode cX18_augment 93 = .ok (.getfield 464, 3) := by decide +kernel
theorem dX18_augment_96 : decode cX18_augment 96 = .ok (.ifCond .le 7, 3) := by decide +kernel
theorem dX18_augment_99 : decode cX18_augment 99 = .ok (.iconst 1, 1) := by decide +kernel
theorem dX18_augment_100 : decode cX18_augment 100 = .ok (.goto 4, 3) := by decide +kernel
theorem dX18_augment_103 : decode cX18_augment 103 = .ok (.iconst 0, 1) := by decide +kernel
theorem dX18_augment_104 : decode cX18_augment 104 = .ok (.istore 7, 2) := by decide +kernel
theorem dX18_augment_106 : decode cX18_augment 106 = .ok (.aload 6, 2) := by decide +kernel
theorem dX18_augment_108 : decode cX18_augment 108 = .ok (.iload_n 2, 1) := by decide +kernel
theorem dX18_augment_109 : decode cX18_augment 109 = .ok (.putfield 464, 3) := by decide +kernel
theorem dX18_augment_112 : decode cX18_augment 112 = .ok (.aload 6, 2) := by decide +kernel
theorem dX18_augment_114 : decode cX18_augment 114 = .ok (.iload_n 3, 1) := by decide +kernel
theorem dX18_augment_115 : decode cX18_augment 115 = .ok (.putfield 467, 3) := by decide +kernel
theorem dX18_augment_118 : decode cX18_augment 118 = .ok (.aload 6, 2) := by decide +kernel
theorem dX18_augment_120 : decode cX18_augment 120 = .ok (.iload 4, 2) := by decide +kernel
theorem dX18_augment_122 : decode cX18_augment 122 = .ok (.putfield 468, 3) := by decide +kernel
theorem dX18_augment_125 : decode cX18_augment 125 = .ok (.iload 7, 2) := by decide +kernel
theorem dX18_augment_127 : decode cX18_augment 127 = .ok (.ifCond .ne 7, 3) := by decide +kernel
theorem dX18_augment_130 : decode cX18_augment 130 = .ok (.iconst 1, 1) := by decide +kernel
theorem dX18_augment_131 : decode cX18_augment 131 = .ok (.goto 4, 3) := by decide +kernel
theorem dX18_augment_134 : decode cX18_augment 134 = .ok (.iconst 0, 1) := by decide +kernel
theorem dX18_augment_135 : decode cX18_augment 135 = .ok (.ireturn, 1) := by decide +kernel
set_option maxRecDepth 20000 in
theorem ggX18_abate_X18_failsPerson : GoodIn wsX18_abate wsX18_failsPerson := goodIn_r _ [7, 8, 9, 10, 6, 11, 1, 12, 13, 14, 15, 16, 17, 18, 19, 20, 21, 22, 23, 24, 25, 43, 44, 45, 46, 47, 48, 49, 50, 51, 52, 53, 54, 55, 56, 57, 58, 59, 60, 61, 62, 63, 64, 65, 66, 67, 68, 69, 70, 86, 87, 88] (by decide +kernel) (by decide +kernel)
set_option maxRecDepth 20000 in
theorem gX18_abate_X18_failsPerson : GoodIn wsX18_abate (wsV RX18 337 RX18 yX18_failsPerson wsX18_failsPerson) := goodIn_app (goodIn_of _ (by decide +kernel)) ggX18_abate_X18_failsPerson
set_option maxRecDepth 20000 in
theorem ggX18_abate_Jx4a65c_get_915e3 : GoodIn wsX18_abate wsJx4a65c_get_915e3 := goodIn_r _ [29, 17, 30, 31, 32, 33, 34, 35, 36, 37, 38, 39, 40, 15, 41, 42, 86, 87, 88] (by decide +kernel) (by decide +kernel)
set_option maxRecDepth 20000 in
theorem gX18_abate_Jx4a65c_get_915e3 : GoodIn wsX18_abate (wsV RX18 294 RJx4a65c yJx4a65c_get_915e3 wsJx4a65c_get_915e3) := goodIn_app (goodIn_of _ (by decide +kernel)) ggX18_abate_Jx4a65c_get_915e3
theorem dX18_abate_0 : decode cX18_abate 0 = .ok (.aload_n 0, 1) := by decide +kernel
theorem dX18_abate_1 : decode cX18_abate 1 = .ok (.iload_n 1, 1) := by decide +kernel
theorem dX18_abate_2 : decode cX18_abate 2 = .ok (.invokevirtual 337, 3) := by decide +kernel
theorem dX18_abate_5 : decode cX18_abate 5 = .ok (.ifCond .eq 5, 3) := by decide +kernel
theorem dX18_abate_8 : decode cX18_abate 8 = .ok (.iconst 0, 1) := by decide +kernel
theorem dX18_abate_9 : decode cX18_abate 9 = .ok (.ireturn, 1) := by decide +kernel
theorem dX18_abate_10 : decode cX18_abate 10 = .ok (.aload_n 0, 1) := by decide +kernel
theorem dX18_abate_11 : decode cX18_abate 11 = .ok (.getfield 16, 3) := by decide +kernel
theorem dX18_abate_14 : decode cX18_abate 14 = .ok (.iload_n 1, 1) := by decide +kernel
theorem dX18_abate_15 : decode cX18_abate 15 = .ok (.invokevirtual 294, 3) := by decide +kernel
theorem dX18_abate_18 : decode cX18_abate 18 = .ok (.checkcast 298, 3) := by decide +kernel
theorem dX18_abate_21 : decode cX18_abate 21 = .ok (.getfield 495, 3) := by decide +kernel
theorem dX18_abate_24 : decode cX18_abate 24 = .ok (.istore_n 3, 1) := by decide +kernel
theorem dX18_abate_25 : decode cX18_abate 25 = .ok (.aload_n 0, 1) := by decide +kernel
theorem dX18_abate_26 : decode cX18_abate 26 = .ok (.getfield 16, 3) := by decide +kernel
theorem dX18_abate_29 : decode cX18_abate 29 = .ok (.iload_n 1, 1) := by decide +kernel
theorem dX18_abate_30 : decode cX18_abate 30 = .ok (.invokevirtual 294, 3) := by decide +kernel
theorem dX18_abate_33 : decode cX18_abate 33 = .ok (.checkcast 298, 3) := by decide +kernel
theorem dX18_abate_36 : decode cX18_abate 36 = .ok (.iload_n 2, 1) := by decide +kernel
theorem dX18_abate_37 : decode cX18_abate 37 = .ok (.putfield 495, 3) := by decide +kernel
theorem dX18_abate_40 : decode cX18_abate 40 = .ok (.iload_n 3, 1) := by decide +kernel
theorem dX18_abate_41 : decode cX18_abate 41 = .ok (.ireturn, 1) := by decide +kernel
theorem dX18_year_0 : decode cX18_year 0 = .ok (.aload_n 0, 1) := by decide +kernel
theorem dX18_year_1 : decode cX18_year 1 = .ok (.iconst 0, 1) := by decide +kernel
theorem dX18_year_2 : decode cX18_year 2 = .ok (.putfield 73, 3) := by decide +kernel
theorem dX18_year_5 : decode cX18_year 5 = .ok (.aload_n 0, 1) := by decide +kernel
theorem dX18_year_6 : decode cX18_year 6 = .ok (.getfield 285, 3) := by decide +kernel
theorem dX18_year_9 : decode cX18_year 9 = .ok (.ireturn, 1) := by decide +kernel
set_option maxRecDepth 20000 in
theorem ggX18_persons_Jx4a65c_size_8abf5 : GoodIn wsX18_persons wsJx4a65c_size_8abf5 := goodIn_r _ [7, 8, 37, 38, 39] (by decide +kernel) (by decide +kernel)
set_option maxRecDepth 20000 in
theorem gX18_persons_Jx4a65c_size_8abf5 : GoodIn wsX18_persons (wsV RX18 288 RJx4a65c yJx4a65c_size_8abf5 wsJx4a65c_size_8abf5) := goodIn_app (goodIn_of _ (by decide +kernel)) ggX18_persons_Jx4a65c_size_8abf5
theorem dX18_persons_0 : decode cX18_persons 0 = .ok (.aload_n 0, 1) := by decide +kernel
theorem dX18_persons_1 : decode cX18_persons 1 = .ok (.iconst 0, 1) := by decide +kernel
theorem dX18_persons_2 : decode cX18_persons 2 = .ok (.putfield 73, 3) := by decide +kernel
theorem dX18_persons_5 : decode cX18_persons 5 = .ok (.aload_n 0, 1) := by decide +kernel
theorem dX18_persons_6 : decode cX18_persons 6 = .ok (.getfield 16, 3) := by decide +kernel
theorem dX18_persons_9 : decode cX18_persons 9 = .ok (.invokevirtual 288, 3) := by decide +kernel
theorem dX18_persons_12 : decode cX18_persons 12 = .ok (.ireturn, 1) := by decide +kernel
set_option maxRecDepth 20000 in
theorem ggX18_arms_Jx4a65c_size_8abf5 : GoodIn wsX18_arms wsJx4a65c_size_8abf5 := goodIn_r _ [7, 8, 37, 38, 39] (by decide +kernel) (by decide +kernel)
set_option maxRecDepth 20000 in
theorem gX18_arms_Jx4a65c_size_8abf5 : GoodIn wsX18_arms (wsV RX18 288 RJx4a65c yJx4a65c_size_8abf5 wsJx4a65c_size_8abf5) := goodIn_app (goodIn_of _ (by decide +kernel)) ggX18_arms_Jx4a65c_size_8abf5
theorem dX18_arms_0 : decode cX18_arms 0 = .ok (.aload_n 0, 1) := by decide +kernel
theorem dX18_arms_1 : decode cX18_arms 1 = .ok (.iconst 0, 1) := by decide +kernel
theorem dX18_arms_2 : decode cX18_arms 2 = .ok (.putfield 73, 3) := by decide +kernel
theorem dX18_arms_5 : decode cX18_arms 5 = .ok (.aload_n 0, 1) := by decide +kernel
theorem dX18_arms_6 : decode cX18_arms 6 = .ok (.getfield 20, 3) := by decide +kernel
theorem dX18_arms_9 : decode cX18_arms 9 = .ok (.invokevirtual 288, 3) := by decide +kernel
theorem dX18_arms_12 : decode cX18_arms 12 = .ok (.ireturn, 1) := by decide +kernel
set_option maxRecDepth 20000 in
theorem ggX18_allPoints_Jx4a65c_size_8abf5 : GoodIn wsX18_allPoints wsJx4a65c_size_8abf5 := goodIn_r _ [9, 10, 159, 160, 161] (by decide +kernel) (by decide +kernel)
set_option maxRecDepth 20000 in
theorem gX18_allPoints_Jx4a65c_size_8abf5 : GoodIn wsX18_allPoints (wsV RX18 288 RJx4a65c yJx4a65c_size_8abf5 wsJx4a65c_size_8abf5) := goodIn_app (goodIn_of _ (by decide +kernel)) ggX18_allPoints_Jx4a65c_size_8abf5
set_option maxRecDepth 20000 in
theorem ggX18_allPoints_X18_drawArms : GoodIn wsX18_allPoints wsX18_drawArms := goodIn_ca (goodIn_r _ [15, 2, 16, 17, 18, 19, 20, 21, 22, 8, 23, 10, 24, 25, 26, 27, 28, 29, 30, 31, 32, 33, 34, 35, 36, 37, 38, 39, 40, 41, 42, 43, 44, 45, 46, 47, 48, 49, 50, 51, 52, 53, 54, 55, 56, 57, 58, 59, 60, 61, 62, 63, 64, 65, 66, 67, 68, 69, 70, 71, 72, 73, 74, 75, 76, 77, 78, 79, 80, 81, 14, 82, 83, 84, 85, 86, 87, 88, 89, 90, 91, 92, 93, 94, 95, 96, 97, 98, 99, 100, 101, 102, 103, 104, 105, 106, 107, 108, 109, 110, 111, 112, 113, 114, 115, 116, 117, 118, 119, 120, 121, 122, 123, 124, 125, 126, 127, 128, 129, 130, 131, 132, 133, 134, 135, 136, 137, 138, 139, 140, 141, 142, 143, 144, 145, 146, 147, 148, 149, 150, 151, 152, 153, 154, 155, 156, 157, 158, 162, 163, 164, 165, 166, 167, 168, 169, 170, 171, 172, 173, 174, 175, 176, 177, 159, 160, 161, 178, 179, 180, 181, 182, 183, 184, 185, 186, 187, 188, 189, 190, 191, 192] (by decide +kernel) (by decide +kernel)) (goodIn_sub (fun _ h => List.mem_cons_of_mem _ (List.mem_append_right _ h)) (by decide +kernel))
set_option maxRecDepth 20000 in
theorem gX18_allPoints_X18_drawArms : GoodIn wsX18_allPoints (wsV RX18 422 RX18 yX18_drawArms wsX18_drawArms) := goodIn_app (goodIn_of _ (by decide +kernel)) ggX18_allPoints_X18_drawArms
theorem dX18_allPoints_0 : decode cX18_allPoints 0 = .ok (.aload_n 0, 1) := by decide +kernel
theorem dX18_allPoints_1 : decode cX18_allPoints 1 = .ok (.iconst 0, 1) := by decide +kernel
theorem dX18_allPoints_2 : decode cX18_allPoints 2 = .ok (.putfield 73, 3) := by decide +kernel
theorem dX18_allPoints_5 : decode cX18_allPoints 5 = .ok (.lconst 0, 1) := by decide +kernel
theorem dX18_allPoints_6 : decode cX18_allPoints 6 = .ok (.lstore_n 1, 1) := by decide +kernel
theorem dX18_allPoints_7 : decode cX18_allPoints 7 = .ok (.iconst 0, 1) := by decide +kernel
theorem dX18_allPoints_8 : decode cX18_allPoints 8 = .ok (.istore_n 3, 1) := by decide +kernel
theorem dX18_allPoints_9 : decode cX18_allPoints 9 = .ok (.iload_n 3, 1) := by decide +kernel
theorem dX18_allPoints_10 : decode cX18_allPoints 10 = .ok (.aload_n 0, 1) := by decide +kernel
theorem dX18_allPoints_11 : decode cX18_allPoints 11 = .ok (.getfield 20, 3) := by decide +kernel
theorem dX18_allPoints_14 : decode cX18_allPoints 14 = .ok (.invokevirtual 288, 3) := by decide +kernel
theorem dX18_allPoints_17 : decode cX18_allPoints 17 = .ok (.if_icmp .ge 70, 3) := by decide +kernel
theorem dX18_allPoints_20 : decode cX18_allPoints 20 = .ok (.aload_n 0, 1) := by decide +kernel
theorem dX18_allPoints_21 : decode cX18_allPoints 21 = .ok (.iload_n 3, 1) := by decide +kernel
theorem dX18_allPoints_22 : decode cX18_allPoints 22 = .ok (.iconst 0, 1) := by decide +kernel
theorem dX18_allPoints_23 : decode cX18_allPoints 23 = .ok (.newarray .int, 2) := by decide +kernel
theorem dX18_allPoints_25 : decode cX18_allPoints 25 = .ok (.aload_n 0, 1) := by decide +kernel
theorem dX18_allPoints_26 : decode cX18_allPoints 26 = .ok (.getfield 40, 3) := by decide +kernel
theorem dX18_allPoints_29 : decode cX18_allPoints 29 = .ok (.invokevirtual 422, 3) := by decide +kernel
theorem dX18_allPoints_32 : decode cX18_allPoints 32 = .ok (.lconst 0, 1) := by decide +kernel
theorem dX18_allPoints_33 : decode cX18_allPoints 33 = .ok (.lstore 4, 2) := by decide +kernel
theorem dX18_allPoints_35 : decode cX18_allPoints 35 = .ok (.iconst 0, 1) := by decide +kernel
theorem dX18_allPoints_36 : decode cX18_allPoints 36 = .ok (.istore 6, 2) := by decide +kernel
theorem dX18_allPoints_38 : decode cX18_allPoints 38 = .ok (.iload 6, 2) := by decide +kernel
theorem dX18_allPoints_40 : decode cX18_allPoints 40 = .ok (.sipush 256, 3) := by decide +kernel
theorem dX18_allPoints_43 : decode cX18_allPoints 43 = .ok (.if_icmp .ge 28, 3) := by decide +kernel
theorem dX18_allPoints_46 : decode cX18_allPoints 46 = .ok (.lload 4, 2) := by decide +kernel
theorem dX18_allPoints_48 : decode cX18_allPoints 48 = .ok (.iload 6, 2) := by decide +kernel
theorem dX18_allPoints_50 : decode cX18_allPoints 50 = .ok (.iconst 1, 1) := by decide +kernel
theorem dX18_allPoints_51 : decode cX18_allPoints 51 = .ok (.iadd, 1) := by decide +kernel
theorem dX18_allPoints_52 : decode cX18_allPoints 52 = .ok (.i2l, 1) := by decide +kernel
theorem dX18_allPoints_53 : decode cX18_allPoints 53 = .ok (.aload_n 0, 1) := by decide +kernel
theorem dX18_allPoints_54 : decode cX18_allPoints 54 = .ok (.getfield 40, 3) := by decide +kernel
theorem dX18_allPoints_57 : decode cX18_allPoints 57 = .ok (.iload 6, 2) := by decide +kernel
theorem dX18_allPoints_59 : decode cX18_allPoints 59 = .ok (.iaload, 1) := by decide +kernel
theorem dX18_allPoints_60 : decode cX18_allPoints 60 = .ok (.i2l, 1) := by decide +kernel
theorem dX18_allPoints_61 : decode cX18_allPoints 61 = .ok (.lmul, 1) := by decide +kernel
theorem dX18_allPoints_62 : decode cX18_allPoints 62 = .ok (.ladd, 1) := by decide +kernel
theorem dX18_allPoints_63 : decode cX18_allPoints 63 = .ok (.lstore 4, 2) := by decide +kernel
theorem dX18_allPoints_65 : decode cX18_allPoints 65 = .ok (.iinc 6 1, 3) := by decide +kernel
theorem dX18_allPoints_68 : decode cX18_allPoints 68 = .ok (.goto (-30), 3) := by decide +kernel
theorem dX18_allPoints_71 : decode cX18_allPoints 71 = .ok (.lload_n 1, 1) := by decide +kernel
theorem dX18_allPoints_72 : decode cX18_allPoints 72 = .ok (.iload_n 3, 1) := by decide +kernel
theorem dX18_allPoints_73 : decode cX18_allPoints 73 = .ok (.iconst 1, 1) := by decide +kernel
theorem dX18_allPoints_74 : decode cX18_allPoints 74 = .ok (.iadd, 1) := by decide +kernel
theorem dX18_allPoints_75 : decode cX18_allPoints 75 = .ok (.i2l, 1) := by decide +kernel
theorem dX18_allPoints_76 : decode cX18_allPoints 76 = .ok (.lload 4, 2) := by decide +kernel
theorem dX18_allPoints_78 : decode cX18_allPoints 78 = .ok (.lmul, 1) := by decide +kernel
theorem dX18_allPoints_79 : decode cX18_allPoints 79 = .ok (.ladd, 1) := by decide +kernel
theorem dX18_allPoints_80 : decode cX18_allPoints 80 = .ok (.lstore_n 1, 1) := by decide +kernel
theorem dX18_allPoints_81 : decode cX18_allPoints 81 = .ok (.iinc 3 1, 3) := by decide +kernel
theorem dX18_allPoints_84 : decode cX18_allPoints 84 = .ok (.goto (-75), 3) := by decide +kernel
theorem dX18_allPoints_87 : decode cX18_allPoints 87 = .ok (.lload_n 1, 1) := by decide +kernel
theorem dX18_allPoints_88 : decode cX18_allPoints 88 = .ok (.lreturn, 1) := by decide +kernel
set_option maxRecDepth 20000 in
theorem ggX18_armigerShare_Jx4a65c_iterator_32c93 : GoodIn wsX18_armigerShare wsJx4a65c_iterator_32c93 := goodIn_r _ [7, 8, 9, 10, 11, 12, 13, 14, 15, 16, 17, 18, 19, 20, 21, 158, 159, 160, 161, 162, 163, 164] (by decide +kernel) (by decide +kernel)
set_option maxRecDepth 20000 in
theorem gX18_armigerShare_Jx4a65c_iterator_32c93 : GoodIn wsX18_armigerShare (wsV RX18 313 RJx4a65c yJx4a65c_iterator_32c93 wsJx4a65c_iterator_32c93) := goodIn_app (goodIn_of _ (by decide +kernel)) ggX18_armigerShare_Jx4a65c_iterator_32c93
set_option maxRecDepth 20000 in
theorem ggX18_armigerShare_Jx35411_hasNext_aae02 : GoodIn wsX18_armigerShare wsJx35411_hasNext_aae02 := goodIn_r _ [25, 26, 14, 158, 159, 160, 161, 162, 163, 164] (by decide +kernel) (by decide +kernel)
set_option maxRecDepth 20000 in
theorem gX18_armigerShare_Jx35411_hasNext_aae02_f317Jx35411 : GoodIn wsX18_armigerShare (va_wsF RX18 317 RJx35411 ⟨"java/util/Iterator", "hasNext", "()Z"⟩ yJx35411_hasNext_aae02 wsJx35411_hasNext_aae02) := goodIn_app (goodIn_of _ (by decide +kernel)) ggX18_armigerShare_Jx35411_hasNext_aae02
set_option maxRecDepth 20000 in
theorem ggX18_armigerShare_Jx35411_next_0502b : GoodIn wsX18_armigerShare wsJx35411_next_0502b := goodIn_r _ [30, 26, 14, 31, 18, 32, 33, 34, 10, 35, 19, 20, 21, 158, 159, 160, 161, 162, 163, 164] (by decide +kernel) (by decide +kernel)
set_option maxRecDepth 20000 in
theorem gX18_armigerShare_Jx35411_next_0502b_f322Jx35411 : GoodIn wsX18_armigerShare (va_wsF RX18 322 RJx35411 ⟨"java/util/Iterator", "next", "()Ljava/lang/Object;"⟩ yJx35411_next_0502b wsJx35411_next_0502b) := goodIn_app (goodIn_of _ (by decide +kernel)) ggX18_armigerShare_Jx35411_next_0502b
set_option maxRecDepth 20000 in
theorem ggX18_armigerShare_X18_bears : GoodIn wsX18_armigerShare wsX18_bears := goodIn_ca (goodIn_r _ [40, 41, 42, 43, 44, 45, 46, 1, 2, 47, 48, 49, 39, 50, 51, 52, 53, 6, 54, 55, 56, 57, 58, 59, 60, 61, 62, 63, 64, 65, 66, 67, 68, 69, 70, 71, 72, 73, 74, 75, 76, 16, 17, 77, 78, 79, 80, 81, 82, 83, 84, 85, 86, 87, 88, 89, 90, 3, 4, 5, 7, 8, 9, 10, 11, 12, 13, 14, 15, 18, 19, 20, 21, 22, 23, 24, 25, 26, 27, 28, 29, 30, 31, 32, 33, 34, 35, 91, 92, 93, 94, 95, 96, 97, 98, 99, 100, 101, 102, 36, 37, 38, 103, 104, 105, 106, 107, 108, 109, 143, 144, 145, 146, 147, 148, 149, 150, 151, 152, 153, 154, 155, 156, 157, 165, 166, 115, 116, 117, 118, 119, 120, 121, 122, 123, 124, 125, 126, 127, 128, 129, 130, 131, 132, 133, 134, 135, 136, 137, 138, 139, 140, 141, 142, 167, 168, 169, 170, 171, 172, 173, 174, 175, 176, 162, 163, 164, 158, 159, 160, 161] (by decide +kernel) (by decide +kernel)) (goodIn_sub (fun _ h => List.mem_cons_of_mem _ (List.mem_append_right _ h)) (by decide +kernel))
set_option maxRecDepth 20000 in
theorem gX18_armigerShare_X18_bears : GoodIn wsX18_armigerShare (wsV RX18 347 RX18 yX18_bears wsX18_bears) := goodIn_app (goodIn_of _ (by decide +kernel)) ggX18_armigerShare_X18_bears
set_option maxRecDepth 20000 in
theorem ggX18_armigerShare_X18_fails : GoodIn wsX18_armigerShare wsX18_fails := goodIn_r _ [113, 114, 115, 116, 117, 118, 119, 120, 121, 122, 123, 124, 125, 126, 127, 128, 129, 130, 131, 132, 133, 134, 135, 136, 137, 138, 139, 140, 141, 142] (by decide +kernel) (by decide +kernel)
set_option maxRecDepth 20000 in
theorem gX18_armigerShare_X18_fails : GoodIn wsX18_armigerShare (wsV RX18 84 RX18 yX18_fails wsX18_fails) := goodIn_app (goodIn_of _ (by decide +kernel)) ggX18_armigerShare_X18_fails
theorem dX18_armigerShare_0 : decode cX18_armigerShare 0 = .ok (.iconst 0, 1) := by decide +kernel
theorem dX18_armigerShare_1 : decode cX18_armigerShare 1 = .ok (.istore_n 1, 1) := by decide +kernel
theorem dX18_armigerShare_2 : decode cX18_armigerShare 2 = .ok (.iconst 0, 1) := by decide +kernel
theorem dX18_armigerShare_3 : decode cX18_armigerShare 3 = .ok (.istore_n 2, 1) := by decide +kernel
theorem dX18_armigerShare_4 : decode cX18_armigerShare 4 = .ok (.aload_n 0, 1) := by decide +kernel
theorem dX18_armigerShare_5 : decode cX18_armigerShare 5 = .ok (.getfield 16, 3) := by decide +kernel
theorem dX18_armigerShare_8 : decode cX18_armigerShare 8 = .ok (.invokevirtual 313, 3) := by decide +kernel
theorem dX18_armigerShare_11 : decode cX18_armigerShare 11 = .ok (.astore_n 3, 1) := by decide +kernel
theorem dX18_armigerShare_12 : decode cX18_armigerShare 12 = .ok (.aload_n 3, 1) := by decide +kernel
theorem dX18_armigerShare_13 : decode cX18_armigerShare 13 = .ok (.invokeinterface 317 1, 5) := by decide +kernel
theorem dX18_armigerShare_18 : decode cX18_armigerShare 18 = .ok (.ifCond .eq 58, 3) := by decide +kernel
theorem dX18_armigerShare_21 : decode cX18_armigerShare 21 = .ok (.aload_n 3, 1) := by decide +kernel
theorem dX18_armigerShare_22 : decode cX18_armigerShare 22 = .ok (.invokeinterface 322 1, 5) := by decide +kernel
theorem dX18_armigerShare_27 : decode cX18_armigerShare 27 = .ok (.checkcast 298, 3) := by decide +kernel
theorem dX18_armigerShare_30 : decode cX18_armigerShare 30 = .ok (.astore 4, 2) := by decide +kernel
theorem dX18_armigerShare_32 : decode cX18_armigerShare 32 = .ok (.iload_n 1, 1) := by decide +kernel
theorem dX18_armigerShare_33 : decode cX18_armigerShare 33 = .ok (.aload 4, 2) := by decide +kernel
theorem dX18_armigerShare_35 : decode cX18_armigerShare 35 = .ok (.getfield 330, 3) := by decide +kernel
theorem dX18_armigerShare_38 : decode cX18_armigerShare 38 = .ok (.ifCond .eq 7, 3) := by decide +kernel
theorem dX18_armigerShare_41 : decode cX18_armigerShare 41 = .ok (.iconst 1, 1) := by decide +kernel
theorem dX18_armigerShare_42 : decode cX18_armigerShare 42 = .ok (.goto 4, 3) := by decide +kernel
theorem dX18_armigerShare_45 : decode cX18_armigerShare 45 = .ok (.iconst 0, 1) := by decide +kernel
theorem dX18_armigerShare_46 : decode cX18_armigerShare 46 = .ok (.iadd, 1) := by decide +kernel
theorem dX18_armigerShare_47 : decode cX18_armigerShare 47 = .ok (.istore_n 1, 1) := by decide +kernel
theorem dX18_armigerShare_48 : decode cX18_armigerShare 48 = .ok (.iload_n 2, 1) := by decide +kernel
theorem dX18_armigerShare_49 : decode cX18_armigerShare 49 = .ok (.aload 4, 2) := by decide +kernel
theorem dX18_armigerShare_51 : decode cX18_armigerShare 51 = .ok (.getfield 330, 3) := by decide +kernel
theorem dX18_armigerShare_54 : decode cX18_armigerShare 54 = .ok (.ifCond .eq 16, 3) := by decide +kernel
theorem dX18_armigerShare_57 : decode cX18_armigerShare 57 = .ok (.aload_n 0, 1) := by decide +kernel
theorem dX18_armigerShare_58 : decode cX18_armigerShare 58 = .ok (.aload 4, 2) := by decide +kernel
theorem dX18_armigerShare_60 : decode cX18_armigerShare 60 = .ok (.invokevirtual 347, 3) := by decide +kernel
theorem dX18_armigerShare_63 : decode cX18_armigerShare 63 = .ok (.ifnull 7, 3) := by decide +kernel
theorem dX18_armigerShare_66 : decode cX18_armigerShare 66 = .ok (.iconst 1, 1) := by decide +kernel
theorem dX18_armigerShare_67 : decode cX18_armigerShare 67 = .ok (.goto 4, 3) := by decide +kernel
theorem dX18_armigerShare_70 : decode cX18_armigerShare 70 = .ok (.iconst 0, 1) := by decide +kernel
theorem dX18_armigerShare_71 : decode cX18_armigerShare 71 = .ok (.iadd, 1) := by decide +kernel
theorem dX18_armigerShare_72 : decode cX18_armigerShare 72 = .ok (.istore_n 2, 1) := by decide +kernel
theorem dX18_armigerShare_73 : decode cX18_armigerShare 73 = .ok (.goto (-61), 3) := by decide +kernel
theorem dX18_armigerShare_76 : decode cX18_armigerShare 76 = .ok (.aload_n 0, 1) := by decide +kernel
theorem dX18_armigerShare_77 : decode cX18_armigerShare 77 = .ok (.iload_n 1, 1) := by decide +kernel
theorem dX18_armigerShare_78 : decode cX18_armigerShare 78 = .ok (.ifCond .ne 7, 3) := by decide +kernel
theorem dX18_armigerShare_81 : decode cX18_armigerShare 81 = .ok (.iconst 1, 1) := by decide +kernel
theorem dX18_armigerShare_82 : decode cX18_armigerShare 82 = .ok (.goto 4, 3) := by decide +kernel
theorem dX18_armigerShare_85 : decode cX18_armigerShare 85 = .ok (.iconst 0, 1) := by decide +kernel
theorem dX18_armigerShare_86 : decode cX18_armigerShare 86 = .ok (.invokevirtual 84, 3) := by decide +kernel
theorem dX18_armigerShare_89 : decode cX18_armigerShare 89 = .ok (.ifCond .eq 7, 3) := by decide +kernel
theorem dX18_armigerShare_92 : decode cX18_armigerShare 92 = .ok (.fconst 0, 1) := by decide +kernel
theorem dX18_armigerShare_93 : decode cX18_armigerShare 93 = .ok (.goto 8, 3) := by decide +kernel
theorem dX18_armigerShare_96 : decode cX18_armigerShare 96 = .ok (.iload_n 2, 1) := by decide +kernel
theorem dX18_armigerShare_97 : decode cX18_armigerShare 97 = .ok (.i2f, 1) := by decide +kernel
theorem dX18_armigerShare_98 : decode cX18_armigerShare 98 = .ok (.iload_n 1, 1) := by decide +kernel
theorem dX18_armigerShare_99 : decode cX18_armigerShare 99 = .ok (.i2f, 1) := by decide +kernel
theorem dX18_armigerShare_100 : decode cX18_armigerShare 100 = .ok (.fdiv, 1) := by decide +kernel
theorem dX18_armigerShare_101 : decode cX18_armigerShare 101 = .ok (.freturn, 1) := by decide +kernel
set_option maxRecDepth 20000 in
theorem ggX18_meanWords_Jx4a65c_iterator_32c93 : GoodIn wsX18_meanWords wsJx4a65c_iterator_32c93 := goodIn_r _ [7, 8, 9, 10, 11, 12, 13, 14, 15, 16, 17, 18, 19, 20, 21, 89, 90, 91, 92, 93, 94, 95] (by decide +kernel) (by decide +kernel)
set_option maxRecDepth 20000 in
theorem gX18_meanWords_Jx4a65c_iterator_32c93 : GoodIn wsX18_meanWords (wsV RX18 313 RJx4a65c yJx4a65c_iterator_32c93 wsJx4a65c_iterator_32c93) := goodIn_app (goodIn_of _ (by decide +kernel)) ggX18_meanWords_Jx4a65c_iterator_32c93
set_option maxRecDepth 20000 in
theorem ggX18_meanWords_Jx35411_hasNext_aae02 : GoodIn wsX18_meanWords wsJx35411_hasNext_aae02 := goodIn_r _ [25, 26, 14, 89, 90, 91, 92, 93, 94, 95] (by decide +kernel) (by decide +kernel)
set_option maxRecDepth 20000 in
theorem gX18_meanWords_Jx35411_hasNext_aae02_f317Jx35411 : GoodIn wsX18_meanWords (va_wsF RX18 317 RJx35411 ⟨"java/util/Iterator", "hasNext", "()Z"⟩ yJx35411_hasNext_aae02 wsJx35411_hasNext_aae02) := goodIn_app (goodIn_of _ (by decide +kernel)) ggX18_meanWords_Jx35411_hasNext_aae02
set_option maxRecDepth 20000 in
theorem ggX18_meanWords_Jx35411_next_0502b : GoodIn wsX18_meanWords wsJx35411_next_0502b := goodIn_r _ [30, 26, 14, 31, 18, 32, 33, 34, 10, 35, 19, 20, 21, 89, 90, 91, 92, 93, 94, 95] (by decide +kernel) (by decide +kernel)
set_option maxRecDepth 20000 in
theorem gX18_meanWords_Jx35411_next_0502b_f322Jx35411 : GoodIn wsX18_meanWords (va_wsF RX18 322 RJx35411 ⟨"java/util/Iterator", "next", "()Ljava/lang/Object;"⟩ yJx35411_next_0502b wsJx35411_next_0502b) := goodIn_app (goodIn_of _ (by decide +kernel)) ggX18_meanWords_Jx35411_next_0502b
set_option maxRecDepth 20000 in
theorem ggX18_meanWords_Jx4a65c_isEmpty_aae02 : GoodIn wsX18_meanWords wsJx4a65c_isEmpty_aae02 := goodIn_r _ [39, 40, 93, 94, 95] (by decide +kernel) (by decide +kernel)
set_option maxRecDepth 20000 in
theorem gX18_meanWords_Jx4a65c_isEmpty_aae02 : GoodIn wsX18_meanWords (wsV RX18 562 RJx4a65c yJx4a65c_isEmpty_aae02 wsJx4a65c_isEmpty_aae02) := goodIn_app (goodIn_of _ (by decide +kernel)) ggX18_meanWords_Jx4a65c_isEmpty_aae02
set_option maxRecDepth 20000 in
theorem ggX18_meanWords_X18_fails : GoodIn wsX18_meanWords wsX18_fails := goodIn_r _ [45, 46, 51, 52, 53, 54, 55, 56, 57, 58, 59, 60, 61, 62, 63, 64, 65, 66, 67, 68, 69, 70, 71, 72, 73, 74, 75, 76, 77, 78] (by decide +kernel) (by decide +kernel)
set_option maxRecDepth 20000 in
theorem gX18_meanWords_X18_fails : GoodIn wsX18_meanWords (wsV RX18 84 RX18 yX18_fails wsX18_fails) := goodIn_app (goodIn_of _ (by decide +kernel)) ggX18_meanWords_X18_fails
set_option maxRecDepth 20000 in
theorem ggX18_meanWords_Jx4a65c_size_8abf5 : GoodIn wsX18_meanWords wsJx4a65c_size_8abf5 := goodIn_r _ [50, 40, 93, 94, 95] (by decide +kernel) (by decide +kernel)
set_option maxRecDepth 20000 in
theorem gX18_meanWords_Jx4a65c_size_8abf5 : GoodIn wsX18_meanWords (wsV RX18 288 RJx4a65c yJx4a65c_size_8abf5 wsJx4a65c_size_8abf5) := goodIn_app (goodIn_of _ (by decide +kernel)) ggX18_meanWords_Jx4a65c_size_8abf5
theorem dX18_meanWords_0 : decode cX18_meanWords 0 = .ok (.iconst 0, 1) := by decide +kernel
theorem dX18_meanWords_1 : decode cX18_meanWords 1 = .ok (.istore_n 1, 1) := by decide +kernel
theorem dX18_meanWords_2 : decode cX18_meanWords 2 = .ok (.aload_n 0, 1) := by decide +kernel
theorem dX18_meanWords_3 : decode cX18_meanWords 3 = .ok (.getfield 20, 3) := by decide +kernel
theorem dX18_meanWords_6 : decode cX18_meanWords 6 = .ok (.invokevirtual 313, 3) := by decide +kernel
theorem dX18_meanWords_9 : decode cX18_meanWords 9 = .ok (.astore_n 2, 1) := by decide +kernel
theorem dX18_meanWords_10 : decode cX18_meanWords 10 = .ok (.aload_n 2, 1) := by decide +kernel
theorem dX18_meanWords_11 : decode cX18_meanWords 11 = .ok (.invokeinterface 317 1, 5) := by decide +kernel
theorem dX18_meanWords_16 : decode cX18_meanWords 16 = .ok (.ifCond .eq 24, 3) := by decide +kernel
theorem dX18_meanWords_19 : decode cX18_meanWords 19 = .ok (.aload_n 2, 1) := by decide +kernel
theorem dX18_meanWords_20 : decode cX18_meanWords 20 = .ok (.invokeinterface 322 1, 5) := by decide +kernel
theorem dX18_meanWords_25 : decode cX18_meanWords 25 = .ok (.checkcast 373, 3) := by decide +kernel
theorem dX18_meanWords_28 : decode cX18_meanWords 28 = .ok (.astore_n 3, 1) := by decide +kernel
theorem dX18_meanWords_29 : decode cX18_meanWords 29 = .ok (.iload_n 1, 1) := by decide +kernel
theorem dX18_meanWords_30 : decode cX18_meanWords 30 = .ok (.aload_n 3, 1) := by decide +kernel
theorem dX18_meanWords_31 : decode cX18_meanWords 31 = .ok (.getfield 498, 3) := by decide +kernel
theorem dX18_meanWords_34 : decode cX18_meanWords 34 = .ok (.arraylength, 1) := by decide +kernel
theorem dX18_meanWords_35 : decode cX18_meanWords 35 = .ok (.iadd, 1) := by decide +kernel
theorem dX18_meanWords_36 : decode cX18_meanWords 36 = .ok (.istore_n 1, 1) := by decide +kernel
theorem dX18_meanWords_37 : decode cX18_meanWords 37 = .ok (.goto (-27), 3) := by decide +kernel
theorem dX18_meanWords_40 : decode cX18_meanWords 40 = .ok (.aload_n 0, 1) := by decide +kernel
theorem dX18_meanWords_41 : decode cX18_meanWords 41 = .ok (.aload_n 0, 1) := by decide +kernel
theorem dX18_meanWords_42 : decode cX18_meanWords 42 = .ok (.getfield 20, 3) := by decide +kernel
theorem dX18_meanWords_45 : decode cX18_meanWords 45 = .ok (.invokevirtual 562, 3) := by decide +kernel
theorem dX18_meanWords_48 : decode cX18_meanWords 48 = .ok (.ifCond .eq 7, 3) := by decide +kernel
theorem dX18_meanWords_51 : decode cX18_meanWords 51 = .ok (.iconst 1, 1) := by decide +kernel
theorem dX18_meanWords_52 : decode cX18_meanWords 52 = .ok (.goto 4, 3) := by decide +kernel
theorem dX18_meanWords_55 : decode cX18_meanWords 55 = .ok (.iconst 0, 1) := by decide +kernel
theorem dX18_meanWords_56 : decode cX18_meanWords 56 = .ok (.invokevirtual 84, 3) := by decide +kernel
theorem dX18_meanWords_59 : decode cX18_meanWords 59 = .ok (.ifCond .eq 7, 3) := by decide +kernel
theorem dX18_meanWords_62 : decode cX18_meanWords 62 = .ok (.dconst 0, 1) := by decide +kernel
theorem dX18_meanWords_63 : decode cX18_meanWords 63 = .ok (.goto 14, 3) := by decide +kernel
theorem dX18_meanWords_66 : decode cX18_meanWords 66 = .ok (.iload_n 1, 1) := by decide +kernel
theorem dX18_meanWords_67 : decode cX18_meanWords 67 = .ok (.i2d, 1) := by decide +kernel
theorem dX18_meanWords_68 : decode cX18_meanWords 68 = .ok (.aload_n 0, 1) := by decide +kernel
theorem dX18_meanWords_69 : decode cX18_meanWords 69 = .ok (.getfield 20, 3) := by decide +kernel
theorem dX18_meanWords_72 : decode cX18_meanWords 72 = .ok (.invokevirtual 288, 3) := by decide +kernel
theorem dX18_meanWords_75 : decode cX18_meanWords 75 = .ok (.i2d, 1) := by decide +kernel
theorem dX18_meanWords_76 : decode cX18_meanWords 76 = .ok (.ddiv, 1) := by decide +kernel
theorem dX18_meanWords_77 : decode cX18_meanWords 77 = .ok (.dreturn, 1) := by decide +kernel
theorem dX18_isSound_0 : decode cX18_isSound 0 = .ok (.aload_n 0, 1) := by decide +kernel
theorem dX18_isSound_1 : decode cX18_isSound 1 = .ok (.iconst 0, 1) := by decide +kernel
theorem dX18_isSound_2 : decode cX18_isSound 2 = .ok (.putfield 73, 3) := by decide +kernel
theorem dX18_isSound_5 : decode cX18_isSound 5 = .ok (.iconst 1, 1) := by decide +kernel
theorem dX18_isSound_6 : decode cX18_isSound 6 = .ok (.ireturn, 1) := by decide +kernel
theorem dJx00060_init_a7421_0 : decode cJx00060_init_a7421 0 = .ok (.aload_n 0, 1) := by decide +kernel
theorem dJx00060_init_a7421_1 : decode cJx00060_init_a7421 1 = .ok (.aload_n 1, 1) := by decide +kernel
theorem dJx00060_init_a7421_2 : decode cJx00060_init_a7421 2 = .ok (.invokespecial 7, 3) := by decide +kernel
theorem dJx00060_init_a7421_5 : decode cJx00060_init_a7421 5 = .ok (.return_, 1) := by decide +kernel
theorem dJ6_bitCount_0f7a4_0 : decode cJ6_bitCount_0f7a4 0 = .ok (.iload_n 0, 1) := by decide +kernel
theorem dJ6_bitCount_0f7a4_1 : decode cJ6_bitCount_0f7a4 1 = .ok (.iload_n 0, 1) := by decide +kernel
theorem dJ6_bitCount_0f7a4_2 : decode cJ6_bitCount_0f7a4 2 = .ok (.iconst 1, 1) := by decide +kernel
theorem dJ6_bitCount_0f7a4_3 : decode cJ6_bitCount_0f7a4 3 = .ok (.iushr, 1) := by decide +kernel
theorem dJ6_bitCount_0f7a4_4 : decode cJ6_bitCount_0f7a4 4 = .ok (.ldc_w 265, 3) := by decide +kernel
theorem dJ6_bitCount_0f7a4_7 : decode cJ6_bitCount_0f7a4 7 = .ok (.iand, 1) := by decide +kernel
theorem dJ6_bitCount_0f7a4_8 : decode cJ6_bitCount_0f7a4 8 = .ok (.isub, 1) := by decide +kernel
theorem dJ6_bitCount_0f7a4_9 : decode cJ6_bitCount_0f7a4 9 = .ok (.istore_n 0, 1) := by decide +kernel
theorem dJ6_bitCount_0f7a4_10 : decode cJ6_bitCount_0f7a4 10 = .ok (.iload_n 0, 1) := by decide +kernel
theorem dJ6_bitCount_0f7a4_11 : decode cJ6_bitCount_0f7a4 11 = .ok (.ldc_w 266, 3) := by decide +kernel
theorem dJ6_bitCount_0f7a4_14 : decode cJ6_bitCount_0f7a4 14 = .ok (.iand, 1) := by decide +kernel
theorem dJ6_bitCount_0f7a4_15 : decode cJ6_bitCount_0f7a4 15 = .ok (.iload_n 0, 1) := by decide +kernel
theorem dJ6_bitCount_0f7a4_16 : decode cJ6_bitCount_0f7a4 16 = .ok (.iconst 2, 1) := by decide +kernel
theorem dJ6_bitCount_0f7a4_17 : decode cJ6_bitCount_0f7a4 17 = .ok (.iushr, 1) := by decide +kernel
theorem dJ6_bitCount_0f7a4_18 : decode cJ6_bitCount_0f7a4 18 = .ok (.ldc_w 266, 3) := by decide +kernel
theorem dJ6_bitCount_0f7a4_21 : decode cJ6_bitCount_0f7a4 21 = .ok (.iand, 1) := by decide +kernel
theorem dJ6_bitCount_0f7a4_22 : decode cJ6_bitCount_0f7a4 22 = .ok (.iadd, 1) := by decide +kernel
theorem dJ6_bitCount_0f7a4_23 : decode cJ6_bitCount_0f7a4 23 = .ok (.istore_n 0, 1) := by decide +kernel
theorem dJ6_bitCount_0f7a4_24 : decode cJ6_bitCount_0f7a4 24 = .ok (.iload_n 0, 1) := by decide +kernel
theorem dJ6_bitCount_0f7a4_25 : decode cJ6_bitCount_0f7a4 25 = .ok (.iload_n 0, 1) := by decide +kernel
theorem dJ6_bitCount_0f7a4_26 : decode cJ6_bitCount_0f7a4 26 = .ok (.iconst 4, 1) := by decide +kernel
theorem dJ6_bitCount_0f7a4_27 : decode cJ6_bitCount_0f7a4 27 = .ok (.iushr, 1) := by decide +kernel
theorem dJ6_bitCount_0f7a4_28 : decode cJ6_bitCount_0f7a4 28 = .ok (.iadd, 1) := by decide +kernel
theorem dJ6_bitCount_0f7a4_29 : decode cJ6_bitCount_0f7a4 29 = .ok (.ldc_w 267, 3) := by decide +kernel
theorem dJ6_bitCount_0f7a4_32 : decode cJ6_bitCount_0f7a4 32 = .ok (.iand, 1) := by decide +kernel
theorem dJ6_bitCount_0f7a4_33 : decode cJ6_bitCount_0f7a4 33 = .ok (.istore_n 0, 1) := by decide +kernel
theorem dJ6_bitCount_0f7a4_34 : decode cJ6_bitCount_0f7a4 34 = .ok (.iload_n 0, 1) := by decide +kernel
theorem dJ6_bitCount_0f7a4_35 : decode cJ6_bitCount_0f7a4 35 = .ok (.iload_n 0, 1) := by decide +kernel
theorem dJ6_bitCount_0f7a4_36 : decode cJ6_bitCount_0f7a4 36 = .ok (.bipush 8, 2) := by decide +kernel
theorem dJ6_bitCount_0f7a4_38 : decode cJ6_bitCount_0f7a4 38 = .ok (.iushr, 1) := by decide +kernel
theorem dJ6_bitCount_0f7a4_39 : decode cJ6_bitCount_0f7a4 39 = .ok (.iadd, 1) := by decide +kernel
theorem dJ6_bitCount_0f7a4_40 : decode cJ6_bitCount_0f7a4 40 = .ok (.istore_n 0, 1) := by decide +kernel
theorem dJ6_bitCount_0f7a4_41 : decode cJ6_bitCount_0f7a4 41 = .ok (.iload_n 0, 1) := by decide +kernel
theorem dJ6_bitCount_0f7a4_42 : decode cJ6_bitCount_0f7a4 42 = .ok (.iload_n 0, 1) := by decide +kernel
theorem dJ6_bitCount_0f7a4_43 : decode cJ6_bitCount_0f7a4 43 = .ok (.bipush 16, 2) := by decide +kernel
theorem dJ6_bitCount_0f7a4_45 : decode cJ6_bitCount_0f7a4 45 = .ok (.iushr, 1) := by decide +kernel
theorem dJ6_bitCount_0f7a4_46 : decode cJ6_bitCount_0f7a4 46 = .ok (.iadd, 1) := by decide +kernel
theorem dJ6_bitCount_0f7a4_47 : decode cJ6_bitCount_0f7a4 47 = .ok (.istore_n 0, 1) := by decide +kernel
theorem dJ6_bitCount_0f7a4_48 : decode cJ6_bitCount_0f7a4 48 = .ok (.iload_n 0, 1) := by decide +kernel
theorem dJ6_bitCount_0f7a4_49 : decode cJ6_bitCount_0f7a4 49 = .ok (.bipush 63, 2) := by decide +kernel
theorem dJ6_bitCount_0f7a4_51 : decode cJ6_bitCount_0f7a4 51 = .ok (.iand, 1) := by decide +kernel
theorem dJ6_bitCount_0f7a4_52 : decode cJ6_bitCount_0f7a4 52 = .ok (.ireturn, 1) := by decide +kernel
theorem dJ13_bitCount_95d88_0 : decode cJ13_bitCount_95d88 0 = .ok (.lload_n 0, 1) := by decide +kernel
theorem dJ13_bitCount_95d88_1 : decode cJ13_bitCount_95d88 1 = .ok (.lload_n 0, 1) := by decide +kernel
theorem dJ13_bitCount_95d88_2 : decode cJ13_bitCount_95d88 2 = .ok (.iconst 1, 1) := by decide +kernel
theorem dJ13_bitCount_95d88_3 : decode cJ13_bitCount_95d88 3 = .ok (.lushr, 1) := by decide +kernel
theorem dJ13_bitCount_95d88_4 : decode cJ13_bitCount_95d88 4 = .ok (.ldc2_w 314, 3) := by decide +kernel
theorem dJ13_bitCount_95d88_7 : decode cJ13_bitCount_95d88 7 = .ok (.land, 1) := by decide +kernel
theorem dJ13_bitCount_95d88_8 : decode cJ13_bitCount_95d88 8 = .ok (.lsub, 1) := by decide +kernel
theorem dJ13_bitCount_95d88_9 : decode cJ13_bitCount_95d88 9 = .ok (.lstore_n 0, 1) := by decide +kernel
theorem dJ13_bitCount_95d88_10 : decode cJ13_bitCount_95d88 10 = .ok (.lload_n 0, 1) := by decide +kernel
theorem dJ13_bitCount_95d88_11 : decode cJ13_bitCount_95d88 11 = .ok (.ldc2_w 316, 3) := by decide +kernel
theorem dJ13_bitCount_95d88_14 : decode cJ13_bitCount_95d88 14 = .ok (.land, 1) := by decide +kernel
theorem dJ13_bitCount_95d88_15 : decode cJ13_bitCount_95d88 15 = .ok (.lload_n 0, 1) := by decide +kernel
theorem dJ13_bitCount_95d88_16 : decode cJ13_bitCount_95d88 16 = .ok (.iconst 2, 1) := by decide +kernel
theorem dJ13_bitCount_95d88_17 : decode cJ13_bitCount_95d88 17 = .ok (.lushr, 1) := by decide +kernel
theorem dJ13_bitCount_95d88_18 : decode cJ13_bitCount_95d88 18 = .ok (.ldc2_w 316, 3) := by decide +kernel
theorem dJ13_bitCount_95d88_21 : decode cJ13_bitCount_95d88 21 = .ok (.land, 1) := by decide +kernel
theorem dJ13_bitCount_95d88_22 : decode cJ13_bitCount_95d88 22 = .ok (.ladd, 1) := by decide +kernel
theorem dJ13_bitCount_95d88_23 : decode cJ13_bitCount_95d88 23 = .ok (.lstore_n 0, 1) := by decide +kernel
theorem dJ13_bitCount_95d88_24 : decode cJ13_bitCount_95d88 24 = .ok (.lload_n 0, 1) := by decide +kernel
theorem dJ13_bitCount_95d88_25 : decode cJ13_bitCount_95d88 25 = .ok (.lload_n 0, 1) := by decide +kernel
theorem dJ13_bitCount_95d88_26 : decode cJ13_bitCount_95d88 26 = .ok (.iconst 4, 1) := by decide +kernel
theorem dJ13_bitCount_95d88_27 : decode cJ13_bitCount_95d88 27 = .ok (.lushr, 1) := by decide +kernel
theorem dJ13_bitCount_95d88_28 : decode cJ13_bitCount_95d88 28 = .ok (.ladd, 1) := by decide +kernel
theorem dJ13_bitCount_95d88_29 : decode cJ13_bitCount_95d88 29 = .ok (.ldc2_w 318, 3) := by decide +kernel
theorem dJ13_bitCount_95d88_32 : decode cJ13_bitCount_95d88 32 = .ok (.land, 1) := by decide +kernel
theorem dJ13_bitCount_95d88_33 : decode cJ13_bitCount_95d88 33 = .ok (.lstore_n 0, 1) := by decide +kernel
theorem dJ13_bitCount_95d88_34 : decode cJ13_bitCount_95d88 34 = .ok (.lload_n 0, 1) := by decide +kernel
theorem dJ13_bitCount_95d88_35 : decode cJ13_bitCount_95d88 35 = .ok (.lload_n 0, 1) := by decide +kernel
theorem dJ13_bitCount_95d88_36 : decode cJ13_bitCount_95d88 36 = .ok (.bipush 8, 2) := by decide +kernel
theorem dJ13_bitCount_95d88_38 : decode cJ13_bitCount_95d88 38 = .ok (.lushr, 1) := by decide +kernel
theorem dJ13_bitCount_95d88_39 : decode cJ13_bitCount_95d88 39 = .ok (.ladd, 1) := by decide +kernel
theorem dJ13_bitCount_95d88_40 : decode cJ13_bitCount_95d88 40 = .ok (.lstore_n 0, 1) := by decide +kernel
theorem dJ13_bitCount_95d88_41 : decode cJ13_bitCount_95d88 41 = .ok (.lload_n 0, 1) := by decide +kernel
theorem dJ13_bitCount_95d88_42 : decode cJ13_bitCount_95d88 42 = .ok (.lload_n 0, 1) := by decide +kernel
theorem dJ13_bitCount_95d88_43 : decode cJ13_bitCount_95d88 43 = .ok (.bipush 16, 2) := by decide +kernel
theorem dJ13_bitCount_95d88_45 : decode cJ13_bitCount_95d88 45 = .ok (.lushr, 1) := by decide +kernel
