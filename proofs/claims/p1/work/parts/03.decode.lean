theorem dX0_init_0 : decode cX0_init 0 = .ok (.aload_n 0, 1) := by decide +kernel
theorem dX0_init_1 : decode cX0_init 1 = .ok (.invokespecial 3, 3) := by decide +kernel
theorem dX0_init_4 : decode cX0_init 4 = .ok (.aload_n 0, 1) := by decide +kernel
theorem dX0_init_5 : decode cX0_init 5 = .ok (.bipush 40, 2) := by decide +kernel
theorem dX0_init_7 : decode cX0_init 7 = .ok (.newarray .int, 2) := by decide +kernel
theorem dX0_init_9 : decode cX0_init 9 = .ok (.putfield 9, 3) := by decide +kernel
theorem dX0_init_12 : decode cX0_init 12 = .ok (.aload_n 0, 1) := by decide +kernel
theorem dX0_init_13 : decode cX0_init 13 = .ok (.bipush 40, 2) := by decide +kernel
theorem dX0_init_15 : decode cX0_init 15 = .ok (.newarray .int, 2) := by decide +kernel
theorem dX0_init_17 : decode cX0_init 17 = .ok (.putfield 15, 3) := by decide +kernel
theorem dX0_init_20 : decode cX0_init 20 = .ok (.aload_n 0, 1) := by decide +kernel
theorem dX0_init_21 : decode cX0_init 21 = .ok (.bipush 40, 2) := by decide +kernel
theorem dX0_init_23 : decode cX0_init 23 = .ok (.bipush 40, 2) := by decide +kernel
theorem dX0_init_25 : decode cX0_init 25 = .ok (.multianewarray 18 2, 4) := by decide +kernel
theorem dX0_init_29 : decode cX0_init 29 = .ok (.putfield 20, 3) := by decide +kernel
theorem dX0_init_32 : decode cX0_init 32 = .ok (.aload_n 0, 1) := by decide +kernel
theorem dX0_init_33 : decode cX0_init 33 = .ok (.bipush 40, 2) := by decide +kernel
theorem dX0_init_35 : decode cX0_init 35 = .ok (.newarray .int, 2) := by decide +kernel
theorem dX0_init_37 : decode cX0_init 37 = .ok (.putfield 23, 3) := by decide +kernel
theorem dX0_init_40 : decode cX0_init 40 = .ok (.aload_n 0, 1) := by decide +kernel
theorem dX0_init_41 : decode cX0_init 41 = .ok (.bipush 40, 2) := by decide +kernel
theorem dX0_init_43 : decode cX0_init 43 = .ok (.newarray .boolean, 2) := by decide +kernel
theorem dX0_init_45 : decode cX0_init 45 = .ok (.putfield 26, 3) := by decide +kernel
theorem dX0_init_48 : decode cX0_init 48 = .ok (.aload_n 0, 1) := by decide +kernel
theorem dX0_init_49 : decode cX0_init 49 = .ok (.bipush 40, 2) := by decide +kernel
theorem dX0_init_51 : decode cX0_init 51 = .ok (.newarray .boolean, 2) := by decide +kernel
theorem dX0_init_53 : decode cX0_init 53 = .ok (.putfield 30, 3) := by decide +kernel
theorem dX0_init_56 : decode cX0_init 56 = .ok (.aload_n 0, 1) := by decide +kernel
theorem dX0_init_57 : decode cX0_init 57 = .ok (.bipush 24, 2) := by decide +kernel
theorem dX0_init_59 : decode cX0_init 59 = .ok (.newarray .int, 2) := by decide +kernel
theorem dX0_init_61 : decode cX0_init 61 = .ok (.putfield 33, 3) := by decide +kernel
theorem dX0_init_64 : decode cX0_init 64 = .ok (.aload_n 0, 1) := by decide +kernel
theorem dX0_init_65 : decode cX0_init 65 = .ok (.bipush 24, 2) := by decide +kernel
theorem dX0_init_67 : decode cX0_init 67 = .ok (.newarray .int, 2) := by decide +kernel
theorem dX0_init_69 : decode cX0_init 69 = .ok (.putfield 36, 3) := by decide +kernel
theorem dX0_init_72 : decode cX0_init 72 = .ok (.aload_n 0, 1) := by decide +kernel
theorem dX0_init_73 : decode cX0_init 73 = .ok (.bipush 24, 2) := by decide +kernel
theorem dX0_init_75 : decode cX0_init 75 = .ok (.newarray .int, 2) := by decide +kernel
theorem dX0_init_77 : decode cX0_init 77 = .ok (.putfield 39, 3) := by decide +kernel
theorem dX0_init_80 : decode cX0_init 80 = .ok (.aload_n 0, 1) := by decide +kernel
theorem dX0_init_81 : decode cX0_init 81 = .ok (.aload_n 1, 1) := by decide +kernel
theorem dX0_init_82 : decode cX0_init 82 = .ok (.putfield 42, 3) := by decide +kernel
theorem dX0_init_85 : decode cX0_init 85 = .ok (.aload_n 0, 1) := by decide +kernel
theorem dX0_init_86 : decode cX0_init 86 = .ok (.aload_n 2, 1) := by decide +kernel
theorem dX0_init_87 : decode cX0_init 87 = .ok (.putfield 46, 3) := by decide +kernel
theorem dX0_init_90 : decode cX0_init 90 = .ok (.return_, 1) := by decide +kernel
set_option maxRecDepth 20000 in
theorem ggX0_settle_X0_findHeiresses : GoodIn wsX0_settle wsX0_findHeiresses := goodIn_ca (goodIn_r _ [11, 12, 13, 14, 3, 4, 1, 15, 16, 17, 10, 18, 6, 19, 20, 21, 22, 23, 24, 25, 26, 27, 28, 29, 30, 31, 32, 33, 34, 35, 36, 37, 38, 39, 40, 41, 42, 43, 44, 45, 46, 47, 48, 49, 50, 51, 52, 53, 54, 55, 56, 57, 58, 59, 60, 61, 62, 63, 64, 65, 66, 67, 68, 69, 70, 71, 72, 73, 74, 75, 76, 77, 78, 79, 123, 124, 125, 126, 127, 128, 129, 130, 131, 132, 133, 146, 147, 148, 149, 150, 151, 152, 153, 154, 134, 135, 136, 137, 138, 139, 140, 141, 142, 143, 144, 145] (by decide +kernel) (by decide +kernel)) (goodIn_sub (fun _ h => List.mem_cons_of_mem _ (List.mem_append_right _ h)) (by decide +kernel))
set_option maxRecDepth 20000 in
theorem gX0_settle_X0_findHeiresses : GoodIn wsX0_settle (wsV RX0 56 RX0 yX0_findHeiresses wsX0_findHeiresses) := goodIn_app (goodIn_of _ (by decide +kernel)) ggX0_settle_X0_findHeiresses
set_option maxRecDepth 20000 in
theorem ggX0_settle_X5_isAlive : GoodIn wsX0_settle wsX5_isAlive := goodIn_ca (goodIn_r _ [49, 50, 41, 42, 43, 38, 44, 45, 146, 147, 148, 149, 150, 151, 152, 153, 154] (by decide +kernel) (by decide +kernel)) (goodIn_sub (fun _ h => List.mem_cons_of_mem _ (List.mem_append_right _ h)) (by decide +kernel))
set_option maxRecDepth 20000 in
theorem gX0_settle_X5_isAlive : GoodIn wsX0_settle (wsV RX0 63 RX5 yX5_isAlive wsX5_isAlive) := goodIn_app (goodIn_of _ (by decide +kernel)) ggX0_settle_X5_isAlive
set_option maxRecDepth 20000 in
theorem ggX0_settle_X0_bear : GoodIn wsX0_settle wsX0_bear := goodIn_ca (goodIn_r _ [83, 3, 65, 5, 1, 84, 85, 86, 87, 88, 89, 90, 91, 92, 66, 42, 43, 38, 44, 45, 93, 94, 95, 22, 96, 29, 34, 97, 20, 21, 23, 24, 25, 26, 27, 28, 98, 99, 100, 10, 101, 2, 14, 102, 103, 104, 105, 40, 60, 50, 55, 41, 106, 107, 108, 109, 35, 36, 37, 39, 110, 111, 112, 113, 114, 115, 116, 117, 118, 119, 120, 121, 122, 123, 124, 125, 126, 127, 128, 129, 130, 131, 132, 133, 146, 147, 148, 149, 150, 151, 152, 153, 154, 134, 135, 136, 137, 138, 139, 140, 141, 142, 143, 144, 145] (by decide +kernel) (by decide +kernel)) (goodIn_sub (fun _ h => List.mem_cons_of_mem _ (List.mem_append_right _ h)) (by decide +kernel))
set_option maxRecDepth 20000 in
theorem gX0_settle_X0_bear : GoodIn wsX0_settle (wsV RX0 67 RX0 yX0_bear wsX0_bear) := goodIn_app (goodIn_of _ (by decide +kernel)) ggX0_settle_X0_bear
set_option maxRecDepth 20000 in
theorem ggX0_settle_X9_isVoid : GoodIn wsX0_settle wsX9_isVoid := goodIn_ca (goodIn_r _ [33, 34, 25, 26, 27, 22, 28, 29, 134, 135, 136, 137, 138, 139, 140, 141, 142, 143, 144, 145] (by decide +kernel) (by decide +kernel)) (goodIn_sub (fun _ h => List.mem_cons_of_mem _ (List.mem_append_right _ h)) (by decide +kernel))
set_option maxRecDepth 20000 in
theorem gX0_settle_X9_isVoid : GoodIn wsX0_settle (wsV RX0 70 RX9 yX9_isVoid wsX9_isVoid) := goodIn_app (goodIn_of _ (by decide +kernel)) ggX0_settle_X9_isVoid
theorem dX0_settle_0 : decode cX0_settle 0 = .ok (.iconst 0, 1) := by decide +kernel
theorem dX0_settle_1 : decode cX0_settle 1 = .ok (.istore_n 1, 1) := by decide +kernel
theorem dX0_settle_2 : decode cX0_settle 2 = .ok (.iload_n 1, 1) := by decide +kernel
theorem dX0_settle_3 : decode cX0_settle 3 = .ok (.aload_n 0, 1) := by decide +kernel
theorem dX0_settle_4 : decode cX0_settle 4 = .ok (.getfield 46, 3) := by decide +kernel
theorem dX0_settle_7 : decode cX0_settle 7 = .ok (.getfield 50, 3) := by decide +kernel
theorem dX0_settle_10 : decode cX0_settle 10 = .ok (.if_icmp .ge 20, 3) := by decide +kernel
theorem dX0_settle_13 : decode cX0_settle 13 = .ok (.iload_n 1, 1) := by decide +kernel
theorem dX0_settle_14 : decode cX0_settle 14 = .ok (.bipush 24, 2) := by decide +kernel
theorem dX0_settle_16 : decode cX0_settle 16 = .ok (.if_icmp .ge 14, 3) := by decide +kernel
theorem dX0_settle_19 : decode cX0_settle 19 = .ok (.aload_n 0, 1) := by decide +kernel
theorem dX0_settle_20 : decode cX0_settle 20 = .ok (.iload_n 1, 1) := by decide +kernel
theorem dX0_settle_21 : decode cX0_settle 21 = .ok (.invokevirtual 56, 3) := by decide +kernel
theorem dX0_settle_24 : decode cX0_settle 24 = .ok (.iinc 1 1, 3) := by decide +kernel
theorem dX0_settle_27 : decode cX0_settle 27 = .ok (.goto (-25), 3) := by decide +kernel
theorem dX0_settle_30 : decode cX0_settle 30 = .ok (.iconst 0, 1) := by decide +kernel
theorem dX0_settle_31 : decode cX0_settle 31 = .ok (.istore_n 1, 1) := by decide +kernel
theorem dX0_settle_32 : decode cX0_settle 32 = .ok (.iload_n 1, 1) := by decide +kernel
theorem dX0_settle_33 : decode cX0_settle 33 = .ok (.aload_n 0, 1) := by decide +kernel
theorem dX0_settle_34 : decode cX0_settle 34 = .ok (.getfield 42, 3) := by decide +kernel
theorem dX0_settle_37 : decode cX0_settle 37 = .ok (.getfield 60, 3) := by decide +kernel
theorem dX0_settle_40 : decode cX0_settle 40 = .ok (.if_icmp .ge 75, 3) := by decide +kernel
theorem dX0_settle_43 : decode cX0_settle 43 = .ok (.iload_n 1, 1) := by decide +kernel
theorem dX0_settle_44 : decode cX0_settle 44 = .ok (.bipush 40, 2) := by decide +kernel
theorem dX0_settle_46 : decode cX0_settle 46 = .ok (.if_icmp .ge 69, 3) := by decide +kernel
theorem dX0_settle_49 : decode cX0_settle 49 = .ok (.aload_n 0, 1) := by decide +kernel
theorem dX0_settle_50 : decode cX0_settle 50 = .ok (.getfield 42, 3) := by decide +kernel
theorem dX0_settle_53 : decode cX0_settle 53 = .ok (.iload_n 1, 1) := by decide +kernel
theorem dX0_settle_54 : decode cX0_settle 54 = .ok (.invokevirtual 63, 3) := by decide +kernel
theorem dX0_settle_57 : decode cX0_settle 57 = .ok (.ifCond .eq 11, 3) := by decide +kernel
theorem dX0_settle_60 : decode cX0_settle 60 = .ok (.aload_n 0, 1) := by decide +kernel
theorem dX0_settle_61 : decode cX0_settle 61 = .ok (.iload_n 1, 1) := by decide +kernel
theorem dX0_settle_62 : decode cX0_settle 62 = .ok (.invokevirtual 67, 3) := by decide +kernel
theorem dX0_settle_65 : decode cX0_settle 65 = .ok (.goto 44, 3) := by decide +kernel
theorem dX0_settle_68 : decode cX0_settle 68 = .ok (.aload_n 0, 1) := by decide +kernel
theorem dX0_settle_69 : decode cX0_settle 69 = .ok (.getfield 9, 3) := by decide +kernel
theorem dX0_settle_72 : decode cX0_settle 72 = .ok (.iload_n 1, 1) := by decide +kernel
theorem dX0_settle_73 : decode cX0_settle 73 = .ok (.aload_n 0, 1) := by decide +kernel
theorem dX0_settle_74 : decode cX0_settle 74 = .ok (.getfield 15, 3) := by decide +kernel
theorem dX0_settle_77 : decode cX0_settle 77 = .ok (.iload_n 1, 1) := by decide +kernel
theorem dX0_settle_78 : decode cX0_settle 78 = .ok (.iaload, 1) := by decide +kernel
theorem dX0_settle_79 : decode cX0_settle 79 = .ok (.ifCond .lt 28, 3) := by decide +kernel
theorem dX0_settle_82 : decode cX0_settle 82 = .ok (.aload_n 0, 1) := by decide +kernel
theorem dX0_settle_83 : decode cX0_settle 83 = .ok (.getfield 46, 3) := by decide +kernel
theorem dX0_settle_86 : decode cX0_settle 86 = .ok (.aload_n 0, 1) := by decide +kernel
theorem dX0_settle_87 : decode cX0_settle 87 = .ok (.getfield 15, 3) := by decide +kernel
theorem dX0_settle_90 : decode cX0_settle 90 = .ok (.iload_n 1, 1) := by decide +kernel
theorem dX0_settle_91 : decode cX0_settle 91 = .ok (.iaload, 1) := by decide +kernel
theorem dX0_settle_92 : decode cX0_settle 92 = .ok (.invokevirtual 70, 3) := by decide +kernel
theorem dX0_settle_95 : decode cX0_settle 95 = .ok (.ifCond .ne 12, 3) := by decide +kernel
theorem dX0_settle_98 : decode cX0_settle 98 = .ok (.aload_n 0, 1) := by decide +kernel
theorem dX0_settle_99 : decode cX0_settle 99 = .ok (.getfield 15, 3) := by decide +kernel
theorem dX0_settle_102 : decode cX0_settle 102 = .ok (.iload_n 1, 1) := by decide +kernel
theorem dX0_settle_103 : decode cX0_settle 103 = .ok (.iaload, 1) := by decide +kernel
theorem dX0_settle_104 : decode cX0_settle 104 = .ok (.goto 4, 3) := by decide +kernel
theorem dX0_settle_107 : decode cX0_settle 107 = .ok (.iconst (-1), 1) := by decide +kernel
theorem dX0_settle_108 : decode cX0_settle 108 = .ok (.iastore, 1) := by decide +kernel
theorem dX0_settle_109 : decode cX0_settle 109 = .ok (.iinc 1 1, 3) := by decide +kernel
theorem dX0_settle_112 : decode cX0_settle 112 = .ok (.goto (-80), 3) := by decide +kernel
theorem dX0_settle_115 : decode cX0_settle 115 = .ok (.return_, 1) := by decide +kernel
set_option maxRecDepth 20000 in
theorem ggX0_bear_X5_has : GoodIn wsX0_bear wsX5_has := goodIn_r _ [18, 19, 84, 85, 86, 87, 88, 89, 90, 91, 92] (by decide +kernel) (by decide +kernel)
set_option maxRecDepth 20000 in
theorem gX0_bear_X5_has : GoodIn wsX0_bear (wsV RX0 73 RX5 yX5_has wsX5_has) := goodIn_app (goodIn_of _ (by decide +kernel)) ggX0_bear_X5_has
set_option maxRecDepth 20000 in
theorem ggX0_bear_X9_latestOf : GoodIn wsX0_bear wsX9_latestOf := goodIn_ca (goodIn_r _ [24, 25, 26, 27, 28, 29, 23, 30, 31, 32, 33, 34, 35, 93, 94, 95, 96, 97, 98, 99, 100, 101, 102, 103, 104] (by decide +kernel) (by decide +kernel)) (goodIn_sub (fun _ h => List.mem_cons_of_mem _ (List.mem_append_right _ h)) (by decide +kernel))
set_option maxRecDepth 20000 in
theorem gX0_bear_X9_latestOf : GoodIn wsX0_bear (wsV RX0 76 RX9 yX9_latestOf wsX9_latestOf) := goodIn_app (goodIn_of _ (by decide +kernel)) ggX0_bear_X9_latestOf
set_option maxRecDepth 20000 in
theorem ggX0_bear_X0_fallenTo : GoodIn wsX0_bear wsX0_fallenTo := goodIn_ca (goodIn_r _ [40, 4, 41, 42, 1, 43, 44, 45, 17, 46, 47, 48, 49, 50, 51, 15, 16, 18, 19, 73, 74, 75, 76, 77, 78, 79, 80, 81, 82, 83, 93, 94, 95, 96, 97, 98, 99, 100, 101, 102, 103, 104, 84, 85, 86, 87, 88, 89, 90, 91, 92] (by decide +kernel) (by decide +kernel)) (goodIn_sub (fun _ h => List.mem_cons_of_mem _ (List.mem_append_right _ h)) (by decide +kernel))
set_option maxRecDepth 20000 in
theorem gX0_bear_X0_fallenTo : GoodIn wsX0_bear (wsV RX0 80 RX0 yX0_fallenTo wsX0_fallenTo) := goodIn_app (goodIn_of _ (by decide +kernel)) ggX0_bear_X0_fallenTo
set_option maxRecDepth 20000 in
theorem ggX0_bear_X5_fatherOf : GoodIn wsX0_bear wsX5_fatherOf := goodIn_ca (goodIn_r _ [55, 48, 51, 15, 16, 17, 18, 19, 84, 85, 86, 87, 88, 89, 90, 91, 92] (by decide +kernel) (by decide +kernel)) (goodIn_sub (fun _ h => List.mem_cons_of_mem _ (List.mem_append_right _ h)) (by decide +kernel))
set_option maxRecDepth 20000 in
theorem gX0_bear_X5_fatherOf : GoodIn wsX0_bear (wsV RX0 83 RX5 yX5_fatherOf wsX5_fatherOf) := goodIn_app (goodIn_of _ (by decide +kernel)) ggX0_bear_X5_fatherOf
set_option maxRecDepth 20000 in
theorem ggX0_bear_X5_isMan : GoodIn wsX0_bear wsX5_isMan := goodIn_ca (goodIn_r _ [59, 47, 51, 15, 16, 17, 18, 19, 84, 85, 86, 87, 88, 89, 90, 91, 92] (by decide +kernel) (by decide +kernel)) (goodIn_sub (fun _ h => List.mem_cons_of_mem _ (List.mem_append_right _ h)) (by decide +kernel))
set_option maxRecDepth 20000 in
theorem gX0_bear_X5_isMan : GoodIn wsX0_bear (wsV RX0 98 RX5 yX5_isMan wsX5_isMan) := goodIn_app (goodIn_of _ (by decide +kernel)) ggX0_bear_X5_isMan
set_option maxRecDepth 20000 in
theorem ggX0_bear_X5_isHeir : GoodIn wsX0_bear wsX5_isHeir := goodIn_ca (goodIn_r _ [63, 47, 49, 48, 50, 51, 15, 16, 17, 18, 19, 64, 65, 66, 67, 84, 85, 86, 87, 88, 89, 90, 91, 92] (by decide +kernel) (by decide +kernel)) (goodIn_sub (fun _ h => List.mem_cons_of_mem _ (List.mem_append_right _ h)) (by decide +kernel))
set_option maxRecDepth 20000 in
theorem gX0_bear_X5_isHeir : GoodIn wsX0_bear (wsV RX0 101 RX5 yX5_isHeir wsX5_isHeir) := goodIn_app (goodIn_of _ (by decide +kernel)) ggX0_bear_X5_isHeir
set_option maxRecDepth 20000 in
theorem ggX0_bear_X5_sonRank : GoodIn wsX0_bear wsX5_sonRank := goodIn_ca (goodIn_r _ [71, 72, 53, 54, 17, 55, 48, 51, 15, 16, 18, 19, 64, 65, 66, 67, 47, 84, 85, 86, 87, 88, 89, 90, 91, 92] (by decide +kernel) (by decide +kernel)) (goodIn_sub (fun _ h => List.mem_cons_of_mem _ (List.mem_append_right _ h)) (by decide +kernel))
set_option maxRecDepth 20000 in
theorem gX0_bear_X5_sonRank : GoodIn wsX0_bear (wsV RX0 104 RX5 yX5_sonRank wsX5_sonRank) := goodIn_app (goodIn_of _ (by decide +kernel)) ggX0_bear_X5_sonRank
theorem dX0_bear_0 : decode cX0_bear 0 = .ok (.aload_n 0, 1) := by decide +kernel
theorem dX0_bear_1 : decode cX0_bear 1 = .ok (.getfield 42, 3) := by decide +kernel
theorem dX0_bear_4 : decode cX0_bear 4 = .ok (.iload_n 1, 1) := by decide +kernel
theorem dX0_bear_5 : decode cX0_bear 5 = .ok (.invokevirtual 73, 3) := by decide +kernel
theorem dX0_bear_8 : decode cX0_bear 8 = .ok (.ifCond .ne 4, 3) := by decide +kernel
theorem dX0_bear_11 : decode cX0_bear 11 = .ok (.return_, 1) := by decide +kernel
theorem dX0_bear_12 : decode cX0_bear 12 = .ok (.aload_n 0, 1) := by decide +kernel
theorem dX0_bear_13 : decode cX0_bear 13 = .ok (.getfield 23, 3) := by decide +kernel
theorem dX0_bear_16 : decode cX0_bear 16 = .ok (.iload_n 1, 1) := by decide +kernel
theorem dX0_bear_17 : decode cX0_bear 17 = .ok (.iconst 0, 1) := by decide +kernel
theorem dX0_bear_18 : decode cX0_bear 18 = .ok (.iastore, 1) := by decide +kernel
theorem dX0_bear_19 : decode cX0_bear 19 = .ok (.aload_n 0, 1) := by decide +kernel
theorem dX0_bear_20 : decode cX0_bear 20 = .ok (.getfield 9, 3) := by decide +kernel
theorem dX0_bear_23 : decode cX0_bear 23 = .ok (.iload_n 1, 1) := by decide +kernel
theorem dX0_bear_24 : decode cX0_bear 24 = .ok (.aload_n 0, 1) := by decide +kernel
theorem dX0_bear_25 : decode cX0_bear 25 = .ok (.getfield 46, 3) := by decide +kernel
theorem dX0_bear_28 : decode cX0_bear 28 = .ok (.iload_n 1, 1) := by decide +kernel
theorem dX0_bear_29 : decode cX0_bear 29 = .ok (.invokevirtual 76, 3) := by decide +kernel
theorem dX0_bear_32 : decode cX0_bear 32 = .ok (.iastore, 1) := by decide +kernel
theorem dX0_bear_33 : decode cX0_bear 33 = .ok (.aload_n 0, 1) := by decide +kernel
theorem dX0_bear_34 : decode cX0_bear 34 = .ok (.getfield 9, 3) := by decide +kernel
theorem dX0_bear_37 : decode cX0_bear 37 = .ok (.iload_n 1, 1) := by decide +kernel
theorem dX0_bear_38 : decode cX0_bear 38 = .ok (.iaload, 1) := by decide +kernel
theorem dX0_bear_39 : decode cX0_bear 39 = .ok (.ifCond .ge 14, 3) := by decide +kernel
theorem dX0_bear_42 : decode cX0_bear 42 = .ok (.aload_n 0, 1) := by decide +kernel
theorem dX0_bear_43 : decode cX0_bear 43 = .ok (.getfield 9, 3) := by decide +kernel
theorem dX0_bear_46 : decode cX0_bear 46 = .ok (.iload_n 1, 1) := by decide +kernel
theorem dX0_bear_47 : decode cX0_bear 47 = .ok (.aload_n 0, 1) := by decide +kernel
theorem dX0_bear_48 : decode cX0_bear 48 = .ok (.iload_n 1, 1) := by decide +kernel
theorem dX0_bear_49 : decode cX0_bear 49 = .ok (.invokevirtual 80, 3) := by decide +kernel
theorem dX0_bear_52 : decode cX0_bear 52 = .ok (.iastore, 1) := by decide +kernel
theorem dX0_bear_53 : decode cX0_bear 53 = .ok (.aload_n 0, 1) := by decide +kernel
theorem dX0_bear_54 : decode cX0_bear 54 = .ok (.getfield 42, 3) := by decide +kernel
theorem dX0_bear_57 : decode cX0_bear 57 = .ok (.iload_n 1, 1) := by decide +kernel
theorem dX0_bear_58 : decode cX0_bear 58 = .ok (.invokevirtual 83, 3) := by decide +kernel
theorem dX0_bear_61 : decode cX0_bear 61 = .ok (.istore_n 2, 1) := by decide +kernel
theorem dX0_bear_62 : decode cX0_bear 62 = .ok (.aload_n 0, 1) := by decide +kernel
theorem dX0_bear_63 : decode cX0_bear 63 = .ok (.getfield 9, 3) := by decide +kernel
theorem dX0_bear_66 : decode cX0_bear 66 = .ok (.iload_n 1, 1) := by decide +kernel
theorem dX0_bear_67 : decode cX0_bear 67 = .ok (.iaload, 1) := by decide +kernel
theorem dX0_bear_68 : decode cX0_bear 68 = .ok (.ifCond .ge 23, 3) := by decide +kernel
theorem dX0_bear_71 : decode cX0_bear 71 = .ok (.aload_n 0, 1) := by decide +kernel
theorem dX0_bear_72 : decode cX0_bear 72 = .ok (.getfield 42, 3) := by decide +kernel
theorem dX0_bear_75 : decode cX0_bear 75 = .ok (.iload_n 2, 1) := by decide +kernel
theorem dX0_bear_76 : decode cX0_bear 76 = .ok (.invokevirtual 73, 3) := by decide +kernel
theorem dX0_bear_79 : decode cX0_bear 79 = .ok (.ifCond .eq 12, 3) := by decide +kernel
theorem dX0_bear_82 : decode cX0_bear 82 = .ok (.aload_n 0, 1) := by decide +kernel
theorem dX0_bear_83 : decode cX0_bear 83 = .ok (.getfield 9, 3) := by decide +kernel
theorem dX0_bear_86 : decode cX0_bear 86 = .ok (.iload_n 2, 1) := by decide +kernel
theorem dX0_bear_87 : decode cX0_bear 87 = .ok (.iaload, 1) := by decide +kernel
theorem dX0_bear_88 : decode cX0_bear 88 = .ok (.ifCond .ge 4, 3) := by decide +kernel
theorem dX0_bear_91 : decode cX0_bear 91 = .ok (.return_, 1) := by decide +kernel
theorem dX0_bear_92 : decode cX0_bear 92 = .ok (.aload_n 0, 1) := by decide +kernel
theorem dX0_bear_93 : decode cX0_bear 93 = .ok (.getfield 9, 3) := by decide +kernel
theorem dX0_bear_96 : decode cX0_bear 96 = .ok (.iload_n 1, 1) := by decide +kernel
theorem dX0_bear_97 : decode cX0_bear 97 = .ok (.aload_n 0, 1) := by decide +kernel
theorem dX0_bear_98 : decode cX0_bear 98 = .ok (.getfield 9, 3) := by decide +kernel
theorem dX0_bear_101 : decode cX0_bear 101 = .ok (.iload_n 2, 1) := by decide +kernel
theorem dX0_bear_102 : decode cX0_bear 102 = .ok (.iaload, 1) := by decide +kernel
theorem dX0_bear_103 : decode cX0_bear 103 = .ok (.iastore, 1) := by decide +kernel
theorem dX0_bear_104 : decode cX0_bear 104 = .ok (.aload_n 0, 1) := by decide +kernel
theorem dX0_bear_105 : decode cX0_bear 105 = .ok (.getfield 23, 3) := by decide +kernel
theorem dX0_bear_108 : decode cX0_bear 108 = .ok (.iload_n 2, 1) := by decide +kernel
theorem dX0_bear_109 : decode cX0_bear 109 = .ok (.iaload, 1) := by decide +kernel
theorem dX0_bear_110 : decode cX0_bear 110 = .ok (.bipush 39, 2) := by decide +kernel
theorem dX0_bear_112 : decode cX0_bear 112 = .ok (.invokestatic 86, 3) := by decide +kernel
theorem dX0_bear_115 : decode cX0_bear 115 = .ok (.istore_n 3, 1) := by decide +kernel
theorem dX0_bear_116 : decode cX0_bear 116 = .ok (.iload_n 3, 1) := by decide +kernel
theorem dX0_bear_117 : decode cX0_bear 117 = .ok (.ifCond .le 21, 3) := by decide +kernel
theorem dX0_bear_120 : decode cX0_bear 120 = .ok (.aload_n 0, 1) := by decide +kernel
theorem dX0_bear_121 : decode cX0_bear 121 = .ok (.getfield 20, 3) := by decide +kernel
theorem dX0_bear_124 : decode cX0_bear 124 = .ok (.iload_n 2, 1) := by decide +kernel
theorem dX0_bear_125 : decode cX0_bear 125 = .ok (.aaload, 1) := by decide +kernel
theorem dX0_bear_126 : decode cX0_bear 126 = .ok (.iconst 0, 1) := by decide +kernel
theorem dX0_bear_127 : decode cX0_bear 127 = .ok (.aload_n 0, 1) := by decide +kernel
theorem dX0_bear_128 : decode cX0_bear 128 = .ok (.getfield 20, 3) := by decide +kernel
theorem dX0_bear_131 : decode cX0_bear 131 = .ok (.iload_n 1, 1) := by decide +kernel
theorem dX0_bear_132 : decode cX0_bear 132 = .ok (.aaload, 1) := by decide +kernel
theorem dX0_bear_133 : decode cX0_bear 133 = .ok (.iconst 0, 1) := by decide +kernel
theorem dX0_bear_134 : decode cX0_bear 134 = .ok (.iload_n 3, 1) := by decide +kernel
theorem dX0_bear_135 : decode cX0_bear 135 = .ok (.invokestatic 92, 3) := by decide +kernel
theorem dX0_bear_138 : decode cX0_bear 138 = .ok (.aload_n 0, 1) := by decide +kernel
theorem dX0_bear_139 : decode cX0_bear 139 = .ok (.getfield 42, 3) := by decide +kernel
theorem dX0_bear_142 : decode cX0_bear 142 = .ok (.iload_n 1, 1) := by decide +kernel
theorem dX0_bear_143 : decode cX0_bear 143 = .ok (.invokevirtual 98, 3) := by decide +kernel
theorem dX0_bear_146 : decode cX0_bear 146 = .ok (.ifCond .eq 37, 3) := by decide +kernel
theorem dX0_bear_149 : decode cX0_bear 149 = .ok (.aload_n 0, 1) := by decide +kernel
theorem dX0_bear_150 : decode cX0_bear 150 = .ok (.getfield 42, 3) := by decide +kernel
theorem dX0_bear_153 : decode cX0_bear 153 = .ok (.iload_n 1, 1) := by decide +kernel
theorem dX0_bear_154 : decode cX0_bear 154 = .ok (.invokevirtual 101, 3) := by decide +kernel
theorem dX0_bear_157 : decode cX0_bear 157 = .ok (.ifCond .ne 26, 3) := by decide +kernel
theorem dX0_bear_160 : decode cX0_bear 160 = .ok (.iload_n 3, 1) := by decide +kernel
theorem dX0_bear_161 : decode cX0_bear 161 = .ok (.ifCond .lt 22, 3) := by decide +kernel
theorem dX0_bear_164 : decode cX0_bear 164 = .ok (.aload_n 0, 1) := by decide +kernel
theorem dX0_bear_165 : decode cX0_bear 165 = .ok (.getfield 20, 3) := by decide +kernel
theorem dX0_bear_168 : decode cX0_bear 168 = .ok (.iload_n 1, 1) := by decide +kernel
theorem dX0_bear_169 : decode cX0_bear 169 = .ok (.aaload, 1) := by decide +kernel
theorem dX0_bear_170 : decode cX0_bear 170 = .ok (.iload_n 3, 1) := by decide +kernel
theorem dX0_bear_171 : decode cX0_bear 171 = .ok (.aload_n 0, 1) := by decide +kernel
theorem dX0_bear_172 : decode cX0_bear 172 = .ok (.getfield 42, 3) := by decide +kernel
theorem dX0_bear_175 : decode cX0_bear 175 = .ok (.iload_n 1, 1) := by decide +kernel
theorem dX0_bear_176 : decode cX0_bear 176 = .ok (.invokevirtual 104, 3) := by decide +kernel
theorem dX0_bear_179 : decode cX0_bear 179 = .ok (.iastore, 1) := by decide +kernel
theorem dX0_bear_180 : decode cX0_bear 180 = .ok (.iinc 3 1, 3) := by decide +kernel
theorem dX0_bear_183 : decode cX0_bear 183 = .ok (.aload_n 0, 1) := by decide +kernel
theorem dX0_bear_184 : decode cX0_bear 184 = .ok (.getfield 23, 3) := by decide +kernel
theorem dX0_bear_187 : decode cX0_bear 187 = .ok (.iload_n 1, 1) := by decide +kernel
theorem dX0_bear_188 : decode cX0_bear 188 = .ok (.iload_n 3, 1) := by decide +kernel
theorem dX0_bear_189 : decode cX0_bear 189 = .ok (.iastore, 1) := by decide +kernel
theorem dX0_bear_190 : decode cX0_bear 190 = .ok (.return_, 1) := by decide +kernel
set_option maxRecDepth 20000 in
theorem ggX0_fallenTo_X5_isLastOfLine : GoodIn wsX0_fallenTo wsX5_isLastOfLine := goodIn_ca (goodIn_r _ [9, 10, 11, 12, 13, 14, 15, 16, 8, 17, 18, 42, 43, 44, 45, 46, 47, 48, 49, 50] (by decide +kernel) (by decide +kernel)) (goodIn_sub (fun _ h => List.mem_cons_of_mem _ (List.mem_append_right _ h)) (by decide +kernel))
set_option maxRecDepth 20000 in
theorem gX0_fallenTo_X5_isLastOfLine : GoodIn wsX0_fallenTo (wsV RX0 107 RX5 yX5_isLastOfLine wsX5_isLastOfLine) := goodIn_app (goodIn_of _ (by decide +kernel)) ggX0_fallenTo_X5_isLastOfLine
theorem dX0_fallenTo_0 : decode cX0_fallenTo 0 = .ok (.iconst 0, 1) := by decide +kernel
theorem dX0_fallenTo_1 : decode cX0_fallenTo 1 = .ok (.istore_n 2, 1) := by decide +kernel
theorem dX0_fallenTo_2 : decode cX0_fallenTo 2 = .ok (.iload_n 2, 1) := by decide +kernel
theorem dX0_fallenTo_3 : decode cX0_fallenTo 3 = .ok (.aload_n 0, 1) := by decide +kernel
theorem dX0_fallenTo_4 : decode cX0_fallenTo 4 = .ok (.getfield 46, 3) := by decide +kernel
theorem dX0_fallenTo_7 : decode cX0_fallenTo 7 = .ok (.getfield 50, 3) := by decide +kernel
theorem dX0_fallenTo_10 : decode cX0_fallenTo 10 = .ok (.if_icmp .ge 38, 3) := by decide +kernel
theorem dX0_fallenTo_13 : decode cX0_fallenTo 13 = .ok (.iload_n 2, 1) := by decide +kernel
theorem dX0_fallenTo_14 : decode cX0_fallenTo 14 = .ok (.bipush 24, 2) := by decide +kernel
theorem dX0_fallenTo_16 : decode cX0_fallenTo 16 = .ok (.if_icmp .ge 32, 3) := by decide +kernel
theorem dX0_fallenTo_19 : decode cX0_fallenTo 19 = .ok (.aload_n 0, 1) := by decide +kernel
theorem dX0_fallenTo_20 : decode cX0_fallenTo 20 = .ok (.getfield 39, 3) := by decide +kernel
theorem dX0_fallenTo_23 : decode cX0_fallenTo 23 = .ok (.iload_n 2, 1) := by decide +kernel
theorem dX0_fallenTo_24 : decode cX0_fallenTo 24 = .ok (.iaload, 1) := by decide +kernel
theorem dX0_fallenTo_25 : decode cX0_fallenTo 25 = .ok (.iload_n 1, 1) := by decide +kernel
theorem dX0_fallenTo_26 : decode cX0_fallenTo 26 = .ok (.if_icmp .ne 16, 3) := by decide +kernel
theorem dX0_fallenTo_29 : decode cX0_fallenTo 29 = .ok (.aload_n 0, 1) := by decide +kernel
theorem dX0_fallenTo_30 : decode cX0_fallenTo 30 = .ok (.getfield 42, 3) := by decide +kernel
theorem dX0_fallenTo_33 : decode cX0_fallenTo 33 = .ok (.iload_n 1, 1) := by decide +kernel
theorem dX0_fallenTo_34 : decode cX0_fallenTo 34 = .ok (.invokevirtual 107, 3) := by decide +kernel
theorem dX0_fallenTo_37 : decode cX0_fallenTo 37 = .ok (.ifCond .eq 5, 3) := by decide +kernel
theorem dX0_fallenTo_40 : decode cX0_fallenTo 40 = .ok (.iload_n 2, 1) := by decide +kernel
theorem dX0_fallenTo_41 : decode cX0_fallenTo 41 = .ok (.ireturn, 1) := by decide +kernel
theorem dX0_fallenTo_42 : decode cX0_fallenTo 42 = .ok (.iinc 2 1, 3) := by decide +kernel
theorem dX0_fallenTo_45 : decode cX0_fallenTo 45 = .ok (.goto (-43), 3) := by decide +kernel
theorem dX0_fallenTo_48 : decode cX0_fallenTo 48 = .ok (.iconst (-1), 1) := by decide +kernel
theorem dX0_fallenTo_49 : decode cX0_fallenTo 49 = .ok (.ireturn, 1) := by decide +kernel
set_option maxRecDepth 20000 in
theorem ggX0_findHeiresses_X0_findLastMan : GoodIn wsX0_findHeiresses wsX0_findLastMan := goodIn_ca (goodIn_r _ [11, 6, 4, 5, 12, 13, 14, 15, 16, 17, 18, 19, 20, 21, 22, 23, 24, 25, 26, 27, 28, 29, 30, 31, 32, 33, 34, 35, 36, 37, 38, 39, 40, 41, 42, 43, 44, 45, 46, 47, 48, 49, 50, 51, 52, 53, 54, 55, 56, 57, 10, 58, 59, 60, 61, 62, 63, 64, 74, 75, 76, 77, 78, 79, 80, 81, 82, 83, 84, 85, 86, 87, 88, 89, 90, 91, 92, 93, 94, 95, 96, 97, 98, 99, 100, 101, 102, 103, 104, 105] (by decide +kernel) (by decide +kernel)) (goodIn_sub (fun _ h => List.mem_cons_of_mem _ (List.mem_append_right _ h)) (by decide +kernel))
set_option maxRecDepth 20000 in
theorem gX0_findHeiresses_X0_findLastMan : GoodIn wsX0_findHeiresses (wsV RX0 110 RX0 yX0_findLastMan wsX0_findLastMan) := goodIn_app (goodIn_of _ (by decide +kernel)) ggX0_findHeiresses_X0_findLastMan
set_option maxRecDepth 20000 in
theorem ggX0_findHeiresses_X5_isDaughterOf : GoodIn wsX0_findHeiresses wsX5_isDaughterOf := goodIn_ca (goodIn_r _ [68, 34, 54, 35, 36, 37, 32, 38, 39, 85, 86, 87, 88, 89, 90, 91, 92, 93] (by decide +kernel) (by decide +kernel)) (goodIn_sub (fun _ h => List.mem_cons_of_mem _ (List.mem_append_right _ h)) (by decide +kernel))
set_option maxRecDepth 20000 in
theorem gX0_findHeiresses_X5_isDaughterOf : GoodIn wsX0_findHeiresses (wsV RX0 113 RX5 yX5_isDaughterOf wsX5_isDaughterOf) := goodIn_app (goodIn_of _ (by decide +kernel)) ggX0_findHeiresses_X5_isDaughterOf
set_option maxRecDepth 20000 in
theorem ggX0_findHeiresses_X5_isAlive : GoodIn wsX0_findHeiresses wsX5_isAlive := goodIn_ca (goodIn_r _ [43, 44, 35, 36, 37, 32, 38, 39, 85, 86, 87, 88, 89, 90, 91, 92, 93] (by decide +kernel) (by decide +kernel)) (goodIn_sub (fun _ h => List.mem_cons_of_mem _ (List.mem_append_right _ h)) (by decide +kernel))
set_option maxRecDepth 20000 in
theorem gX0_findHeiresses_X5_isAlive : GoodIn wsX0_findHeiresses (wsV RX0 63 RX5 yX5_isAlive wsX5_isAlive) := goodIn_app (goodIn_of _ (by decide +kernel)) ggX0_findHeiresses_X5_isAlive
set_option maxRecDepth 20000 in
theorem ggX0_findHeiresses_X9_calledTo : GoodIn wsX0_findHeiresses wsX9_calledTo := goodIn_ca (goodIn_r _ [72, 73, 19, 20, 21, 16, 22, 23, 94, 95, 96, 97, 98, 99, 100, 101, 102, 103, 104, 105] (by decide +kernel) (by decide +kernel)) (goodIn_sub (fun _ h => List.mem_cons_of_mem _ (List.mem_append_right _ h)) (by decide +kernel))
set_option maxRecDepth 20000 in
theorem gX0_findHeiresses_X9_calledTo : GoodIn wsX0_findHeiresses (wsV RX0 117 RX9 yX9_calledTo wsX9_calledTo) := goodIn_app (goodIn_of _ (by decide +kernel)) ggX0_findHeiresses_X9_calledTo
theorem dX0_findHeiresses_0 : decode cX0_findHeiresses 0 = .ok (.iload_n 1, 1) := by decide +kernel
theorem dX0_findHeiresses_1 : decode cX0_findHeiresses 1 = .ok (.ifCond .lt 9, 3) := by decide +kernel
theorem dX0_findHeiresses_4 : decode cX0_findHeiresses 4 = .ok (.iload_n 1, 1) := by decide +kernel
theorem dX0_findHeiresses_5 : decode cX0_findHeiresses 5 = .ok (.bipush 24, 2) := by decide +kernel
theorem dX0_findHeiresses_7 : decode cX0_findHeiresses 7 = .ok (.if_icmp .lt 4, 3) := by decide +kernel
theorem dX0_findHeiresses_10 : decode cX0_findHeiresses 10 = .ok (.return_, 1) := by decide +kernel
theorem dX0_findHeiresses_11 : decode cX0_findHeiresses 11 = .ok (.aload_n 0, 1) := by decide +kernel
theorem dX0_findHeiresses_12 : decode cX0_findHeiresses 12 = .ok (.iload_n 1, 1) := by decide +kernel
theorem dX0_findHeiresses_13 : decode cX0_findHeiresses 13 = .ok (.invokevirtual 110, 3) := by decide +kernel
theorem dX0_findHeiresses_16 : decode cX0_findHeiresses 16 = .ok (.istore_n 2, 1) := by decide +kernel
theorem dX0_findHeiresses_17 : decode cX0_findHeiresses 17 = .ok (.aload_n 0, 1) := by decide +kernel
theorem dX0_findHeiresses_18 : decode cX0_findHeiresses 18 = .ok (.getfield 33, 3) := by decide +kernel
theorem dX0_findHeiresses_21 : decode cX0_findHeiresses 21 = .ok (.iload_n 1, 1) := by decide +kernel
theorem dX0_findHeiresses_22 : decode cX0_findHeiresses 22 = .ok (.iload_n 2, 1) := by decide +kernel
theorem dX0_findHeiresses_23 : decode cX0_findHeiresses 23 = .ok (.iastore, 1) := by decide +kernel
theorem dX0_findHeiresses_24 : decode cX0_findHeiresses 24 = .ok (.aload_n 0, 1) := by decide +kernel
theorem dX0_findHeiresses_25 : decode cX0_findHeiresses 25 = .ok (.getfield 36, 3) := by decide +kernel
theorem dX0_findHeiresses_28 : decode cX0_findHeiresses 28 = .ok (.iload_n 1, 1) := by decide +kernel
theorem dX0_findHeiresses_29 : decode cX0_findHeiresses 29 = .ok (.iconst 0, 1) := by decide +kernel
theorem dX0_findHeiresses_30 : decode cX0_findHeiresses 30 = .ok (.iastore, 1) := by decide +kernel
theorem dX0_findHeiresses_31 : decode cX0_findHeiresses 31 = .ok (.aload_n 0, 1) := by decide +kernel
theorem dX0_findHeiresses_32 : decode cX0_findHeiresses 32 = .ok (.getfield 39, 3) := by decide +kernel
theorem dX0_findHeiresses_35 : decode cX0_findHeiresses 35 = .ok (.iload_n 1, 1) := by decide +kernel
theorem dX0_findHeiresses_36 : decode cX0_findHeiresses 36 = .ok (.iconst (-1), 1) := by decide +kernel
theorem dX0_findHeiresses_37 : decode cX0_findHeiresses 37 = .ok (.iastore, 1) := by decide +kernel
theorem dX0_findHeiresses_38 : decode cX0_findHeiresses 38 = .ok (.iload_n 2, 1) := by decide +kernel
theorem dX0_findHeiresses_39 : decode cX0_findHeiresses 39 = .ok (.ifCond .ge 4, 3) := by decide +kernel
theorem dX0_findHeiresses_42 : decode cX0_findHeiresses 42 = .ok (.return_, 1) := by decide +kernel
theorem dX0_findHeiresses_43 : decode cX0_findHeiresses 43 = .ok (.iconst (-1), 1) := by decide +kernel
theorem dX0_findHeiresses_44 : decode cX0_findHeiresses 44 = .ok (.istore_n 3, 1) := by decide +kernel
theorem dX0_findHeiresses_45 : decode cX0_findHeiresses 45 = .ok (.iconst 0, 1) := by decide +kernel
theorem dX0_findHeiresses_46 : decode cX0_findHeiresses 46 = .ok (.istore 4, 2) := by decide +kernel
theorem dX0_findHeiresses_48 : decode cX0_findHeiresses 48 = .ok (.iload 4, 2) := by decide +kernel
theorem dX0_findHeiresses_50 : decode cX0_findHeiresses 50 = .ok (.aload_n 0, 1) := by decide +kernel
theorem dX0_findHeiresses_51 : decode cX0_findHeiresses 51 = .ok (.getfield 42, 3) := by decide +kernel
theorem dX0_findHeiresses_54 : decode cX0_findHeiresses 54 = .ok (.getfield 60, 3) := by decide +kernel
theorem dX0_findHeiresses_57 : decode cX0_findHeiresses 57 = .ok (.if_icmp .ge 47, 3) := by decide +kernel
theorem dX0_findHeiresses_60 : decode cX0_findHeiresses 60 = .ok (.aload_n 0, 1) := by decide +kernel
theorem dX0_findHeiresses_61 : decode cX0_findHeiresses 61 = .ok (.getfield 42, 3) := by decide +kernel
theorem dX0_findHeiresses_64 : decode cX0_findHeiresses 64 = .ok (.iload 4, 2) := by decide +kernel
theorem dX0_findHeiresses_66 : decode cX0_findHeiresses 66 = .ok (.iload_n 2, 1) := by decide +kernel
theorem dX0_findHeiresses_67 : decode cX0_findHeiresses 67 = .ok (.invokevirtual 113, 3) := by decide +kernel
theorem dX0_findHeiresses_70 : decode cX0_findHeiresses 70 = .ok (.ifCond .eq 28, 3) := by decide +kernel
theorem dX0_findHeiresses_73 : decode cX0_findHeiresses 73 = .ok (.aload_n 0, 1) := by decide +kernel
theorem dX0_findHeiresses_74 : decode cX0_findHeiresses 74 = .ok (.getfield 42, 3) := by decide +kernel
theorem dX0_findHeiresses_77 : decode cX0_findHeiresses 77 = .ok (.iload 4, 2) := by decide +kernel
theorem dX0_findHeiresses_79 : decode cX0_findHeiresses 79 = .ok (.invokevirtual 63, 3) := by decide +kernel
theorem dX0_findHeiresses_82 : decode cX0_findHeiresses 82 = .ok (.ifCond .eq 16, 3) := by decide +kernel
theorem dX0_findHeiresses_85 : decode cX0_findHeiresses 85 = .ok (.aload_n 0, 1) := by decide +kernel
theorem dX0_findHeiresses_86 : decode cX0_findHeiresses 86 = .ok (.getfield 36, 3) := by decide +kernel
theorem dX0_findHeiresses_89 : decode cX0_findHeiresses 89 = .ok (.iload_n 1, 1) := by decide +kernel
theorem dX0_findHeiresses_90 : decode cX0_findHeiresses 90 = .ok (.dup2, 1) := by decide +kernel
theorem dX0_findHeiresses_91 : decode cX0_findHeiresses 91 = .ok (.iaload, 1) := by decide +kernel
theorem dX0_findHeiresses_92 : decode cX0_findHeiresses 92 = .ok (.iconst 1, 1) := by decide +kernel
theorem dX0_findHeiresses_93 : decode cX0_findHeiresses 93 = .ok (.iadd, 1) := by decide +kernel
theorem dX0_findHeiresses_94 : decode cX0_findHeiresses 94 = .ok (.iastore, 1) := by decide +kernel
theorem dX0_findHeiresses_95 : decode cX0_findHeiresses 95 = .ok (.iload 4, 2) := by decide +kernel
theorem dX0_findHeiresses_97 : decode cX0_findHeiresses 97 = .ok (.istore_n 3, 1) := by decide +kernel
theorem dX0_findHeiresses_98 : decode cX0_findHeiresses 98 = .ok (.iinc 4 1, 3) := by decide +kernel
theorem dX0_findHeiresses_101 : decode cX0_findHeiresses 101 = .ok (.goto (-53), 3) := by decide +kernel
theorem dX0_findHeiresses_104 : decode cX0_findHeiresses 104 = .ok (.aload_n 0, 1) := by decide +kernel
theorem dX0_findHeiresses_105 : decode cX0_findHeiresses 105 = .ok (.getfield 46, 3) := by decide +kernel
theorem dX0_findHeiresses_108 : decode cX0_findHeiresses 108 = .ok (.iload_n 1, 1) := by decide +kernel
theorem dX0_findHeiresses_109 : decode cX0_findHeiresses 109 = .ok (.invokevirtual 117, 3) := by decide +kernel
theorem dX0_findHeiresses_112 : decode cX0_findHeiresses 112 = .ok (.istore 4, 2) := by decide +kernel
theorem dX0_findHeiresses_114 : decode cX0_findHeiresses 114 = .ok (.aload_n 0, 1) := by decide +kernel
theorem dX0_findHeiresses_115 : decode cX0_findHeiresses 115 = .ok (.getfield 36, 3) := by decide +kernel
theorem dX0_findHeiresses_118 : decode cX0_findHeiresses 118 = .ok (.iload_n 1, 1) := by decide +kernel
theorem dX0_findHeiresses_119 : decode cX0_findHeiresses 119 = .ok (.iaload, 1) := by decide +kernel
theorem dX0_findHeiresses_120 : decode cX0_findHeiresses 120 = .ok (.iconst 1, 1) := by decide +kernel
theorem dX0_findHeiresses_121 : decode cX0_findHeiresses 121 = .ok (.if_icmp .ne 13, 3) := by decide +kernel
theorem dX0_findHeiresses_124 : decode cX0_findHeiresses 124 = .ok (.aload_n 0, 1) := by decide +kernel
theorem dX0_findHeiresses_125 : decode cX0_findHeiresses 125 = .ok (.getfield 39, 3) := by decide +kernel
theorem dX0_findHeiresses_128 : decode cX0_findHeiresses 128 = .ok (.iload_n 1, 1) := by decide +kernel
theorem dX0_findHeiresses_129 : decode cX0_findHeiresses 129 = .ok (.iload_n 3, 1) := by decide +kernel
theorem dX0_findHeiresses_130 : decode cX0_findHeiresses 130 = .ok (.iastore, 1) := by decide +kernel
theorem dX0_findHeiresses_131 : decode cX0_findHeiresses 131 = .ok (.goto 36, 3) := by decide +kernel
theorem dX0_findHeiresses_134 : decode cX0_findHeiresses 134 = .ok (.aload_n 0, 1) := by decide +kernel
theorem dX0_findHeiresses_135 : decode cX0_findHeiresses 135 = .ok (.getfield 42, 3) := by decide +kernel
theorem dX0_findHeiresses_138 : decode cX0_findHeiresses 138 = .ok (.iload 4, 2) := by decide +kernel
theorem dX0_findHeiresses_140 : decode cX0_findHeiresses 140 = .ok (.iload_n 2, 1) := by decide +kernel
theorem dX0_findHeiresses_141 : decode cX0_findHeiresses 141 = .ok (.invokevirtual 113, 3) := by decide +kernel
theorem dX0_findHeiresses_144 : decode cX0_findHeiresses 144 = .ok (.ifCond .eq 23, 3) := by decide +kernel
theorem dX0_findHeiresses_147 : decode cX0_findHeiresses 147 = .ok (.aload_n 0, 1) := by decide +kernel
theorem dX0_findHeiresses_148 : decode cX0_findHeiresses 148 = .ok (.getfield 42, 3) := by decide +kernel
theorem dX0_findHeiresses_151 : decode cX0_findHeiresses 151 = .ok (.iload 4, 2) := by decide +kernel
theorem dX0_findHeiresses_153 : decode cX0_findHeiresses 153 = .ok (.invokevirtual 63, 3) := by decide +kernel
theorem dX0_findHeiresses_156 : decode cX0_findHeiresses 156 = .ok (.ifCond .eq 11, 3) := by decide +kernel
theorem dX0_findHeiresses_159 : decode cX0_findHeiresses 159 = .ok (.aload_n 0, 1) := by decide +kernel
theorem dX0_findHeiresses_160 : decode cX0_findHeiresses 160 = .ok (.getfield 39, 3) := by decide +kernel
theorem dX0_findHeiresses_163 : decode cX0_findHeiresses 163 = .ok (.iload_n 1, 1) := by decide +kernel
theorem dX0_findHeiresses_164 : decode cX0_findHeiresses 164 = .ok (.iload 4, 2) := by decide +kernel
theorem dX0_findHeiresses_166 : decode cX0_findHeiresses 166 = .ok (.iastore, 1) := by decide +kernel
theorem dX0_findHeiresses_167 : decode cX0_findHeiresses 167 = .ok (.return_, 1) := by decide +kernel
set_option maxRecDepth 20000 in
theorem ggX0_findLastMan_X9_firstBearer : GoodIn wsX0_findLastMan wsX9_firstBearer := goodIn_ca (goodIn_r _ [9, 10, 11, 12, 13, 8, 14, 15, 78, 79, 80, 81, 82, 83, 84, 85, 86, 87, 88, 89] (by decide +kernel) (by decide +kernel)) (goodIn_sub (fun _ h => List.mem_cons_of_mem _ (List.mem_append_right _ h)) (by decide +kernel))
set_option maxRecDepth 20000 in
theorem gX0_findLastMan_X9_firstBearer : GoodIn wsX0_findLastMan (wsV RX0 120 RX9 yX9_firstBearer wsX9_firstBearer) := goodIn_app (goodIn_of _ (by decide +kernel)) ggX0_findLastMan_X9_firstBearer
set_option maxRecDepth 20000 in
theorem ggX0_findLastMan_X9_isVoid : GoodIn wsX0_findLastMan wsX9_isVoid := goodIn_ca (goodIn_r _ [19, 20, 11, 12, 13, 8, 14, 15, 78, 79, 80, 81, 82, 83, 84, 85, 86, 87, 88, 89] (by decide +kernel) (by decide +kernel)) (goodIn_sub (fun _ h => List.mem_cons_of_mem _ (List.mem_append_right _ h)) (by decide +kernel))
set_option maxRecDepth 20000 in
theorem gX0_findLastMan_X9_isVoid : GoodIn wsX0_findLastMan (wsV RX0 70 RX9 yX9_isVoid wsX9_isVoid) := goodIn_app (goodIn_of _ (by decide +kernel)) ggX0_findLastMan_X9_isVoid
set_option maxRecDepth 20000 in
theorem ggX0_findLastMan_X5_isMan : GoodIn wsX0_findLastMan wsX5_isMan := goodIn_ca (goodIn_r _ [25, 26, 27, 28, 29, 24, 30, 31, 69, 70, 71, 72, 73, 74, 75, 76, 77] (by decide +kernel) (by decide +kernel)) (goodIn_sub (fun _ h => List.mem_cons_of_mem _ (List.mem_append_right _ h)) (by decide +kernel))
set_option maxRecDepth 20000 in
theorem gX0_findLastMan_X5_isMan : GoodIn wsX0_findLastMan (wsV RX0 98 RX5 yX5_isMan wsX5_isMan) := goodIn_app (goodIn_of _ (by decide +kernel)) ggX0_findLastMan_X5_isMan
set_option maxRecDepth 20000 in
theorem ggX0_findLastMan_X5_isAlive : GoodIn wsX0_findLastMan wsX5_isAlive := goodIn_ca (goodIn_r _ [35, 36, 27, 28, 29, 24, 30, 31, 69, 70, 71, 72, 73, 74, 75, 76, 77] (by decide +kernel) (by decide +kernel)) (goodIn_sub (fun _ h => List.mem_cons_of_mem _ (List.mem_append_right _ h)) (by decide +kernel))
set_option maxRecDepth 20000 in
theorem gX0_findLastMan_X5_isAlive : GoodIn wsX0_findLastMan (wsV RX0 63 RX5 yX5_isAlive wsX5_isAlive) := goodIn_app (goodIn_of _ (by decide +kernel)) ggX0_findLastMan_X5_isAlive
set_option maxRecDepth 20000 in
theorem ggX0_findLastMan_X5_livingLine : GoodIn wsX0_findLastMan wsX5_livingLine := goodIn_ca (goodIn_r _ [40, 41, 27, 28, 29, 24, 30, 31, 69, 70, 71, 72, 73, 74, 75, 76, 77] (by decide +kernel) (by decide +kernel)) (goodIn_sub (fun _ h => List.mem_cons_of_mem _ (List.mem_append_right _ h)) (by decide +kernel))
set_option maxRecDepth 20000 in
theorem gX0_findLastMan_X5_livingLine : GoodIn wsX0_findLastMan (wsV RX0 123 RX5 yX5_livingLine wsX5_livingLine) := goodIn_app (goodIn_of _ (by decide +kernel)) ggX0_findLastMan_X5_livingLine
set_option maxRecDepth 20000 in
theorem ggX0_findLastMan_X5_isOfLine : GoodIn wsX0_findLastMan wsX5_isOfLine := goodIn_ca (goodIn_r _ [45, 26, 46, 27, 28, 29, 24, 30, 31, 69, 70, 71, 72, 73, 74, 75, 76, 77] (by decide +kernel) (by decide +kernel)) (goodIn_sub (fun _ h => List.mem_cons_of_mem _ (List.mem_append_right _ h)) (by decide +kernel))
set_option maxRecDepth 20000 in
theorem gX0_findLastMan_X5_isOfLine : GoodIn wsX0_findLastMan (wsV RX0 126 RX5 yX5_isOfLine wsX5_isOfLine) := goodIn_app (goodIn_of _ (by decide +kernel)) ggX0_findLastMan_X5_isOfLine
set_option maxRecDepth 20000 in
theorem ggX0_findLastMan_X0_isLaterThan : GoodIn wsX0_findLastMan wsX0_isLaterThan := goodIn_ca (goodIn_r _ [51, 2, 52, 53, 28, 29, 24, 30, 31, 54, 55, 56, 57, 36, 27, 58, 59, 60, 61, 62, 63, 64, 65, 66, 67, 68, 69, 70, 71, 72, 73, 74, 75, 76, 77] (by decide +kernel) (by decide +kernel)) (goodIn_sub (fun _ h => List.mem_cons_of_mem _ (List.mem_append_right _ h)) (by decide +kernel))
set_option maxRecDepth 20000 in
theorem gX0_findLastMan_X0_isLaterThan : GoodIn wsX0_findLastMan (wsV RX0 129 RX0 yX0_isLaterThan wsX0_isLaterThan) := goodIn_app (goodIn_of _ (by decide +kernel)) ggX0_findLastMan_X0_isLaterThan
theorem dX0_findLastMan_0 : decode cX0_findLastMan 0 = .ok (.aload_n 0, 1) := by decide +kernel
theorem dX0_findLastMan_1 : decode cX0_findLastMan 1 = .ok (.getfield 46, 3) := by decide +kernel
theorem dX0_findLastMan_4 : decode cX0_findLastMan 4 = .ok (.iload_n 1, 1) := by decide +kernel
theorem dX0_findLastMan_5 : decode cX0_findLastMan 5 = .ok (.invokevirtual 120, 3) := by decide +kernel
theorem dX0_findLastMan_8 : decode cX0_findLastMan 8 = .ok (.istore_n 2, 1) := by decide +kernel
theorem dX0_findLastMan_9 : decode cX0_findLastMan 9 = .ok (.aload_n 0, 1) := by decide +kernel
theorem dX0_findLastMan_10 : decode cX0_findLastMan 10 = .ok (.getfield 46, 3) := by decide +kernel
theorem dX0_findLastMan_13 : decode cX0_findLastMan 13 = .ok (.iload_n 1, 1) := by decide +kernel
theorem dX0_findLastMan_14 : decode cX0_findLastMan 14 = .ok (.invokevirtual 70, 3) := by decide +kernel
theorem dX0_findLastMan_17 : decode cX0_findLastMan 17 = .ok (.ifCond .ne 36, 3) := by decide +kernel
theorem dX0_findLastMan_20 : decode cX0_findLastMan 20 = .ok (.aload_n 0, 1) := by decide +kernel
theorem dX0_findLastMan_21 : decode cX0_findLastMan 21 = .ok (.getfield 42, 3) := by decide +kernel
theorem dX0_findLastMan_24 : decode cX0_findLastMan 24 = .ok (.iload_n 2, 1) := by decide +kernel
theorem dX0_findLastMan_25 : decode cX0_findLastMan 25 = .ok (.invokevirtual 98, 3) := by decide +kernel
theorem dX0_findLastMan_28 : decode cX0_findLastMan 28 = .ok (.ifCond .eq 25, 3) := by decide +kernel
theorem dX0_findLastMan_31 : decode cX0_findLastMan 31 = .ok (.aload_n 0, 1) := by decide +kernel
theorem dX0_findLastMan_32 : decode cX0_findLastMan 32 = .ok (.getfield 42, 3) := by decide +kernel
theorem dX0_findLastMan_35 : decode cX0_findLastMan 35 = .ok (.iload_n 2, 1) := by decide +kernel
theorem dX0_findLastMan_36 : decode cX0_findLastMan 36 = .ok (.invokevirtual 63, 3) := by decide +kernel
theorem dX0_findLastMan_39 : decode cX0_findLastMan 39 = .ok (.ifCond .ne 14, 3) := by decide +kernel
theorem dX0_findLastMan_42 : decode cX0_findLastMan 42 = .ok (.aload_n 0, 1) := by decide +kernel
theorem dX0_findLastMan_43 : decode cX0_findLastMan 43 = .ok (.getfield 42, 3) := by decide +kernel
theorem dX0_findLastMan_46 : decode cX0_findLastMan 46 = .ok (.iload_n 2, 1) := by decide +kernel
theorem dX0_findLastMan_47 : decode cX0_findLastMan 47 = .ok (.invokevirtual 123, 3) := by decide +kernel
theorem dX0_findLastMan_50 : decode cX0_findLastMan 50 = .ok (.ifCond .le 5, 3) := by decide +kernel
theorem dX0_findLastMan_53 : decode cX0_findLastMan 53 = .ok (.iconst (-1), 1) := by decide +kernel
theorem dX0_findLastMan_54 : decode cX0_findLastMan 54 = .ok (.ireturn, 1) := by decide +kernel
theorem dX0_findLastMan_55 : decode cX0_findLastMan 55 = .ok (.iconst (-1), 1) := by decide +kernel
theorem dX0_findLastMan_56 : decode cX0_findLastMan 56 = .ok (.istore_n 3, 1) := by decide +kernel
theorem dX0_findLastMan_57 : decode cX0_findLastMan 57 = .ok (.iload_n 2, 1) := by decide +kernel
theorem dX0_findLastMan_58 : decode cX0_findLastMan 58 = .ok (.istore 4, 2) := by decide +kernel
theorem dX0_findLastMan_60 : decode cX0_findLastMan 60 = .ok (.iload 4, 2) := by decide +kernel
theorem dX0_findLastMan_62 : decode cX0_findLastMan 62 = .ok (.aload_n 0, 1) := by decide +kernel
theorem dX0_findLastMan_63 : decode cX0_findLastMan 63 = .ok (.getfield 42, 3) := by decide +kernel
theorem dX0_findLastMan_66 : decode cX0_findLastMan 66 = .ok (.getfield 60, 3) := by decide +kernel
theorem dX0_findLastMan_69 : decode cX0_findLastMan 69 = .ok (.if_icmp .ge 65, 3) := by decide +kernel
theorem dX0_findLastMan_72 : decode cX0_findLastMan 72 = .ok (.iload 4, 2) := by decide +kernel
theorem dX0_findLastMan_74 : decode cX0_findLastMan 74 = .ok (.bipush 40, 2) := by decide +kernel
theorem dX0_findLastMan_76 : decode cX0_findLastMan 76 = .ok (.if_icmp .ge 58, 3) := by decide +kernel
theorem dX0_findLastMan_79 : decode cX0_findLastMan 79 = .ok (.aload_n 0, 1) := by decide +kernel
theorem dX0_findLastMan_80 : decode cX0_findLastMan 80 = .ok (.getfield 42, 3) := by decide +kernel
theorem dX0_findLastMan_83 : decode cX0_findLastMan 83 = .ok (.iload 4, 2) := by decide +kernel
theorem dX0_findLastMan_85 : decode cX0_findLastMan 85 = .ok (.invokevirtual 63, 3) := by decide +kernel
theorem dX0_findLastMan_88 : decode cX0_findLastMan 88 = .ok (.ifCond .ne 40, 3) := by decide +kernel
theorem dX0_findLastMan_91 : decode cX0_findLastMan 91 = .ok (.aload_n 0, 1) := by decide +kernel
theorem dX0_findLastMan_92 : decode cX0_findLastMan 92 = .ok (.getfield 15, 3) := by decide +kernel
theorem dX0_findLastMan_95 : decode cX0_findLastMan 95 = .ok (.iload 4, 2) := by decide +kernel
theorem dX0_findLastMan_97 : decode cX0_findLastMan 97 = .ok (.iaload, 1) := by decide +kernel
theorem dX0_findLastMan_98 : decode cX0_findLastMan 98 = .ok (.iload_n 1, 1) := by decide +kernel
theorem dX0_findLastMan_99 : decode cX0_findLastMan 99 = .ok (.if_icmp .ne 29, 3) := by decide +kernel
theorem dX0_findLastMan_102 : decode cX0_findLastMan 102 = .ok (.aload_n 0, 1) := by decide +kernel
theorem dX0_findLastMan_103 : decode cX0_findLastMan 103 = .ok (.getfield 42, 3) := by decide +kernel
theorem dX0_findLastMan_106 : decode cX0_findLastMan 106 = .ok (.iload 4, 2) := by decide +kernel
theorem dX0_findLastMan_108 : decode cX0_findLastMan 108 = .ok (.iload_n 2, 1) := by decide +kernel
theorem dX0_findLastMan_109 : decode cX0_findLastMan 109 = .ok (.invokevirtual 126, 3) := by decide +kernel
theorem dX0_findLastMan_112 : decode cX0_findLastMan 112 = .ok (.ifCond .eq 16, 3) := by decide +kernel
theorem dX0_findLastMan_115 : decode cX0_findLastMan 115 = .ok (.aload_n 0, 1) := by decide +kernel
theorem dX0_findLastMan_116 : decode cX0_findLastMan 116 = .ok (.iload 4, 2) := by decide +kernel
theorem dX0_findLastMan_118 : decode cX0_findLastMan 118 = .ok (.iload_n 3, 1) := by decide +kernel
theorem dX0_findLastMan_119 : decode cX0_findLastMan 119 = .ok (.invokevirtual 129, 3) := by decide +kernel
theorem dX0_findLastMan_122 : decode cX0_findLastMan 122 = .ok (.ifCond .eq 6, 3) := by decide +kernel
theorem dX0_findLastMan_125 : decode cX0_findLastMan 125 = .ok (.iload 4, 2) := by decide +kernel
theorem dX0_findLastMan_127 : decode cX0_findLastMan 127 = .ok (.istore_n 3, 1) := by decide +kernel
theorem dX0_findLastMan_128 : decode cX0_findLastMan 128 = .ok (.iinc 4 1, 3) := by decide +kernel
theorem dX0_findLastMan_131 : decode cX0_findLastMan 131 = .ok (.goto (-71), 3) := by decide +kernel
theorem dX0_findLastMan_134 : decode cX0_findLastMan 134 = .ok (.iload_n 3, 1) := by decide +kernel
theorem dX0_findLastMan_135 : decode cX0_findLastMan 135 = .ok (.ireturn, 1) := by decide +kernel
set_option maxRecDepth 20000 in
theorem ggX0_isLaterThan_X5_has : GoodIn wsX0_isLaterThan wsX5_has := goodIn_r _ [7, 8, 26, 27, 28, 29, 30, 31, 32, 33, 34] (by decide +kernel) (by decide +kernel)
set_option maxRecDepth 20000 in
theorem gX0_isLaterThan_X5_has : GoodIn wsX0_isLaterThan (wsV RX0 73 RX5 yX5_has wsX5_has) := goodIn_app (goodIn_of _ (by decide +kernel)) ggX0_isLaterThan_X5_has
set_option maxRecDepth 20000 in
theorem ggX0_isLaterThan_X5_deathOrder : GoodIn wsX0_isLaterThan wsX5_deathOrder := goodIn_ca (goodIn_r _ [12, 13, 14, 4, 5, 6, 7, 8, 26, 27, 28, 29, 30, 31, 32, 33, 34] (by decide +kernel) (by decide +kernel)) (goodIn_sub (fun _ h => List.mem_cons_of_mem _ (List.mem_append_right _ h)) (by decide +kernel))
set_option maxRecDepth 20000 in
theorem gX0_isLaterThan_X5_deathOrder : GoodIn wsX0_isLaterThan (wsV RX0 132 RX5 yX5_deathOrder wsX5_deathOrder) := goodIn_app (goodIn_of _ (by decide +kernel)) ggX0_isLaterThan_X5_deathOrder
theorem dX0_isLaterThan_0 : decode cX0_isLaterThan 0 = .ok (.aload_n 0, 1) := by decide +kernel
theorem dX0_isLaterThan_1 : decode cX0_isLaterThan 1 = .ok (.getfield 42, 3) := by decide +kernel
theorem dX0_isLaterThan_4 : decode cX0_isLaterThan 4 = .ok (.iload_n 1, 1) := by decide +kernel
theorem dX0_isLaterThan_5 : decode cX0_isLaterThan 5 = .ok (.invokevirtual 73, 3) := by decide +kernel
theorem dX0_isLaterThan_8 : decode cX0_isLaterThan 8 = .ok (.ifCond .eq 14, 3) := by decide +kernel
theorem dX0_isLaterThan_11 : decode cX0_isLaterThan 11 = .ok (.aload_n 0, 1) := by decide +kernel
theorem dX0_isLaterThan_12 : decode cX0_isLaterThan 12 = .ok (.getfield 42, 3) := by decide +kernel
theorem dX0_isLaterThan_15 : decode cX0_isLaterThan 15 = .ok (.iload_n 2, 1) := by decide +kernel
theorem dX0_isLaterThan_16 : decode cX0_isLaterThan 16 = .ok (.invokevirtual 73, 3) := by decide +kernel
theorem dX0_isLaterThan_19 : decode cX0_isLaterThan 19 = .ok (.ifCond .ne 5, 3) := by decide +kernel
theorem dX0_isLaterThan_22 : decode cX0_isLaterThan 22 = .ok (.iconst 1, 1) := by decide +kernel
theorem dX0_isLaterThan_23 : decode cX0_isLaterThan 23 = .ok (.ireturn, 1) := by decide +kernel
theorem dX0_isLaterThan_24 : decode cX0_isLaterThan 24 = .ok (.aload_n 0, 1) := by decide +kernel
theorem dX0_isLaterThan_25 : decode cX0_isLaterThan 25 = .ok (.getfield 23, 3) := by decide +kernel
theorem dX0_isLaterThan_28 : decode cX0_isLaterThan 28 = .ok (.iload_n 1, 1) := by decide +kernel
theorem dX0_isLaterThan_29 : decode cX0_isLaterThan 29 = .ok (.iaload, 1) := by decide +kernel
theorem dX0_isLaterThan_30 : decode cX0_isLaterThan 30 = .ok (.aload_n 0, 1) := by decide +kernel
theorem dX0_isLaterThan_31 : decode cX0_isLaterThan 31 = .ok (.getfield 23, 3) := by decide +kernel
theorem dX0_isLaterThan_34 : decode cX0_isLaterThan 34 = .ok (.iload_n 2, 1) := by decide +kernel
theorem dX0_isLaterThan_35 : decode cX0_isLaterThan 35 = .ok (.iaload, 1) := by decide +kernel
theorem dX0_isLaterThan_36 : decode cX0_isLaterThan 36 = .ok (.isub, 1) := by decide +kernel
theorem dX0_isLaterThan_37 : decode cX0_isLaterThan 37 = .ok (.istore_n 3, 1) := by decide +kernel
theorem dX0_isLaterThan_38 : decode cX0_isLaterThan 38 = .ok (.iload_n 3, 1) := by decide +kernel
theorem dX0_isLaterThan_39 : decode cX0_isLaterThan 39 = .ok (.ifCond .lt 26, 3) := by decide +kernel
theorem dX0_isLaterThan_42 : decode cX0_isLaterThan 42 = .ok (.iload_n 3, 1) := by decide +kernel
theorem dX0_isLaterThan_43 : decode cX0_isLaterThan 43 = .ok (.ifCond .ne 26, 3) := by decide +kernel
theorem dX0_isLaterThan_46 : decode cX0_isLaterThan 46 = .ok (.aload_n 0, 1) := by decide +kernel
theorem dX0_isLaterThan_47 : decode cX0_isLaterThan 47 = .ok (.getfield 42, 3) := by decide +kernel
theorem dX0_isLaterThan_50 : decode cX0_isLaterThan 50 = .ok (.iload_n 1, 1) := by decide +kernel
theorem dX0_isLaterThan_51 : decode cX0_isLaterThan 51 = .ok (.invokevirtual 132, 3) := by decide +kernel
theorem dX0_isLaterThan_54 : decode cX0_isLaterThan 54 = .ok (.aload_n 0, 1) := by decide +kernel
theorem dX0_isLaterThan_55 : decode cX0_isLaterThan 55 = .ok (.getfield 42, 3) := by decide +kernel
theorem dX0_isLaterThan_58 : decode cX0_isLaterThan 58 = .ok (.iload_n 2, 1) := by decide +kernel
theorem dX0_isLaterThan_59 : decode cX0_isLaterThan 59 = .ok (.invokevirtual 132, 3) := by decide +kernel
theorem dX0_isLaterThan_62 : decode cX0_isLaterThan 62 = .ok (.if_icmp .le 7, 3) := by decide +kernel
theorem dX0_isLaterThan_65 : decode cX0_isLaterThan 65 = .ok (.iconst 1, 1) := by decide +kernel
theorem dX0_isLaterThan_66 : decode cX0_isLaterThan 66 = .ok (.goto 4, 3) := by decide +kernel
theorem dX0_isLaterThan_69 : decode cX0_isLaterThan 69 = .ok (.iconst 0, 1) := by decide +kernel
theorem dX0_isLaterThan_70 : decode cX0_isLaterThan 70 = .ok (.ireturn, 1) := by decide +kernel
set_option maxRecDepth 20000 in
theorem ggX0_keep_X5_has : GoodIn wsX0_keep wsX5_has := goodIn_r _ [10, 11, 40, 41, 42, 43, 44, 45, 46, 47, 48] (by decide +kernel) (by decide +kernel)
set_option maxRecDepth 20000 in
theorem gX0_keep_X5_has : GoodIn wsX0_keep (wsV RX0 73 RX5 yX5_has wsX5_has) := goodIn_app (goodIn_of _ (by decide +kernel)) ggX0_keep_X5_has
set_option maxRecDepth 20000 in
theorem ggX0_keep_X5_isLastOfLine : GoodIn wsX0_keep wsX5_isLastOfLine := goodIn_ca (goodIn_r _ [15, 16, 17, 18, 19, 20, 7, 8, 9, 10, 11, 40, 41, 42, 43, 44, 45, 46, 47, 48] (by decide +kernel) (by decide +kernel)) (goodIn_sub (fun _ h => List.mem_cons_of_mem _ (List.mem_append_right _ h)) (by decide +kernel))
set_option maxRecDepth 20000 in
theorem gX0_keep_X5_isLastOfLine : GoodIn wsX0_keep (wsV RX0 107 RX5 yX5_isLastOfLine wsX5_isLastOfLine) := goodIn_app (goodIn_of _ (by decide +kernel)) ggX0_keep_X5_isLastOfLine
set_option maxRecDepth 20000 in
theorem ggX0_keep_X5_isHeir : GoodIn wsX0_keep wsX5_isHeir := goodIn_ca (goodIn_r _ [24, 16, 18, 17, 19, 20, 7, 8, 9, 10, 11, 25, 26, 27, 28, 40, 41, 42, 43, 44, 45, 46, 47, 48] (by decide +kernel) (by decide +kernel)) (goodIn_sub (fun _ h => List.mem_cons_of_mem _ (List.mem_append_right _ h)) (by decide +kernel))
set_option maxRecDepth 20000 in
theorem gX0_keep_X5_isHeir : GoodIn wsX0_keep (wsV RX0 101 RX5 yX5_isHeir wsX5_isHeir) := goodIn_app (goodIn_of _ (by decide +kernel)) ggX0_keep_X5_isHeir
theorem dX0_keep_0 : decode cX0_keep 0 = .ok (.aload_n 0, 1) := by decide +kernel
theorem dX0_keep_1 : decode cX0_keep 1 = .ok (.getfield 42, 3) := by decide +kernel
theorem dX0_keep_4 : decode cX0_keep 4 = .ok (.iload_n 1, 1) := by decide +kernel
theorem dX0_keep_5 : decode cX0_keep 5 = .ok (.invokevirtual 73, 3) := by decide +kernel
theorem dX0_keep_8 : decode cX0_keep 8 = .ok (.ifCond .eq 43, 3) := by decide +kernel
theorem dX0_keep_11 : decode cX0_keep 11 = .ok (.aload_n 0, 1) := by decide +kernel
theorem dX0_keep_12 : decode cX0_keep 12 = .ok (.getfield 15, 3) := by decide +kernel
theorem dX0_keep_15 : decode cX0_keep 15 = .ok (.iload_n 1, 1) := by decide +kernel
theorem dX0_keep_16 : decode cX0_keep 16 = .ok (.aload_n 0, 1) := by decide +kernel
theorem dX0_keep_17 : decode cX0_keep 17 = .ok (.getfield 9, 3) := by decide +kernel
theorem dX0_keep_20 : decode cX0_keep 20 = .ok (.iload_n 1, 1) := by decide +kernel
theorem dX0_keep_21 : decode cX0_keep 21 = .ok (.iaload, 1) := by decide +kernel
theorem dX0_keep_22 : decode cX0_keep 22 = .ok (.iastore, 1) := by decide +kernel
theorem dX0_keep_23 : decode cX0_keep 23 = .ok (.aload_n 0, 1) := by decide +kernel
theorem dX0_keep_24 : decode cX0_keep 24 = .ok (.getfield 26, 3) := by decide +kernel
theorem dX0_keep_27 : decode cX0_keep 27 = .ok (.iload_n 1, 1) := by decide +kernel
theorem dX0_keep_28 : decode cX0_keep 28 = .ok (.aload_n 0, 1) := by decide +kernel
theorem dX0_keep_29 : decode cX0_keep 29 = .ok (.getfield 42, 3) := by decide +kernel
theorem dX0_keep_32 : decode cX0_keep 32 = .ok (.iload_n 1, 1) := by decide +kernel
theorem dX0_keep_33 : decode cX0_keep 33 = .ok (.invokevirtual 107, 3) := by decide +kernel
theorem dX0_keep_36 : decode cX0_keep 36 = .ok (.bastore, 1) := by decide +kernel
theorem dX0_keep_37 : decode cX0_keep 37 = .ok (.aload_n 0, 1) := by decide +kernel
theorem dX0_keep_38 : decode cX0_keep 38 = .ok (.getfield 30, 3) := by decide +kernel
theorem dX0_keep_41 : decode cX0_keep 41 = .ok (.iload_n 1, 1) := by decide +kernel
theorem dX0_keep_42 : decode cX0_keep 42 = .ok (.aload_n 0, 1) := by decide +kernel
theorem dX0_keep_43 : decode cX0_keep 43 = .ok (.getfield 42, 3) := by decide +kernel
theorem dX0_keep_46 : decode cX0_keep 46 = .ok (.iload_n 1, 1) := by decide +kernel
theorem dX0_keep_47 : decode cX0_keep 47 = .ok (.invokevirtual 101, 3) := by decide +kernel
theorem dX0_keep_50 : decode cX0_keep 50 = .ok (.bastore, 1) := by decide +kernel
theorem dX0_keep_51 : decode cX0_keep 51 = .ok (.return_, 1) := by decide +kernel
set_option maxRecDepth 20000 in
theorem ggX0_armsOf_X5_has : GoodIn wsX0_armsOf wsX5_has := goodIn_r _ [7, 8, 20, 21, 22, 23, 24, 25, 26, 27, 28] (by decide +kernel) (by decide +kernel)
set_option maxRecDepth 20000 in
theorem gX0_armsOf_X5_has : GoodIn wsX0_armsOf (wsV RX0 73 RX5 yX5_has wsX5_has) := goodIn_app (goodIn_of _ (by decide +kernel)) ggX0_armsOf_X5_has
theorem dX0_armsOf_0 : decode cX0_armsOf 0 = .ok (.aload_n 0, 1) := by decide +kernel
theorem dX0_armsOf_1 : decode cX0_armsOf 1 = .ok (.getfield 42, 3) := by decide +kernel
theorem dX0_armsOf_4 : decode cX0_armsOf 4 = .ok (.iload_n 1, 1) := by decide +kernel
theorem dX0_armsOf_5 : decode cX0_armsOf 5 = .ok (.invokevirtual 73, 3) := by decide +kernel
theorem dX0_armsOf_8 : decode cX0_armsOf 8 = .ok (.ifCond .eq 12, 3) := by decide +kernel
theorem dX0_armsOf_11 : decode cX0_armsOf 11 = .ok (.aload_n 0, 1) := by decide +kernel
theorem dX0_armsOf_12 : decode cX0_armsOf 12 = .ok (.getfield 9, 3) := by decide +kernel
theorem dX0_armsOf_15 : decode cX0_armsOf 15 = .ok (.iload_n 1, 1) := by decide +kernel
theorem dX0_armsOf_16 : decode cX0_armsOf 16 = .ok (.iaload, 1) := by decide +kernel
theorem dX0_armsOf_17 : decode cX0_armsOf 17 = .ok (.goto 4, 3) := by decide +kernel
theorem dX0_armsOf_20 : decode cX0_armsOf 20 = .ok (.iconst (-1), 1) := by decide +kernel
theorem dX0_armsOf_21 : decode cX0_armsOf 21 = .ok (.ireturn, 1) := by decide +kernel
set_option maxRecDepth 20000 in
theorem ggX0_markCount_X5_has : GoodIn wsX0_markCount wsX5_has := goodIn_r _ [7, 8, 20, 21, 22, 23, 24, 25, 26, 27, 28] (by decide +kernel) (by decide +kernel)
set_option maxRecDepth 20000 in
theorem gX0_markCount_X5_has : GoodIn wsX0_markCount (wsV RX0 73 RX5 yX5_has wsX5_has) := goodIn_app (goodIn_of _ (by decide +kernel)) ggX0_markCount_X5_has
theorem dX0_markCount_0 : decode cX0_markCount 0 = .ok (.aload_n 0, 1) := by decide +kernel
theorem dX0_markCount_1 : decode cX0_markCount 1 = .ok (.getfield 42, 3) := by decide +kernel
theorem dX0_markCount_4 : decode cX0_markCount 4 = .ok (.iload_n 1, 1) := by decide +kernel
theorem dX0_markCount_5 : decode cX0_markCount 5 = .ok (.invokevirtual 73, 3) := by decide +kernel
theorem dX0_markCount_8 : decode cX0_markCount 8 = .ok (.ifCond .eq 12, 3) := by decide +kernel
theorem dX0_markCount_11 : decode cX0_markCount 11 = .ok (.aload_n 0, 1) := by decide +kernel
theorem dX0_markCount_12 : decode cX0_markCount 12 = .ok (.getfield 23, 3) := by decide +kernel
theorem dX0_markCount_15 : decode cX0_markCount 15 = .ok (.iload_n 1, 1) := by decide +kernel
theorem dX0_markCount_16 : decode cX0_markCount 16 = .ok (.iaload, 1) := by decide +kernel
theorem dX0_markCount_17 : decode cX0_markCount 17 = .ok (.goto 4, 3) := by decide +kernel
theorem dX0_markCount_20 : decode cX0_markCount 20 = .ok (.iconst 0, 1) := by decide +kernel
theorem dX0_markCount_21 : decode cX0_markCount 21 = .ok (.ireturn, 1) := by decide +kernel
set_option maxRecDepth 20000 in
theorem ggX0_markAt_X5_has : GoodIn wsX0_markAt wsX5_has := goodIn_r _ [7, 8, 20, 21, 22, 23, 24, 25, 26, 27, 28] (by decide +kernel) (by decide +kernel)
set_option maxRecDepth 20000 in
theorem gX0_markAt_X5_has : GoodIn wsX0_markAt (wsV RX0 73 RX5 yX5_has wsX5_has) := goodIn_app (goodIn_of _ (by decide +kernel)) ggX0_markAt_X5_has
theorem dX0_markAt_0 : decode cX0_markAt 0 = .ok (.aload_n 0, 1) := by decide +kernel
theorem dX0_markAt_1 : decode cX0_markAt 1 = .ok (.getfield 42, 3) := by decide +kernel
theorem dX0_markAt_4 : decode cX0_markAt 4 = .ok (.iload_n 1, 1) := by decide +kernel
theorem dX0_markAt_5 : decode cX0_markAt 5 = .ok (.invokevirtual 73, 3) := by decide +kernel
theorem dX0_markAt_8 : decode cX0_markAt 8 = .ok (.ifCond .eq 24, 3) := by decide +kernel
theorem dX0_markAt_11 : decode cX0_markAt 11 = .ok (.iload_n 2, 1) := by decide +kernel
theorem dX0_markAt_12 : decode cX0_markAt 12 = .ok (.ifCond .lt 20, 3) := by decide +kernel
theorem dX0_markAt_15 : decode cX0_markAt 15 = .ok (.iload_n 2, 1) := by decide +kernel
theorem dX0_markAt_16 : decode cX0_markAt 16 = .ok (.bipush 40, 2) := by decide +kernel
theorem dX0_markAt_18 : decode cX0_markAt 18 = .ok (.if_icmp .ge 14, 3) := by decide +kernel
theorem dX0_markAt_21 : decode cX0_markAt 21 = .ok (.aload_n 0, 1) := by decide +kernel
theorem dX0_markAt_22 : decode cX0_markAt 22 = .ok (.getfield 20, 3) := by decide +kernel
theorem dX0_markAt_25 : decode cX0_markAt 25 = .ok (.iload_n 1, 1) := by decide +kernel
theorem dX0_markAt_26 : decode cX0_markAt 26 = .ok (.aaload, 1) := by decide +kernel
theorem dX0_markAt_27 : decode cX0_markAt 27 = .ok (.iload_n 2, 1) := by decide +kernel
theorem dX0_markAt_28 : decode cX0_markAt 28 = .ok (.iaload, 1) := by decide +kernel
theorem dX0_markAt_29 : decode cX0_markAt 29 = .ok (.goto 4, 3) := by decide +kernel
theorem dX0_markAt_32 : decode cX0_markAt 32 = .ok (.iconst 0, 1) := by decide +kernel
theorem dX0_markAt_33 : decode cX0_markAt 33 = .ok (.ireturn, 1) := by decide +kernel
set_option maxRecDepth 20000 in
theorem ggX0_marksOf_X5_has : GoodIn wsX0_marksOf wsX5_has := goodIn_r _ [7, 8, 20, 21, 22, 23, 24, 25, 26, 27, 28] (by decide +kernel) (by decide +kernel)
set_option maxRecDepth 20000 in
theorem gX0_marksOf_X5_has : GoodIn wsX0_marksOf (wsV RX0 73 RX5 yX5_has wsX5_has) := goodIn_app (goodIn_of _ (by decide +kernel)) ggX0_marksOf_X5_has
theorem dX0_marksOf_0 : decode cX0_marksOf 0 = .ok (.aload_n 0, 1) := by decide +kernel
theorem dX0_marksOf_1 : decode cX0_marksOf 1 = .ok (.getfield 20, 3) := by decide +kernel
theorem dX0_marksOf_4 : decode cX0_marksOf 4 = .ok (.aload_n 0, 1) := by decide +kernel
theorem dX0_marksOf_5 : decode cX0_marksOf 5 = .ok (.getfield 42, 3) := by decide +kernel
theorem dX0_marksOf_8 : decode cX0_marksOf 8 = .ok (.iload_n 1, 1) := by decide +kernel
theorem dX0_marksOf_9 : decode cX0_marksOf 9 = .ok (.invokevirtual 73, 3) := by decide +kernel
theorem dX0_marksOf_12 : decode cX0_marksOf 12 = .ok (.ifCond .eq 7, 3) := by decide +kernel
theorem dX0_marksOf_15 : decode cX0_marksOf 15 = .ok (.iload_n 1, 1) := by decide +kernel
theorem dX0_marksOf_16 : decode cX0_marksOf 16 = .ok (.goto 4, 3) := by decide +kernel
theorem dX0_marksOf_19 : decode cX0_marksOf 19 = .ok (.iconst 0, 1) := by decide +kernel
theorem dX0_marksOf_20 : decode cX0_marksOf 20 = .ok (.aaload, 1) := by decide +kernel
theorem dX0_marksOf_21 : decode cX0_marksOf 21 = .ok (.areturn, 1) := by decide +kernel
set_option maxRecDepth 20000 in
theorem ggX0_bringsQuarters_X5_isLastOfLine : GoodIn wsX0_bringsQuarters wsX5_isLastOfLine := goodIn_ca (goodIn_r _ [7, 8, 9, 10, 11, 12, 13, 14, 6, 15, 16, 33, 34, 35, 36, 37, 38, 39, 40, 41] (by decide +kernel) (by decide +kernel)) (goodIn_sub (fun _ h => List.mem_cons_of_mem _ (List.mem_append_right _ h)) (by decide +kernel))
set_option maxRecDepth 20000 in
theorem gX0_bringsQuarters_X5_isLastOfLine : GoodIn wsX0_bringsQuarters (wsV RX0 107 RX5 yX5_isLastOfLine wsX5_isLastOfLine) := goodIn_app (goodIn_of _ (by decide +kernel)) ggX0_bringsQuarters_X5_isLastOfLine
set_option maxRecDepth 20000 in
theorem ggX0_bringsQuarters_X5_has : GoodIn wsX0_bringsQuarters wsX5_has := goodIn_r _ [15, 16, 33, 34, 35, 36, 37, 38, 39, 40, 41] (by decide +kernel) (by decide +kernel)
set_option maxRecDepth 20000 in
theorem gX0_bringsQuarters_X5_has : GoodIn wsX0_bringsQuarters (wsV RX0 73 RX5 yX5_has wsX5_has) := goodIn_app (goodIn_of _ (by decide +kernel)) ggX0_bringsQuarters_X5_has
set_option maxRecDepth 20000 in
theorem ggX0_bringsQuarters_X5_isAlive : GoodIn wsX0_bringsQuarters wsX5_isAlive := goodIn_ca (goodIn_r _ [21, 10, 12, 13, 14, 6, 15, 16, 33, 34, 35, 36, 37, 38, 39, 40, 41] (by decide +kernel) (by decide +kernel)) (goodIn_sub (fun _ h => List.mem_cons_of_mem _ (List.mem_append_right _ h)) (by decide +kernel))
set_option maxRecDepth 20000 in
theorem gX0_bringsQuarters_X5_isAlive : GoodIn wsX0_bringsQuarters (wsV RX0 63 RX5 yX5_isAlive wsX5_isAlive) := goodIn_app (goodIn_of _ (by decide +kernel)) ggX0_bringsQuarters_X5_isAlive
theorem dX0_bringsQuarters_0 : decode cX0_bringsQuarters 0 = .ok (.aload_n 0, 1) := by decide +kernel
theorem dX0_bringsQuarters_1 : decode cX0_bringsQuarters 1 = .ok (.getfield 42, 3) := by decide +kernel
theorem dX0_bringsQuarters_4 : decode cX0_bringsQuarters 4 = .ok (.iload_n 1, 1) := by decide +kernel
theorem dX0_bringsQuarters_5 : decode cX0_bringsQuarters 5 = .ok (.invokevirtual 107, 3) := by decide +kernel
theorem dX0_bringsQuarters_8 : decode cX0_bringsQuarters 8 = .ok (.ifCond .ne 34, 3) := by decide +kernel
theorem dX0_bringsQuarters_11 : decode cX0_bringsQuarters 11 = .ok (.aload_n 0, 1) := by decide +kernel
theorem dX0_bringsQuarters_12 : decode cX0_bringsQuarters 12 = .ok (.getfield 42, 3) := by decide +kernel
theorem dX0_bringsQuarters_15 : decode cX0_bringsQuarters 15 = .ok (.iload_n 1, 1) := by decide +kernel
theorem dX0_bringsQuarters_16 : decode cX0_bringsQuarters 16 = .ok (.invokevirtual 73, 3) := by decide +kernel
theorem dX0_bringsQuarters_19 : decode cX0_bringsQuarters 19 = .ok (.ifCond .eq 27, 3) := by decide +kernel
theorem dX0_bringsQuarters_22 : decode cX0_bringsQuarters 22 = .ok (.aload_n 0, 1) := by decide +kernel
theorem dX0_bringsQuarters_23 : decode cX0_bringsQuarters 23 = .ok (.getfield 42, 3) := by decide +kernel
theorem dX0_bringsQuarters_26 : decode cX0_bringsQuarters 26 = .ok (.iload_n 1, 1) := by decide +kernel
theorem dX0_bringsQuarters_27 : decode cX0_bringsQuarters 27 = .ok (.invokevirtual 63, 3) := by decide +kernel
theorem dX0_bringsQuarters_30 : decode cX0_bringsQuarters 30 = .ok (.ifCond .ne 16, 3) := by decide +kernel
theorem dX0_bringsQuarters_33 : decode cX0_bringsQuarters 33 = .ok (.aload_n 0, 1) := by decide +kernel
theorem dX0_bringsQuarters_34 : decode cX0_bringsQuarters 34 = .ok (.getfield 26, 3) := by decide +kernel
theorem dX0_bringsQuarters_37 : decode cX0_bringsQuarters 37 = .ok (.iload_n 1, 1) := by decide +kernel
theorem dX0_bringsQuarters_38 : decode cX0_bringsQuarters 38 = .ok (.baload, 1) := by decide +kernel
theorem dX0_bringsQuarters_39 : decode cX0_bringsQuarters 39 = .ok (.ifCond .eq 7, 3) := by decide +kernel
theorem dX0_bringsQuarters_42 : decode cX0_bringsQuarters 42 = .ok (.iconst 1, 1) := by decide +kernel
theorem dX0_bringsQuarters_43 : decode cX0_bringsQuarters 43 = .ok (.goto 4, 3) := by decide +kernel
theorem dX0_bringsQuarters_46 : decode cX0_bringsQuarters 46 = .ok (.iconst 0, 1) := by decide +kernel
theorem dX0_bringsQuarters_47 : decode cX0_bringsQuarters 47 = .ok (.ireturn, 1) := by decide +kernel
set_option maxRecDepth 20000 in
theorem ggX0_bearsAsHeir_X0_armsOf : GoodIn wsX0_bearsAsHeir wsX0_armsOf := goodIn_ca (goodIn_r _ [7, 1, 8, 9, 10, 11, 12, 13, 14, 36, 37, 38, 39, 40, 41, 42, 43, 44, 45, 46, 47, 48, 49, 50, 51, 52, 53, 54, 55] (by decide +kernel) (by decide +kernel)) (goodIn_sub (fun _ h => List.mem_cons_of_mem _ (List.mem_append_right _ h)) (by decide +kernel))
set_option maxRecDepth 20000 in
theorem gX0_bearsAsHeir_X0_armsOf : GoodIn wsX0_bearsAsHeir (wsV RX0 135 RX0 yX0_armsOf wsX0_armsOf) := goodIn_app (goodIn_of _ (by decide +kernel)) ggX0_bearsAsHeir_X0_armsOf
set_option maxRecDepth 20000 in
theorem ggX0_bearsAsHeir_X5_fatherOf : GoodIn wsX0_bearsAsHeir wsX5_fatherOf := goodIn_ca (goodIn_r _ [18, 19, 20, 10, 11, 12, 13, 14, 47, 48, 49, 50, 51, 52, 53, 54, 55] (by decide +kernel) (by decide +kernel)) (goodIn_sub (fun _ h => List.mem_cons_of_mem _ (List.mem_append_right _ h)) (by decide +kernel))
set_option maxRecDepth 20000 in
theorem gX0_bearsAsHeir_X5_fatherOf : GoodIn wsX0_bearsAsHeir (wsV RX0 83 RX5 yX5_fatherOf wsX5_fatherOf) := goodIn_app (goodIn_of _ (by decide +kernel)) ggX0_bearsAsHeir_X5_fatherOf
set_option maxRecDepth 20000 in
theorem ggX0_bearsAsHeir_X5_isHeir : GoodIn wsX0_bearsAsHeir wsX5_isHeir := goodIn_ca (goodIn_r _ [24, 25, 26, 19, 27, 20, 10, 11, 12, 13, 14, 28, 29, 30, 31, 47, 48, 49, 50, 51, 52, 53, 54, 55] (by decide +kernel) (by decide +kernel)) (goodIn_sub (fun _ h => List.mem_cons_of_mem _ (List.mem_append_right _ h)) (by decide +kernel))
set_option maxRecDepth 20000 in
theorem gX0_bearsAsHeir_X5_isHeir : GoodIn wsX0_bearsAsHeir (wsV RX0 101 RX5 yX5_isHeir wsX5_isHeir) := goodIn_app (goodIn_of _ (by decide +kernel)) ggX0_bearsAsHeir_X5_isHeir
set_option maxRecDepth 20000 in
theorem ggX0_bearsAsHeir_X5_has : GoodIn wsX0_bearsAsHeir wsX5_has := goodIn_r _ [13, 14, 47, 48, 49, 50, 51, 52, 53, 54, 55] (by decide +kernel) (by decide +kernel)
set_option maxRecDepth 20000 in
theorem gX0_bearsAsHeir_X5_has : GoodIn wsX0_bearsAsHeir (wsV RX0 73 RX5 yX5_has wsX5_has) := goodIn_app (goodIn_of _ (by decide +kernel)) ggX0_bearsAsHeir_X5_has
set_option maxRecDepth 20000 in
theorem ggX0_bearsAsHeir_X5_isAlive : GoodIn wsX0_bearsAsHeir wsX5_isAlive := goodIn_ca (goodIn_r _ [35, 26, 20, 10, 11, 12, 13, 14, 47, 48, 49, 50, 51, 52, 53, 54, 55] (by decide +kernel) (by decide +kernel)) (goodIn_sub (fun _ h => List.mem_cons_of_mem _ (List.mem_append_right _ h)) (by decide +kernel))
set_option maxRecDepth 20000 in
theorem gX0_bearsAsHeir_X5_isAlive : GoodIn wsX0_bearsAsHeir (wsV RX0 63 RX5 yX5_isAlive wsX5_isAlive) := goodIn_app (goodIn_of _ (by decide +kernel)) ggX0_bearsAsHeir_X5_isAlive
theorem dX0_bearsAsHeir_0 : decode cX0_bearsAsHeir 0 = .ok (.aload_n 0, 1) := by decide +kernel
theorem dX0_bearsAsHeir_1 : decode cX0_bearsAsHeir 1 = .ok (.iload_n 1, 1) := by decide +kernel
theorem dX0_bearsAsHeir_2 : decode cX0_bearsAsHeir 2 = .ok (.invokevirtual 135, 3) := by decide +kernel
theorem dX0_bearsAsHeir_5 : decode cX0_bearsAsHeir 5 = .ok (.istore_n 2, 1) := by decide +kernel
theorem dX0_bearsAsHeir_6 : decode cX0_bearsAsHeir 6 = .ok (.iload_n 2, 1) := by decide +kernel
theorem dX0_bearsAsHeir_7 : decode cX0_bearsAsHeir 7 = .ok (.ifCond .lt 19, 3) := by decide +kernel
theorem dX0_bearsAsHeir_10 : decode cX0_bearsAsHeir 10 = .ok (.iload_n 2, 1) := by decide +kernel
theorem dX0_bearsAsHeir_11 : decode cX0_bearsAsHeir 11 = .ok (.aload_n 0, 1) := by decide +kernel
theorem dX0_bearsAsHeir_12 : decode cX0_bearsAsHeir 12 = .ok (.aload_n 0, 1) := by decide +kernel
theorem dX0_bearsAsHeir_13 : decode cX0_bearsAsHeir 13 = .ok (.getfield 42, 3) := by decide +kernel
theorem dX0_bearsAsHeir_16 : decode cX0_bearsAsHeir 16 = .ok (.iload_n 1, 1) := by decide +kernel
theorem dX0_bearsAsHeir_17 : decode cX0_bearsAsHeir 17 = .ok (.invokevirtual 83, 3) := by decide +kernel
theorem dX0_bearsAsHeir_20 : decode cX0_bearsAsHeir 20 = .ok (.invokevirtual 135, 3) := by decide +kernel
theorem dX0_bearsAsHeir_23 : decode cX0_bearsAsHeir 23 = .ok (.if_icmp .eq 5, 3) := by decide +kernel
theorem dX0_bearsAsHeir_26 : decode cX0_bearsAsHeir 26 = .ok (.iconst 0, 1) := by decide +kernel
theorem dX0_bearsAsHeir_27 : decode cX0_bearsAsHeir 27 = .ok (.ireturn, 1) := by decide +kernel
theorem dX0_bearsAsHeir_28 : decode cX0_bearsAsHeir 28 = .ok (.aload_n 0, 1) := by decide +kernel
theorem dX0_bearsAsHeir_29 : decode cX0_bearsAsHeir 29 = .ok (.getfield 42, 3) := by decide +kernel
theorem dX0_bearsAsHeir_32 : decode cX0_bearsAsHeir 32 = .ok (.iload_n 1, 1) := by decide +kernel
theorem dX0_bearsAsHeir_33 : decode cX0_bearsAsHeir 33 = .ok (.invokevirtual 101, 3) := by decide +kernel
theorem dX0_bearsAsHeir_36 : decode cX0_bearsAsHeir 36 = .ok (.ifCond .ne 34, 3) := by decide +kernel
theorem dX0_bearsAsHeir_39 : decode cX0_bearsAsHeir 39 = .ok (.aload_n 0, 1) := by decide +kernel
theorem dX0_bearsAsHeir_40 : decode cX0_bearsAsHeir 40 = .ok (.getfield 42, 3) := by decide +kernel
theorem dX0_bearsAsHeir_43 : decode cX0_bearsAsHeir 43 = .ok (.iload_n 1, 1) := by decide +kernel
theorem dX0_bearsAsHeir_44 : decode cX0_bearsAsHeir 44 = .ok (.invokevirtual 73, 3) := by decide +kernel
theorem dX0_bearsAsHeir_47 : decode cX0_bearsAsHeir 47 = .ok (.ifCond .eq 27, 3) := by decide +kernel
theorem dX0_bearsAsHeir_50 : decode cX0_bearsAsHeir 50 = .ok (.aload_n 0, 1) := by decide +kernel
theorem dX0_bearsAsHeir_51 : decode cX0_bearsAsHeir 51 = .ok (.getfield 42, 3) := by decide +kernel
theorem dX0_bearsAsHeir_54 : decode cX0_bearsAsHeir 54 = .ok (.iload_n 1, 1) := by decide +kernel
theorem dX0_bearsAsHeir_55 : decode cX0_bearsAsHeir 55 = .ok (.invokevirtual 63, 3) := by decide +kernel
theorem dX0_bearsAsHeir_58 : decode cX0_bearsAsHeir 58 = .ok (.ifCond .ne 16, 3) := by decide +kernel
theorem dX0_bearsAsHeir_61 : decode cX0_bearsAsHeir 61 = .ok (.aload_n 0, 1) := by decide +kernel
theorem dX0_bearsAsHeir_62 : decode cX0_bearsAsHeir 62 = .ok (.getfield 30, 3) := by decide +kernel
theorem dX0_bearsAsHeir_65 : decode cX0_bearsAsHeir 65 = .ok (.iload_n 1, 1) := by decide +kernel
theorem dX0_bearsAsHeir_66 : decode cX0_bearsAsHeir 66 = .ok (.baload, 1) := by decide +kernel
theorem dX0_bearsAsHeir_67 : decode cX0_bearsAsHeir 67 = .ok (.ifCond .eq 7, 3) := by decide +kernel
theorem dX0_bearsAsHeir_70 : decode cX0_bearsAsHeir 70 = .ok (.iconst 1, 1) := by decide +kernel
theorem dX0_bearsAsHeir_71 : decode cX0_bearsAsHeir 71 = .ok (.goto 4, 3) := by decide +kernel
theorem dX0_bearsAsHeir_74 : decode cX0_bearsAsHeir 74 = .ok (.iconst 0, 1) := by decide +kernel
theorem dX0_bearsAsHeir_75 : decode cX0_bearsAsHeir 75 = .ok (.ireturn, 1) := by decide +kernel
theorem dX0_heiressCount_0 : decode cX0_heiressCount 0 = .ok (.iload_n 1, 1) := by decide +kernel
theorem dX0_heiressCount_1 : decode cX0_heiressCount 1 = .ok (.ifCond .lt 18, 3) := by decide +kernel
theorem dX0_heiressCount_4 : decode cX0_heiressCount 4 = .ok (.iload_n 1, 1) := by decide +kernel
theorem dX0_heiressCount_5 : decode cX0_heiressCount 5 = .ok (.bipush 24, 2) := by decide +kernel
theorem dX0_heiressCount_7 : decode cX0_heiressCount 7 = .ok (.if_icmp .ge 12, 3) := by decide +kernel
theorem dX0_heiressCount_10 : decode cX0_heiressCount 10 = .ok (.aload_n 0, 1) := by decide +kernel
theorem dX0_heiressCount_11 : decode cX0_heiressCount 11 = .ok (.getfield 36, 3) := by decide +kernel
theorem dX0_heiressCount_14 : decode cX0_heiressCount 14 = .ok (.iload_n 1, 1) := by decide +kernel
theorem dX0_heiressCount_15 : decode cX0_heiressCount 15 = .ok (.iaload, 1) := by decide +kernel
theorem dX0_heiressCount_16 : decode cX0_heiressCount 16 = .ok (.goto 4, 3) := by decide +kernel
theorem dX0_heiressCount_19 : decode cX0_heiressCount 19 = .ok (.iconst 0, 1) := by decide +kernel
theorem dX0_heiressCount_20 : decode cX0_heiressCount 20 = .ok (.ireturn, 1) := by decide +kernel
set_option maxRecDepth 20000 in
theorem ggX0_isLastHeiress_X5_isDaughterOf : GoodIn wsX0_isLastHeiress wsX5_isDaughterOf := goodIn_ca (goodIn_r _ [7, 8, 9, 10, 11, 12, 6, 13, 14, 31, 32, 33, 34, 35, 36, 37, 38, 39] (by decide +kernel) (by decide +kernel)) (goodIn_sub (fun _ h => List.mem_cons_of_mem _ (List.mem_append_right _ h)) (by decide +kernel))
set_option maxRecDepth 20000 in
theorem gX0_isLastHeiress_X5_isDaughterOf : GoodIn wsX0_isLastHeiress (wsV RX0 113 RX5 yX5_isDaughterOf wsX5_isDaughterOf) := goodIn_app (goodIn_of _ (by decide +kernel)) ggX0_isLastHeiress_X5_isDaughterOf
set_option maxRecDepth 20000 in
theorem ggX0_isLastHeiress_X5_isAlive : GoodIn wsX0_isLastHeiress wsX5_isAlive := goodIn_ca (goodIn_r _ [18, 19, 10, 11, 12, 6, 13, 14, 31, 32, 33, 34, 35, 36, 37, 38, 39] (by decide +kernel) (by decide +kernel)) (goodIn_sub (fun _ h => List.mem_cons_of_mem _ (List.mem_append_right _ h)) (by decide +kernel))
set_option maxRecDepth 20000 in
theorem gX0_isLastHeiress_X5_isAlive : GoodIn wsX0_isLastHeiress (wsV RX0 63 RX5 yX5_isAlive wsX5_isAlive) := goodIn_app (goodIn_of _ (by decide +kernel)) ggX0_isLastHeiress_X5_isAlive
theorem dX0_isLastHeiress_0 : decode cX0_isLastHeiress 0 = .ok (.iload_n 2, 1) := by decide +kernel
theorem dX0_isLastHeiress_1 : decode cX0_isLastHeiress 1 = .ok (.ifCond .lt 50, 3) := by decide +kernel
theorem dX0_isLastHeiress_4 : decode cX0_isLastHeiress 4 = .ok (.iload_n 2, 1) := by decide +kernel
theorem dX0_isLastHeiress_5 : decode cX0_isLastHeiress 5 = .ok (.bipush 24, 2) := by decide +kernel
theorem dX0_isLastHeiress_7 : decode cX0_isLastHeiress 7 = .ok (.if_icmp .ge 44, 3) := by decide +kernel
theorem dX0_isLastHeiress_10 : decode cX0_isLastHeiress 10 = .ok (.aload_n 0, 1) := by decide +kernel
theorem dX0_isLastHeiress_11 : decode cX0_isLastHeiress 11 = .ok (.getfield 33, 3) := by decide +kernel
theorem dX0_isLastHeiress_14 : decode cX0_isLastHeiress 14 = .ok (.iload_n 2, 1) := by decide +kernel
theorem dX0_isLastHeiress_15 : decode cX0_isLastHeiress 15 = .ok (.iaload, 1) := by decide +kernel
theorem dX0_isLastHeiress_16 : decode cX0_isLastHeiress 16 = .ok (.ifCond .lt 35, 3) := by decide +kernel
theorem dX0_isLastHeiress_19 : decode cX0_isLastHeiress 19 = .ok (.aload_n 0, 1) := by decide +kernel
theorem dX0_isLastHeiress_20 : decode cX0_isLastHeiress 20 = .ok (.getfield 42, 3) := by decide +kernel
theorem dX0_isLastHeiress_23 : decode cX0_isLastHeiress 23 = .ok (.iload_n 1, 1) := by decide +kernel
theorem dX0_isLastHeiress_24 : decode cX0_isLastHeiress 24 = .ok (.aload_n 0, 1) := by decide +kernel
theorem dX0_isLastHeiress_25 : decode cX0_isLastHeiress 25 = .ok (.getfield 33, 3) := by decide +kernel
theorem dX0_isLastHeiress_28 : decode cX0_isLastHeiress 28 = .ok (.iload_n 2, 1) := by decide +kernel
theorem dX0_isLastHeiress_29 : decode cX0_isLastHeiress 29 = .ok (.iaload, 1) := by decide +kernel
theorem dX0_isLastHeiress_30 : decode cX0_isLastHeiress 30 = .ok (.invokevirtual 113, 3) := by decide +kernel
theorem dX0_isLastHeiress_33 : decode cX0_isLastHeiress 33 = .ok (.ifCond .eq 18, 3) := by decide +kernel
theorem dX0_isLastHeiress_36 : decode cX0_isLastHeiress 36 = .ok (.aload_n 0, 1) := by decide +kernel
theorem dX0_isLastHeiress_37 : decode cX0_isLastHeiress 37 = .ok (.getfield 42, 3) := by decide +kernel
theorem dX0_isLastHeiress_40 : decode cX0_isLastHeiress 40 = .ok (.iload_n 1, 1) := by decide +kernel
theorem dX0_isLastHeiress_41 : decode cX0_isLastHeiress 41 = .ok (.invokevirtual 63, 3) := by decide +kernel
theorem dX0_isLastHeiress_44 : decode cX0_isLastHeiress 44 = .ok (.ifCond .eq 7, 3) := by decide +kernel
theorem dX0_isLastHeiress_47 : decode cX0_isLastHeiress 47 = .ok (.iconst 1, 1) := by decide +kernel
theorem dX0_isLastHeiress_48 : decode cX0_isLastHeiress 48 = .ok (.goto 4, 3) := by decide +kernel
theorem dX0_isLastHeiress_51 : decode cX0_isLastHeiress 51 = .ok (.iconst 0, 1) := by decide +kernel
theorem dX0_isLastHeiress_52 : decode cX0_isLastHeiress 52 = .ok (.ireturn, 1) := by decide +kernel
theorem dX0_liesBetween_0 : decode cX0_liesBetween 0 = .ok (.iload_n 1, 1) := by decide +kernel
theorem dX0_liesBetween_1 : decode cX0_liesBetween 1 = .ok (.ifCond .lt 32, 3) := by decide +kernel
theorem dX0_liesBetween_4 : decode cX0_liesBetween 4 = .ok (.iload_n 1, 1) := by decide +kernel
theorem dX0_liesBetween_5 : decode cX0_liesBetween 5 = .ok (.bipush 24, 2) := by decide +kernel
theorem dX0_liesBetween_7 : decode cX0_liesBetween 7 = .ok (.if_icmp .ge 26, 3) := by decide +kernel
theorem dX0_liesBetween_10 : decode cX0_liesBetween 10 = .ok (.aload_n 0, 1) := by decide +kernel
theorem dX0_liesBetween_11 : decode cX0_liesBetween 11 = .ok (.getfield 36, 3) := by decide +kernel
theorem dX0_liesBetween_14 : decode cX0_liesBetween 14 = .ok (.iload_n 1, 1) := by decide +kernel
theorem dX0_liesBetween_15 : decode cX0_liesBetween 15 = .ok (.iaload, 1) := by decide +kernel
theorem dX0_liesBetween_16 : decode cX0_liesBetween 16 = .ok (.iconst 1, 1) := by decide +kernel
theorem dX0_liesBetween_17 : decode cX0_liesBetween 17 = .ok (.if_icmp .le 16, 3) := by decide +kernel
theorem dX0_liesBetween_20 : decode cX0_liesBetween 20 = .ok (.aload_n 0, 1) := by decide +kernel
theorem dX0_liesBetween_21 : decode cX0_liesBetween 21 = .ok (.getfield 39, 3) := by decide +kernel
theorem dX0_liesBetween_24 : decode cX0_liesBetween 24 = .ok (.iload_n 1, 1) := by decide +kernel
theorem dX0_liesBetween_25 : decode cX0_liesBetween 25 = .ok (.iaload, 1) := by decide +kernel
theorem dX0_liesBetween_26 : decode cX0_liesBetween 26 = .ok (.ifCond .ge 7, 3) := by decide +kernel
theorem dX0_liesBetween_29 : decode cX0_liesBetween 29 = .ok (.iconst 1, 1) := by decide +kernel
theorem dX0_liesBetween_30 : decode cX0_liesBetween 30 = .ok (.goto 4, 3) := by decide +kernel
theorem dX0_liesBetween_33 : decode cX0_liesBetween 33 = .ok (.iconst 0, 1) := by decide +kernel
theorem dX0_liesBetween_34 : decode cX0_liesBetween 34 = .ok (.ireturn, 1) := by decide +kernel
set_option maxRecDepth 20000 in
theorem ggX0_abeyances_X0_liesBetween : GoodIn wsX0_abeyances wsX0_liesBetween := goodIn_ca (goodIn_r _ [7, 8, 9, 10, 11, 12, 13, 14, 15, 16, 17, 18, 19, 20] (by decide +kernel) (by decide +kernel)) (goodIn_sub (fun _ h => List.mem_cons_of_mem _ (List.mem_append_right _ h)) (by decide +kernel))
set_option maxRecDepth 20000 in
theorem gX0_abeyances_X0_liesBetween : GoodIn wsX0_abeyances (wsV RX0 138 RX0 yX0_liesBetween wsX0_liesBetween) := goodIn_app (goodIn_of _ (by decide +kernel)) ggX0_abeyances_X0_liesBetween
theorem dX0_abeyances_0 : decode cX0_abeyances 0 = .ok (.iconst 0, 1) := by decide +kernel
theorem dX0_abeyances_1 : decode cX0_abeyances 1 = .ok (.istore_n 1, 1) := by decide +kernel
theorem dX0_abeyances_2 : decode cX0_abeyances 2 = .ok (.iconst 0, 1) := by decide +kernel
theorem dX0_abeyances_3 : decode cX0_abeyances 3 = .ok (.istore_n 2, 1) := by decide +kernel
theorem dX0_abeyances_4 : decode cX0_abeyances 4 = .ok (.iload_n 2, 1) := by decide +kernel
theorem dX0_abeyances_5 : decode cX0_abeyances 5 = .ok (.aload_n 0, 1) := by decide +kernel
theorem dX0_abeyances_6 : decode cX0_abeyances 6 = .ok (.getfield 46, 3) := by decide +kernel
theorem dX0_abeyances_9 : decode cX0_abeyances 9 = .ok (.getfield 50, 3) := by decide +kernel
theorem dX0_abeyances_12 : decode cX0_abeyances 12 = .ok (.if_icmp .ge 20, 3) := by decide +kernel
theorem dX0_abeyances_15 : decode cX0_abeyances 15 = .ok (.aload_n 0, 1) := by decide +kernel
theorem dX0_abeyances_16 : decode cX0_abeyances 16 = .ok (.iload_n 2, 1) := by decide +kernel
theorem dX0_abeyances_17 : decode cX0_abeyances 17 = .ok (.invokevirtual 138, 3) := by decide +kernel
theorem dX0_abeyances_20 : decode cX0_abeyances 20 = .ok (.ifCond .eq 6, 3) := by decide +kernel
theorem dX0_abeyances_23 : decode cX0_abeyances 23 = .ok (.iinc 1 1, 3) := by decide +kernel
theorem dX0_abeyances_26 : decode cX0_abeyances 26 = .ok (.iinc 2 1, 3) := by decide +kernel
theorem dX0_abeyances_29 : decode cX0_abeyances 29 = .ok (.goto (-25), 3) := by decide +kernel
theorem dX0_abeyances_32 : decode cX0_abeyances 32 = .ok (.iload_n 1, 1) := by decide +kernel
theorem dX0_abeyances_33 : decode cX0_abeyances 33 = .ok (.ireturn, 1) := by decide +kernel
set_option maxRecDepth 20000 in
theorem ggX0_countBearers_X5_isAlive : GoodIn wsX0_countBearers wsX5_isAlive := goodIn_ca (goodIn_r _ [8, 9, 10, 11, 12, 7, 13, 14, 26, 27, 28, 29, 30, 31, 32, 33, 34] (by decide +kernel) (by decide +kernel)) (goodIn_sub (fun _ h => List.mem_cons_of_mem _ (List.mem_append_right _ h)) (by decide +kernel))
set_option maxRecDepth 20000 in
theorem gX0_countBearers_X5_isAlive : GoodIn wsX0_countBearers (wsV RX0 63 RX5 yX5_isAlive wsX5_isAlive) := goodIn_app (goodIn_of _ (by decide +kernel)) ggX0_countBearers_X5_isAlive
theorem dX0_countBearers_0 : decode cX0_countBearers 0 = .ok (.iconst 0, 1) := by decide +kernel
theorem dX0_countBearers_1 : decode cX0_countBearers 1 = .ok (.istore_n 2, 1) := by decide +kernel
theorem dX0_countBearers_2 : decode cX0_countBearers 2 = .ok (.iconst 0, 1) := by decide +kernel
theorem dX0_countBearers_3 : decode cX0_countBearers 3 = .ok (.istore_n 3, 1) := by decide +kernel
theorem dX0_countBearers_4 : decode cX0_countBearers 4 = .ok (.iload_n 3, 1) := by decide +kernel
theorem dX0_countBearers_5 : decode cX0_countBearers 5 = .ok (.aload_n 0, 1) := by decide +kernel
theorem dX0_countBearers_6 : decode cX0_countBearers 6 = .ok (.getfield 42, 3) := by decide +kernel
theorem dX0_countBearers_9 : decode cX0_countBearers 9 = .ok (.getfield 60, 3) := by decide +kernel
theorem dX0_countBearers_12 : decode cX0_countBearers 12 = .ok (.if_icmp .ge 39, 3) := by decide +kernel
theorem dX0_countBearers_15 : decode cX0_countBearers 15 = .ok (.iload_n 3, 1) := by decide +kernel
theorem dX0_countBearers_16 : decode cX0_countBearers 16 = .ok (.bipush 40, 2) := by decide +kernel
theorem dX0_countBearers_18 : decode cX0_countBearers 18 = .ok (.if_icmp .ge 33, 3) := by decide +kernel
theorem dX0_countBearers_21 : decode cX0_countBearers 21 = .ok (.aload_n 0, 1) := by decide +kernel
theorem dX0_countBearers_22 : decode cX0_countBearers 22 = .ok (.getfield 9, 3) := by decide +kernel
theorem dX0_countBearers_25 : decode cX0_countBearers 25 = .ok (.iload_n 3, 1) := by decide +kernel
theorem dX0_countBearers_26 : decode cX0_countBearers 26 = .ok (.iaload, 1) := by decide +kernel
theorem dX0_countBearers_27 : decode cX0_countBearers 27 = .ok (.iload_n 1, 1) := by decide +kernel
theorem dX0_countBearers_28 : decode cX0_countBearers 28 = .ok (.if_icmp .ne 17, 3) := by decide +kernel
theorem dX0_countBearers_31 : decode cX0_countBearers 31 = .ok (.aload_n 0, 1) := by decide +kernel
theorem dX0_countBearers_32 : decode cX0_countBearers 32 = .ok (.getfield 42, 3) := by decide +kernel
theorem dX0_countBearers_35 : decode cX0_countBearers 35 = .ok (.iload_n 3, 1) := by decide +kernel
theorem dX0_countBearers_36 : decode cX0_countBearers 36 = .ok (.invokevirtual 63, 3) := by decide +kernel
theorem dX0_countBearers_39 : decode cX0_countBearers 39 = .ok (.ifCond .eq 6, 3) := by decide +kernel
theorem dX0_countBearers_42 : decode cX0_countBearers 42 = .ok (.iinc 2 1, 3) := by decide +kernel
theorem dX0_countBearers_45 : decode cX0_countBearers 45 = .ok (.iinc 3 1, 3) := by decide +kernel
theorem dX0_countBearers_48 : decode cX0_countBearers 48 = .ok (.goto (-44), 3) := by decide +kernel
theorem dX0_countBearers_51 : decode cX0_countBearers 51 = .ok (.iload_n 2, 1) := by decide +kernel
theorem dX0_countBearers_52 : decode cX0_countBearers 52 = .ok (.ireturn, 1) := by decide +kernel
set_option maxRecDepth 20000 in
theorem ggX0_countArmigers_X5_isAlive : GoodIn wsX0_countArmigers wsX5_isAlive := goodIn_ca (goodIn_r _ [8, 9, 10, 11, 12, 7, 13, 14, 26, 27, 28, 29, 30, 31, 32, 33, 34] (by decide +kernel) (by decide +kernel)) (goodIn_sub (fun _ h => List.mem_cons_of_mem _ (List.mem_append_right _ h)) (by decide +kernel))
set_option maxRecDepth 20000 in
theorem gX0_countArmigers_X5_isAlive : GoodIn wsX0_countArmigers (wsV RX0 63 RX5 yX5_isAlive wsX5_isAlive) := goodIn_app (goodIn_of _ (by decide +kernel)) ggX0_countArmigers_X5_isAlive
theorem dX0_countArmigers_0 : decode cX0_countArmigers 0 = .ok (.iconst 0, 1) := by decide +kernel
theorem dX0_countArmigers_1 : decode cX0_countArmigers 1 = .ok (.istore_n 1, 1) := by decide +kernel
theorem dX0_countArmigers_2 : decode cX0_countArmigers 2 = .ok (.iconst 0, 1) := by decide +kernel
theorem dX0_countArmigers_3 : decode cX0_countArmigers 3 = .ok (.istore_n 2, 1) := by decide +kernel
theorem dX0_countArmigers_4 : decode cX0_countArmigers 4 = .ok (.iload_n 2, 1) := by decide +kernel
theorem dX0_countArmigers_5 : decode cX0_countArmigers 5 = .ok (.aload_n 0, 1) := by decide +kernel
theorem dX0_countArmigers_6 : decode cX0_countArmigers 6 = .ok (.getfield 42, 3) := by decide +kernel
theorem dX0_countArmigers_9 : decode cX0_countArmigers 9 = .ok (.getfield 60, 3) := by decide +kernel
theorem dX0_countArmigers_12 : decode cX0_countArmigers 12 = .ok (.if_icmp .ge 38, 3) := by decide +kernel
theorem dX0_countArmigers_15 : decode cX0_countArmigers 15 = .ok (.iload_n 2, 1) := by decide +kernel
theorem dX0_countArmigers_16 : decode cX0_countArmigers 16 = .ok (.bipush 40, 2) := by decide +kernel
theorem dX0_countArmigers_18 : decode cX0_countArmigers 18 = .ok (.if_icmp .ge 32, 3) := by decide +kernel
theorem dX0_countArmigers_21 : decode cX0_countArmigers 21 = .ok (.aload_n 0, 1) := by decide +kernel
theorem dX0_countArmigers_22 : decode cX0_countArmigers 22 = .ok (.getfield 9, 3) := by decide +kernel
theorem dX0_countArmigers_25 : decode cX0_countArmigers 25 = .ok (.iload_n 2, 1) := by decide +kernel
theorem dX0_countArmigers_26 : decode cX0_countArmigers 26 = .ok (.iaload, 1) := by decide +kernel
theorem dX0_countArmigers_27 : decode cX0_countArmigers 27 = .ok (.ifCond .lt 17, 3) := by decide +kernel
theorem dX0_countArmigers_30 : decode cX0_countArmigers 30 = .ok (.aload_n 0, 1) := by decide +kernel
theorem dX0_countArmigers_31 : decode cX0_countArmigers 31 = .ok (.getfield 42, 3) := by decide +kernel
theorem dX0_countArmigers_34 : decode cX0_countArmigers 34 = .ok (.iload_n 2, 1) := by decide +kernel
theorem dX0_countArmigers_35 : decode cX0_countArmigers 35 = .ok (.invokevirtual 63, 3) := by decide +kernel
theorem dX0_countArmigers_38 : decode cX0_countArmigers 38 = .ok (.ifCond .eq 6, 3) := by decide +kernel
theorem dX0_countArmigers_41 : decode cX0_countArmigers 41 = .ok (.iinc 1 1, 3) := by decide +kernel
theorem dX0_countArmigers_44 : decode cX0_countArmigers 44 = .ok (.iinc 2 1, 3) := by decide +kernel
theorem dX0_countArmigers_47 : decode cX0_countArmigers 47 = .ok (.goto (-43), 3) := by decide +kernel
theorem dX0_countArmigers_50 : decode cX0_countArmigers 50 = .ok (.iload_n 1, 1) := by decide +kernel
theorem dX0_countArmigers_51 : decode cX0_countArmigers 51 = .ok (.ireturn, 1) := by decide +kernel
set_option maxRecDepth 20000 in
theorem ggX0_isBorneByOther_X5_isAlive : GoodIn wsX0_isBorneByOther wsX5_isAlive := goodIn_ca (goodIn_r _ [8, 9, 10, 11, 12, 7, 13, 14, 26, 27, 28, 29, 30, 31, 32, 33, 34] (by decide +kernel) (by decide +kernel)) (goodIn_sub (fun _ h => List.mem_cons_of_mem _ (List.mem_append_right _ h)) (by decide +kernel))
set_option maxRecDepth 20000 in
theorem gX0_isBorneByOther_X5_isAlive : GoodIn wsX0_isBorneByOther (wsV RX0 63 RX5 yX5_isAlive wsX5_isAlive) := goodIn_app (goodIn_of _ (by decide +kernel)) ggX0_isBorneByOther_X5_isAlive
theorem dX0_isBorneByOther_0 : decode cX0_isBorneByOther 0 = .ok (.iconst 0, 1) := by decide +kernel
theorem dX0_isBorneByOther_1 : decode cX0_isBorneByOther 1 = .ok (.istore_n 3, 1) := by decide +kernel
theorem dX0_isBorneByOther_2 : decode cX0_isBorneByOther 2 = .ok (.iload_n 3, 1) := by decide +kernel
theorem dX0_isBorneByOther_3 : decode cX0_isBorneByOther 3 = .ok (.aload_n 0, 1) := by decide +kernel
theorem dX0_isBorneByOther_4 : decode cX0_isBorneByOther 4 = .ok (.getfield 42, 3) := by decide +kernel
theorem dX0_isBorneByOther_7 : decode cX0_isBorneByOther 7 = .ok (.getfield 60, 3) := by decide +kernel
theorem dX0_isBorneByOther_10 : decode cX0_isBorneByOther 10 = .ok (.if_icmp .ge 43, 3) := by decide +kernel
theorem dX0_isBorneByOther_13 : decode cX0_isBorneByOther 13 = .ok (.iload_n 3, 1) := by decide +kernel
theorem dX0_isBorneByOther_14 : decode cX0_isBorneByOther 14 = .ok (.bipush 40, 2) := by decide +kernel
theorem dX0_isBorneByOther_16 : decode cX0_isBorneByOther 16 = .ok (.if_icmp .ge 37, 3) := by decide +kernel
theorem dX0_isBorneByOther_19 : decode cX0_isBorneByOther 19 = .ok (.iload_n 3, 1) := by decide +kernel
theorem dX0_isBorneByOther_20 : decode cX0_isBorneByOther 20 = .ok (.iload_n 2, 1) := by decide +kernel
theorem dX0_isBorneByOther_21 : decode cX0_isBorneByOther 21 = .ok (.if_icmp .eq 26, 3) := by decide +kernel
theorem dX0_isBorneByOther_24 : decode cX0_isBorneByOther 24 = .ok (.aload_n 0, 1) := by decide +kernel
theorem dX0_isBorneByOther_25 : decode cX0_isBorneByOther 25 = .ok (.getfield 9, 3) := by decide +kernel
theorem dX0_isBorneByOther_28 : decode cX0_isBorneByOther 28 = .ok (.iload_n 3, 1) := by decide +kernel
theorem dX0_isBorneByOther_29 : decode cX0_isBorneByOther 29 = .ok (.iaload, 1) := by decide +kernel
theorem dX0_isBorneByOther_30 : decode cX0_isBorneByOther 30 = .ok (.iload_n 1, 1) := by decide +kernel
theorem dX0_isBorneByOther_31 : decode cX0_isBorneByOther 31 = .ok (.if_icmp .ne 16, 3) := by decide +kernel
theorem dX0_isBorneByOther_34 : decode cX0_isBorneByOther 34 = .ok (.aload_n 0, 1) := by decide +kernel
theorem dX0_isBorneByOther_35 : decode cX0_isBorneByOther 35 = .ok (.getfield 42, 3) := by decide +kernel
theorem dX0_isBorneByOther_38 : decode cX0_isBorneByOther 38 = .ok (.iload_n 3, 1) := by decide +kernel
theorem dX0_isBorneByOther_39 : decode cX0_isBorneByOther 39 = .ok (.invokevirtual 63, 3) := by decide +kernel
theorem dX0_isBorneByOther_42 : decode cX0_isBorneByOther 42 = .ok (.ifCond .eq 5, 3) := by decide +kernel
theorem dX0_isBorneByOther_45 : decode cX0_isBorneByOther 45 = .ok (.iconst 1, 1) := by decide +kernel
theorem dX0_isBorneByOther_46 : decode cX0_isBorneByOther 46 = .ok (.ireturn, 1) := by decide +kernel
theorem dX0_isBorneByOther_47 : decode cX0_isBorneByOther 47 = .ok (.iinc 3 1, 3) := by decide +kernel
theorem dX0_isBorneByOther_50 : decode cX0_isBorneByOther 50 = .ok (.goto (-48), 3) := by decide +kernel
theorem dX0_isBorneByOther_53 : decode cX0_isBorneByOther 53 = .ok (.iconst 0, 1) := by decide +kernel
theorem dX0_isBorneByOther_54 : decode cX0_isBorneByOther 54 = .ok (.ireturn, 1) := by decide +kernel
set_option maxRecDepth 20000 in
theorem ggX0_isBorneByThree_X9_firstBearer : GoodIn wsX0_isBorneByThree wsX9_firstBearer := goodIn_ca (goodIn_r _ [9, 10, 11, 12, 13, 8, 14, 15, 57, 58, 59, 60, 61, 62, 63, 64, 65, 66, 67, 68] (by decide +kernel) (by decide +kernel)) (goodIn_sub (fun _ h => List.mem_cons_of_mem _ (List.mem_append_right _ h)) (by decide +kernel))
set_option maxRecDepth 20000 in
theorem gX0_isBorneByThree_X9_firstBearer : GoodIn wsX0_isBorneByThree (wsV RX0 120 RX9 yX9_firstBearer wsX9_firstBearer) := goodIn_app (goodIn_of _ (by decide +kernel)) ggX0_isBorneByThree_X9_firstBearer
set_option maxRecDepth 20000 in
theorem ggX0_isBorneByThree_X5_has : GoodIn wsX0_isBorneByThree wsX5_has := goodIn_r _ [20, 21, 48, 49, 50, 51, 52, 53, 54, 55, 56] (by decide +kernel) (by decide +kernel)
set_option maxRecDepth 20000 in
theorem gX0_isBorneByThree_X5_has : GoodIn wsX0_isBorneByThree (wsV RX0 73 RX5 yX5_has wsX5_has) := goodIn_app (goodIn_of _ (by decide +kernel)) ggX0_isBorneByThree_X5_has
set_option maxRecDepth 20000 in
theorem ggX0_isBorneByThree_X5_fatherOf : GoodIn wsX0_isBorneByThree wsX5_fatherOf := goodIn_ca (goodIn_r _ [25, 26, 27, 17, 18, 19, 20, 21, 48, 49, 50, 51, 52, 53, 54, 55, 56] (by decide +kernel) (by decide +kernel)) (goodIn_sub (fun _ h => List.mem_cons_of_mem _ (List.mem_append_right _ h)) (by decide +kernel))
set_option maxRecDepth 20000 in
theorem gX0_isBorneByThree_X5_fatherOf : GoodIn wsX0_isBorneByThree (wsV RX0 83 RX5 yX5_fatherOf wsX5_fatherOf) := goodIn_app (goodIn_of _ (by decide +kernel)) ggX0_isBorneByThree_X5_fatherOf
set_option maxRecDepth 20000 in
theorem ggX0_isBorneByThree_X5_isMan : GoodIn wsX0_isBorneByThree wsX5_isMan := goodIn_ca (goodIn_r _ [31, 32, 27, 17, 18, 19, 20, 21, 48, 49, 50, 51, 52, 53, 54, 55, 56] (by decide +kernel) (by decide +kernel)) (goodIn_sub (fun _ h => List.mem_cons_of_mem _ (List.mem_append_right _ h)) (by decide +kernel))
set_option maxRecDepth 20000 in
theorem gX0_isBorneByThree_X5_isMan : GoodIn wsX0_isBorneByThree (wsV RX0 98 RX5 yX5_isMan wsX5_isMan) := goodIn_app (goodIn_of _ (by decide +kernel)) ggX0_isBorneByThree_X5_isMan
set_option maxRecDepth 20000 in
theorem ggX0_isBorneByThree_X5_isSonOf : GoodIn wsX0_isBorneByThree wsX5_isSonOf := goodIn_ca (goodIn_r _ [36, 32, 26, 27, 17, 18, 19, 20, 21, 48, 49, 50, 51, 52, 53, 54, 55, 56] (by decide +kernel) (by decide +kernel)) (goodIn_sub (fun _ h => List.mem_cons_of_mem _ (List.mem_append_right _ h)) (by decide +kernel))
set_option maxRecDepth 20000 in
theorem gX0_isBorneByThree_X5_isSonOf : GoodIn wsX0_isBorneByThree (wsV RX0 141 RX5 yX5_isSonOf wsX5_isSonOf) := goodIn_app (goodIn_of _ (by decide +kernel)) ggX0_isBorneByThree_X5_isSonOf
theorem dX0_isBorneByThree_0 : decode cX0_isBorneByThree 0 = .ok (.aload_n 0, 1) := by decide +kernel
theorem dX0_isBorneByThree_1 : decode cX0_isBorneByThree 1 = .ok (.getfield 46, 3) := by decide +kernel
theorem dX0_isBorneByThree_4 : decode cX0_isBorneByThree 4 = .ok (.iload_n 1, 1) := by decide +kernel
theorem dX0_isBorneByThree_5 : decode cX0_isBorneByThree 5 = .ok (.invokevirtual 120, 3) := by decide +kernel
theorem dX0_isBorneByThree_8 : decode cX0_isBorneByThree 8 = .ok (.istore_n 2, 1) := by decide +kernel
theorem dX0_isBorneByThree_9 : decode cX0_isBorneByThree 9 = .ok (.aload_n 0, 1) := by decide +kernel
theorem dX0_isBorneByThree_10 : decode cX0_isBorneByThree 10 = .ok (.getfield 42, 3) := by decide +kernel
theorem dX0_isBorneByThree_13 : decode cX0_isBorneByThree 13 = .ok (.iload_n 2, 1) := by decide +kernel
theorem dX0_isBorneByThree_14 : decode cX0_isBorneByThree 14 = .ok (.invokevirtual 73, 3) := by decide +kernel
theorem dX0_isBorneByThree_17 : decode cX0_isBorneByThree 17 = .ok (.ifCond .eq 13, 3) := by decide +kernel
theorem dX0_isBorneByThree_20 : decode cX0_isBorneByThree 20 = .ok (.aload_n 0, 1) := by decide +kernel
theorem dX0_isBorneByThree_21 : decode cX0_isBorneByThree 21 = .ok (.getfield 9, 3) := by decide +kernel
theorem dX0_isBorneByThree_24 : decode cX0_isBorneByThree 24 = .ok (.iload_n 2, 1) := by decide +kernel
theorem dX0_isBorneByThree_25 : decode cX0_isBorneByThree 25 = .ok (.iaload, 1) := by decide +kernel
theorem dX0_isBorneByThree_26 : decode cX0_isBorneByThree 26 = .ok (.iload_n 1, 1) := by decide +kernel
theorem dX0_isBorneByThree_27 : decode cX0_isBorneByThree 27 = .ok (.if_icmp .eq 5, 3) := by decide +kernel
theorem dX0_isBorneByThree_30 : decode cX0_isBorneByThree 30 = .ok (.iconst 0, 1) := by decide +kernel
theorem dX0_isBorneByThree_31 : decode cX0_isBorneByThree 31 = .ok (.ireturn, 1) := by decide +kernel
theorem dX0_isBorneByThree_32 : decode cX0_isBorneByThree 32 = .ok (.iload_n 2, 1) := by decide +kernel
theorem dX0_isBorneByThree_33 : decode cX0_isBorneByThree 33 = .ok (.istore_n 3, 1) := by decide +kernel
theorem dX0_isBorneByThree_34 : decode cX0_isBorneByThree 34 = .ok (.iload_n 3, 1) := by decide +kernel
theorem dX0_isBorneByThree_35 : decode cX0_isBorneByThree 35 = .ok (.aload_n 0, 1) := by decide +kernel
theorem dX0_isBorneByThree_36 : decode cX0_isBorneByThree 36 = .ok (.getfield 42, 3) := by decide +kernel
theorem dX0_isBorneByThree_39 : decode cX0_isBorneByThree 39 = .ok (.getfield 60, 3) := by decide +kernel
theorem dX0_isBorneByThree_42 : decode cX0_isBorneByThree 42 = .ok (.if_icmp .ge 72, 3) := by decide +kernel
theorem dX0_isBorneByThree_45 : decode cX0_isBorneByThree 45 = .ok (.iload_n 3, 1) := by decide +kernel
theorem dX0_isBorneByThree_46 : decode cX0_isBorneByThree 46 = .ok (.bipush 40, 2) := by decide +kernel
theorem dX0_isBorneByThree_48 : decode cX0_isBorneByThree 48 = .ok (.if_icmp .ge 66, 3) := by decide +kernel
theorem dX0_isBorneByThree_51 : decode cX0_isBorneByThree 51 = .ok (.aload_n 0, 1) := by decide +kernel
theorem dX0_isBorneByThree_52 : decode cX0_isBorneByThree 52 = .ok (.getfield 42, 3) := by decide +kernel
theorem dX0_isBorneByThree_55 : decode cX0_isBorneByThree 55 = .ok (.iload_n 3, 1) := by decide +kernel
theorem dX0_isBorneByThree_56 : decode cX0_isBorneByThree 56 = .ok (.invokevirtual 83, 3) := by decide +kernel
theorem dX0_isBorneByThree_59 : decode cX0_isBorneByThree 59 = .ok (.istore 4, 2) := by decide +kernel
theorem dX0_isBorneByThree_61 : decode cX0_isBorneByThree 61 = .ok (.aload_n 0, 1) := by decide +kernel
theorem dX0_isBorneByThree_62 : decode cX0_isBorneByThree 62 = .ok (.getfield 9, 3) := by decide +kernel
theorem dX0_isBorneByThree_65 : decode cX0_isBorneByThree 65 = .ok (.iload_n 3, 1) := by decide +kernel
theorem dX0_isBorneByThree_66 : decode cX0_isBorneByThree 66 = .ok (.iaload, 1) := by decide +kernel
theorem dX0_isBorneByThree_67 : decode cX0_isBorneByThree 67 = .ok (.iload_n 1, 1) := by decide +kernel
theorem dX0_isBorneByThree_68 : decode cX0_isBorneByThree 68 = .ok (.if_icmp .ne 40, 3) := by decide +kernel
theorem dX0_isBorneByThree_71 : decode cX0_isBorneByThree 71 = .ok (.aload_n 0, 1) := by decide +kernel
theorem dX0_isBorneByThree_72 : decode cX0_isBorneByThree 72 = .ok (.getfield 42, 3) := by decide +kernel
theorem dX0_isBorneByThree_75 : decode cX0_isBorneByThree 75 = .ok (.iload_n 3, 1) := by decide +kernel
theorem dX0_isBorneByThree_76 : decode cX0_isBorneByThree 76 = .ok (.invokevirtual 98, 3) := by decide +kernel
theorem dX0_isBorneByThree_79 : decode cX0_isBorneByThree 79 = .ok (.ifCond .eq 29, 3) := by decide +kernel
theorem dX0_isBorneByThree_82 : decode cX0_isBorneByThree 82 = .ok (.aload_n 0, 1) := by decide +kernel
theorem dX0_isBorneByThree_83 : decode cX0_isBorneByThree 83 = .ok (.getfield 42, 3) := by decide +kernel
theorem dX0_isBorneByThree_86 : decode cX0_isBorneByThree 86 = .ok (.iload 4, 2) := by decide +kernel
theorem dX0_isBorneByThree_88 : decode cX0_isBorneByThree 88 = .ok (.iload_n 2, 1) := by decide +kernel
theorem dX0_isBorneByThree_89 : decode cX0_isBorneByThree 89 = .ok (.invokevirtual 141, 3) := by decide +kernel
theorem dX0_isBorneByThree_92 : decode cX0_isBorneByThree 92 = .ok (.ifCond .eq 16, 3) := by decide +kernel
theorem dX0_isBorneByThree_95 : decode cX0_isBorneByThree 95 = .ok (.aload_n 0, 1) := by decide +kernel
theorem dX0_isBorneByThree_96 : decode cX0_isBorneByThree 96 = .ok (.getfield 9, 3) := by decide +kernel
theorem dX0_isBorneByThree_99 : decode cX0_isBorneByThree 99 = .ok (.iload 4, 2) := by decide +kernel
theorem dX0_isBorneByThree_101 : decode cX0_isBorneByThree 101 = .ok (.iaload, 1) := by decide +kernel
theorem dX0_isBorneByThree_102 : decode cX0_isBorneByThree 102 = .ok (.iload_n 1, 1) := by decide +kernel
theorem dX0_isBorneByThree_103 : decode cX0_isBorneByThree 103 = .ok (.if_icmp .ne 5, 3) := by decide +kernel
theorem dX0_isBorneByThree_106 : decode cX0_isBorneByThree 106 = .ok (.iconst 1, 1) := by decide +kernel
theorem dX0_isBorneByThree_107 : decode cX0_isBorneByThree 107 = .ok (.ireturn, 1) := by decide +kernel
theorem dX0_isBorneByThree_108 : decode cX0_isBorneByThree 108 = .ok (.iinc 3 1, 3) := by decide +kernel
theorem dX0_isBorneByThree_111 : decode cX0_isBorneByThree 111 = .ok (.goto (-77), 3) := by decide +kernel
theorem dX0_isBorneByThree_114 : decode cX0_isBorneByThree 114 = .ok (.iconst 0, 1) := by decide +kernel
theorem dX0_isBorneByThree_115 : decode cX0_isBorneByThree 115 = .ok (.ireturn, 1) := by decide +kernel
set_option maxRecDepth 20000 in
theorem ggX0_areVoidUnborne_X9_isVoid : GoodIn wsX0_areVoidUnborne wsX9_isVoid := goodIn_ca (goodIn_r _ [9, 10, 11, 12, 13, 8, 14, 15, 36, 37, 38, 39, 40, 41, 42, 43, 44, 45, 46, 47] (by decide +kernel) (by decide +kernel)) (goodIn_sub (fun _ h => List.mem_cons_of_mem _ (List.mem_append_right _ h)) (by decide +kernel))
set_option maxRecDepth 20000 in
theorem gX0_areVoidUnborne_X9_isVoid : GoodIn wsX0_areVoidUnborne (wsV RX0 70 RX9 yX9_isVoid wsX9_isVoid) := goodIn_app (goodIn_of _ (by decide +kernel)) ggX0_areVoidUnborne_X9_isVoid
theorem dX0_areVoidUnborne_0 : decode cX0_areVoidUnborne 0 = .ok (.iconst 0, 1) := by decide +kernel
theorem dX0_areVoidUnborne_1 : decode cX0_areVoidUnborne 1 = .ok (.istore_n 1, 1) := by decide +kernel
theorem dX0_areVoidUnborne_2 : decode cX0_areVoidUnborne 2 = .ok (.iload_n 1, 1) := by decide +kernel
theorem dX0_areVoidUnborne_3 : decode cX0_areVoidUnborne 3 = .ok (.aload_n 0, 1) := by decide +kernel
theorem dX0_areVoidUnborne_4 : decode cX0_areVoidUnborne 4 = .ok (.getfield 42, 3) := by decide +kernel
theorem dX0_areVoidUnborne_7 : decode cX0_areVoidUnborne 7 = .ok (.getfield 60, 3) := by decide +kernel
theorem dX0_areVoidUnborne_10 : decode cX0_areVoidUnborne 10 = .ok (.if_icmp .ge 42, 3) := by decide +kernel
theorem dX0_areVoidUnborne_13 : decode cX0_areVoidUnborne 13 = .ok (.iload_n 1, 1) := by decide +kernel
theorem dX0_areVoidUnborne_14 : decode cX0_areVoidUnborne 14 = .ok (.bipush 40, 2) := by decide +kernel
theorem dX0_areVoidUnborne_16 : decode cX0_areVoidUnborne 16 = .ok (.if_icmp .ge 36, 3) := by decide +kernel
theorem dX0_areVoidUnborne_19 : decode cX0_areVoidUnborne 19 = .ok (.aload_n 0, 1) := by decide +kernel
theorem dX0_areVoidUnborne_20 : decode cX0_areVoidUnborne 20 = .ok (.getfield 9, 3) := by decide +kernel
theorem dX0_areVoidUnborne_23 : decode cX0_areVoidUnborne 23 = .ok (.iload_n 1, 1) := by decide +kernel
theorem dX0_areVoidUnborne_24 : decode cX0_areVoidUnborne 24 = .ok (.iaload, 1) := by decide +kernel
theorem dX0_areVoidUnborne_25 : decode cX0_areVoidUnborne 25 = .ok (.ifCond .lt 21, 3) := by decide +kernel
theorem dX0_areVoidUnborne_28 : decode cX0_areVoidUnborne 28 = .ok (.aload_n 0, 1) := by decide +kernel
theorem dX0_areVoidUnborne_29 : decode cX0_areVoidUnborne 29 = .ok (.getfield 46, 3) := by decide +kernel
theorem dX0_areVoidUnborne_32 : decode cX0_areVoidUnborne 32 = .ok (.aload_n 0, 1) := by decide +kernel
theorem dX0_areVoidUnborne_33 : decode cX0_areVoidUnborne 33 = .ok (.getfield 9, 3) := by decide +kernel
theorem dX0_areVoidUnborne_36 : decode cX0_areVoidUnborne 36 = .ok (.iload_n 1, 1) := by decide +kernel
theorem dX0_areVoidUnborne_37 : decode cX0_areVoidUnborne 37 = .ok (.iaload, 1) := by decide +kernel
theorem dX0_areVoidUnborne_38 : decode cX0_areVoidUnborne 38 = .ok (.invokevirtual 70, 3) := by decide +kernel
theorem dX0_areVoidUnborne_41 : decode cX0_areVoidUnborne 41 = .ok (.ifCond .eq 5, 3) := by decide +kernel
theorem dX0_areVoidUnborne_44 : decode cX0_areVoidUnborne 44 = .ok (.iconst 0, 1) := by decide +kernel
theorem dX0_areVoidUnborne_45 : decode cX0_areVoidUnborne 45 = .ok (.ireturn, 1) := by decide +kernel
theorem dX0_areVoidUnborne_46 : decode cX0_areVoidUnborne 46 = .ok (.iinc 1 1, 3) := by decide +kernel
theorem dX0_areVoidUnborne_49 : decode cX0_areVoidUnborne 49 = .ok (.goto (-47), 3) := by decide +kernel
theorem dX0_areVoidUnborne_52 : decode cX0_areVoidUnborne 52 = .ok (.iconst 1, 1) := by decide +kernel
theorem dX0_areVoidUnborne_53 : decode cX0_areVoidUnborne 53 = .ok (.ireturn, 1) := by decide +kernel
set_option maxRecDepth 20000 in
theorem ggX1_init_X3_init : GoodIn wsX1_init wsX3_init := goodIn_r _ [12, 13, 2, 3] (by decide +kernel) (by decide +kernel)
set_option maxRecDepth 20000 in
theorem gX1_init_X3_init_n24 : GoodIn wsX1_init (wsX3_init) := ggX1_init_X3_init
theorem dX1_init_0 : decode cX1_init 0 = .ok (.aload_n 0, 1) := by decide +kernel
theorem dX1_init_1 : decode cX1_init 1 = .ok (.invokespecial 3, 3) := by decide +kernel
theorem dX1_init_4 : decode cX1_init 4 = .ok (.aload_n 0, 1) := by decide +kernel
theorem dX1_init_5 : decode cX1_init 5 = .ok (.bipush 24, 2) := by decide +kernel
theorem dX1_init_7 : decode cX1_init 7 = .ok (.newarray .int, 2) := by decide +kernel
theorem dX1_init_9 : decode cX1_init 9 = .ok (.putfield 9, 3) := by decide +kernel
theorem dX1_init_12 : decode cX1_init 12 = .ok (.aload_n 0, 1) := by decide +kernel
theorem dX1_init_13 : decode cX1_init 13 = .ok (.bipush 24, 2) := by decide +kernel
theorem dX1_init_15 : decode cX1_init 15 = .ok (.newarray .int, 2) := by decide +kernel
theorem dX1_init_17 : decode cX1_init 17 = .ok (.putfield 15, 3) := by decide +kernel
theorem dX1_init_20 : decode cX1_init 20 = .ok (.aload_n 0, 1) := by decide +kernel
theorem dX1_init_21 : decode cX1_init 21 = .ok (.iconst 4, 1) := by decide +kernel
theorem dX1_init_22 : decode cX1_init 22 = .ok (.anewarray 18, 3) := by decide +kernel
theorem dX1_init_25 : decode cX1_init 25 = .ok (.putfield 20, 3) := by decide +kernel
theorem dX1_init_28 : decode cX1_init 28 = .ok (.iconst 0, 1) := by decide +kernel
theorem dX1_init_29 : decode cX1_init 29 = .ok (.istore_n 1, 1) := by decide +kernel
theorem dX1_init_30 : decode cX1_init 30 = .ok (.iload_n 1, 1) := by decide +kernel
theorem dX1_init_31 : decode cX1_init 31 = .ok (.iconst 4, 1) := by decide +kernel
theorem dX1_init_32 : decode cX1_init 32 = .ok (.if_icmp .ge 22, 3) := by decide +kernel
theorem dX1_init_35 : decode cX1_init 35 = .ok (.aload_n 0, 1) := by decide +kernel
theorem dX1_init_36 : decode cX1_init 36 = .ok (.getfield 20, 3) := by decide +kernel
theorem dX1_init_39 : decode cX1_init 39 = .ok (.iload_n 1, 1) := by decide +kernel
theorem dX1_init_40 : decode cX1_init 40 = .ok (.new 18, 3) := by decide +kernel
theorem dX1_init_43 : decode cX1_init 43 = .ok (.dup, 1) := by decide +kernel
theorem dX1_init_44 : decode cX1_init 44 = .ok (.invokespecial 24, 3) := by decide +kernel
theorem dX1_init_47 : decode cX1_init 47 = .ok (.aastore, 1) := by decide +kernel
theorem dX1_init_48 : decode cX1_init 48 = .ok (.iinc 1 1, 3) := by decide +kernel
theorem dX1_init_51 : decode cX1_init 51 = .ok (.goto (-21), 3) := by decide +kernel
theorem dX1_init_54 : decode cX1_init 54 = .ok (.return_, 1) := by decide +kernel
theorem dX1_group_0 : decode cX1_group 0 = .ok (.aload_n 0, 1) := by decide +kernel
theorem dX1_group_1 : decode cX1_group 1 = .ok (.getfield 20, 3) := by decide +kernel
theorem dX1_group_4 : decode cX1_group 4 = .ok (.iload_n 1, 1) := by decide +kernel
theorem dX1_group_5 : decode cX1_group 5 = .ok (.iconst 3, 1) := by decide +kernel
theorem dX1_group_6 : decode cX1_group 6 = .ok (.iand, 1) := by decide +kernel
theorem dX1_group_7 : decode cX1_group 7 = .ok (.aaload, 1) := by decide +kernel
theorem dX1_group_8 : decode cX1_group 8 = .ok (.areturn, 1) := by decide +kernel
theorem dX1_wordAt_0 : decode cX1_wordAt 0 = .ok (.iload_n 1, 1) := by decide +kernel
theorem dX1_wordAt_1 : decode cX1_wordAt 1 = .ok (.ifCond .lt 26, 3) := by decide +kernel
theorem dX1_wordAt_4 : decode cX1_wordAt 4 = .ok (.iload_n 1, 1) := by decide +kernel
theorem dX1_wordAt_5 : decode cX1_wordAt 5 = .ok (.aload_n 0, 1) := by decide +kernel
theorem dX1_wordAt_6 : decode cX1_wordAt 6 = .ok (.getfield 25, 3) := by decide +kernel
theorem dX1_wordAt_9 : decode cX1_wordAt 9 = .ok (.if_icmp .ge 18, 3) := by decide +kernel
theorem dX1_wordAt_12 : decode cX1_wordAt 12 = .ok (.iload_n 1, 1) := by decide +kernel
theorem dX1_wordAt_13 : decode cX1_wordAt 13 = .ok (.bipush 24, 2) := by decide +kernel
theorem dX1_wordAt_15 : decode cX1_wordAt 15 = .ok (.if_icmp .ge 12, 3) := by decide +kernel
theorem dX1_wordAt_18 : decode cX1_wordAt 18 = .ok (.aload_n 0, 1) := by decide +kernel
theorem dX1_wordAt_19 : decode cX1_wordAt 19 = .ok (.getfield 9, 3) := by decide +kernel
theorem dX1_wordAt_22 : decode cX1_wordAt 22 = .ok (.iload_n 1, 1) := by decide +kernel
theorem dX1_wordAt_23 : decode cX1_wordAt 23 = .ok (.iaload, 1) := by decide +kernel
theorem dX1_wordAt_24 : decode cX1_wordAt 24 = .ok (.goto 4, 3) := by decide +kernel
theorem dX1_wordAt_27 : decode cX1_wordAt 27 = .ok (.iconst 0, 1) := by decide +kernel
theorem dX1_wordAt_28 : decode cX1_wordAt 28 = .ok (.ireturn, 1) := by decide +kernel
theorem dX1_meaningAt_0 : decode cX1_meaningAt 0 = .ok (.iload_n 1, 1) := by decide +kernel
theorem dX1_meaningAt_1 : decode cX1_meaningAt 1 = .ok (.ifCond .lt 26, 3) := by decide +kernel
theorem dX1_meaningAt_4 : decode cX1_meaningAt 4 = .ok (.iload_n 1, 1) := by decide +kernel
theorem dX1_meaningAt_5 : decode cX1_meaningAt 5 = .ok (.aload_n 0, 1) := by decide +kernel
theorem dX1_meaningAt_6 : decode cX1_meaningAt 6 = .ok (.getfield 25, 3) := by decide +kernel
theorem dX1_meaningAt_9 : decode cX1_meaningAt 9 = .ok (.if_icmp .ge 18, 3) := by decide +kernel
theorem dX1_meaningAt_12 : decode cX1_meaningAt 12 = .ok (.iload_n 1, 1) := by decide +kernel
theorem dX1_meaningAt_13 : decode cX1_meaningAt 13 = .ok (.bipush 24, 2) := by decide +kernel
theorem dX1_meaningAt_15 : decode cX1_meaningAt 15 = .ok (.if_icmp .ge 12, 3) := by decide +kernel
theorem dX1_meaningAt_18 : decode cX1_meaningAt 18 = .ok (.aload_n 0, 1) := by decide +kernel
theorem dX1_meaningAt_19 : decode cX1_meaningAt 19 = .ok (.getfield 15, 3) := by decide +kernel
theorem dX1_meaningAt_22 : decode cX1_meaningAt 22 = .ok (.iload_n 1, 1) := by decide +kernel
theorem dX1_meaningAt_23 : decode cX1_meaningAt 23 = .ok (.iaload, 1) := by decide +kernel
theorem dX1_meaningAt_24 : decode cX1_meaningAt 24 = .ok (.goto 4, 3) := by decide +kernel
theorem dX1_meaningAt_27 : decode cX1_meaningAt 27 = .ok (.iconst 0, 1) := by decide +kernel
theorem dX1_meaningAt_28 : decode cX1_meaningAt 28 = .ok (.ireturn, 1) := by decide +kernel
theorem dX1_clear_0 : decode cX1_clear 0 = .ok (.aload_n 0, 1) := by decide +kernel
theorem dX1_clear_1 : decode cX1_clear 1 = .ok (.iconst 0, 1) := by decide +kernel
theorem dX1_clear_2 : decode cX1_clear 2 = .ok (.putfield 25, 3) := by decide +kernel
theorem dX1_clear_5 : decode cX1_clear 5 = .ok (.return_, 1) := by decide +kernel
theorem dX1_add_0 : decode cX1_add 0 = .ok (.aload_n 0, 1) := by decide +kernel
theorem dX1_add_1 : decode cX1_add 1 = .ok (.getfield 25, 3) := by decide +kernel
theorem dX1_add_4 : decode cX1_add 4 = .ok (.ifCond .lt 32, 3) := by decide +kernel
theorem dX1_add_7 : decode cX1_add 7 = .ok (.aload_n 0, 1) := by decide +kernel
theorem dX1_add_8 : decode cX1_add 8 = .ok (.getfield 25, 3) := by decide +kernel
theorem dX1_add_11 : decode cX1_add 11 = .ok (.bipush 24, 2) := by decide +kernel
theorem dX1_add_13 : decode cX1_add 13 = .ok (.if_icmp .ge 23, 3) := by decide +kernel
theorem dX1_add_16 : decode cX1_add 16 = .ok (.aload_n 0, 1) := by decide +kernel
theorem dX1_add_17 : decode cX1_add 17 = .ok (.getfield 9, 3) := by decide +kernel
theorem dX1_add_20 : decode cX1_add 20 = .ok (.aload_n 0, 1) := by decide +kernel
theorem dX1_add_21 : decode cX1_add 21 = .ok (.getfield 25, 3) := by decide +kernel
theorem dX1_add_24 : decode cX1_add 24 = .ok (.iload_n 1, 1) := by decide +kernel
theorem dX1_add_25 : decode cX1_add 25 = .ok (.iastore, 1) := by decide +kernel
theorem dX1_add_26 : decode cX1_add 26 = .ok (.aload_n 0, 1) := by decide +kernel
theorem dX1_add_27 : decode cX1_add 27 = .ok (.dup, 1) := by decide +kernel
theorem dX1_add_28 : decode cX1_add 28 = .ok (.getfield 25, 3) := by decide +kernel
theorem dX1_add_31 : decode cX1_add 31 = .ok (.iconst 1, 1) := by decide +kernel
theorem dX1_add_32 : decode cX1_add 32 = .ok (.iadd, 1) := by decide +kernel
theorem dX1_add_33 : decode cX1_add 33 = .ok (.putfield 25, 3) := by decide +kernel
theorem dX1_add_36 : decode cX1_add 36 = .ok (.return_, 1) := by decide +kernel
set_option maxRecDepth 20000 in
theorem ggX1_takeWords_X1_add : GoodIn wsX1_takeWords wsX1_add := goodIn_ca (goodIn_r _ [6, 1, 7, 8, 9, 10, 11, 12, 13, 14, 15, 16, 17, 18, 19] (by decide +kernel) (by decide +kernel)) (goodIn_sub (fun _ h => List.mem_cons_of_mem _ (List.mem_append_right _ h)) (by decide +kernel))
set_option maxRecDepth 20000 in
theorem gX1_takeWords_X1_add : GoodIn wsX1_takeWords (wsV RX1 29 RX1 yX1_add wsX1_add) := goodIn_app (goodIn_of _ (by decide +kernel)) ggX1_takeWords_X1_add
theorem dX1_takeWords_0 : decode cX1_takeWords 0 = .ok (.aload_n 0, 1) := by decide +kernel
theorem dX1_takeWords_1 : decode cX1_takeWords 1 = .ok (.iconst 0, 1) := by decide +kernel
theorem dX1_takeWords_2 : decode cX1_takeWords 2 = .ok (.putfield 25, 3) := by decide +kernel
theorem dX1_takeWords_5 : decode cX1_takeWords 5 = .ok (.iconst 0, 1) := by decide +kernel
theorem dX1_takeWords_6 : decode cX1_takeWords 6 = .ok (.istore_n 3, 1) := by decide +kernel
theorem dX1_takeWords_7 : decode cX1_takeWords 7 = .ok (.iload_n 3, 1) := by decide +kernel
theorem dX1_takeWords_8 : decode cX1_takeWords 8 = .ok (.iload_n 2, 1) := by decide +kernel
theorem dX1_takeWords_9 : decode cX1_takeWords 9 = .ok (.if_icmp .ge 22, 3) := by decide +kernel
theorem dX1_takeWords_12 : decode cX1_takeWords 12 = .ok (.iload_n 3, 1) := by decide +kernel
theorem dX1_takeWords_13 : decode cX1_takeWords 13 = .ok (.aload_n 1, 1) := by decide +kernel
theorem dX1_takeWords_14 : decode cX1_takeWords 14 = .ok (.arraylength, 1) := by decide +kernel
theorem dX1_takeWords_15 : decode cX1_takeWords 15 = .ok (.if_icmp .ge 16, 3) := by decide +kernel
theorem dX1_takeWords_18 : decode cX1_takeWords 18 = .ok (.aload_n 0, 1) := by decide +kernel
theorem dX1_takeWords_19 : decode cX1_takeWords 19 = .ok (.aload_n 1, 1) := by decide +kernel
theorem dX1_takeWords_20 : decode cX1_takeWords 20 = .ok (.iload_n 3, 1) := by decide +kernel
theorem dX1_takeWords_21 : decode cX1_takeWords 21 = .ok (.iaload, 1) := by decide +kernel
theorem dX1_takeWords_22 : decode cX1_takeWords 22 = .ok (.invokevirtual 29, 3) := by decide +kernel
theorem dX1_takeWords_25 : decode cX1_takeWords 25 = .ok (.iinc 3 1, 3) := by decide +kernel
theorem dX1_takeWords_28 : decode cX1_takeWords 28 = .ok (.goto (-21), 3) := by decide +kernel
theorem dX1_takeWords_31 : decode cX1_takeWords 31 = .ok (.return_, 1) := by decide +kernel
theorem dX1_holdsWord_0 : decode cX1_holdsWord 0 = .ok (.iconst 0, 1) := by decide +kernel
theorem dX1_holdsWord_1 : decode cX1_holdsWord 1 = .ok (.istore_n 2, 1) := by decide +kernel
theorem dX1_holdsWord_2 : decode cX1_holdsWord 2 = .ok (.iload_n 2, 1) := by decide +kernel
theorem dX1_holdsWord_3 : decode cX1_holdsWord 3 = .ok (.aload_n 0, 1) := by decide +kernel
theorem dX1_holdsWord_4 : decode cX1_holdsWord 4 = .ok (.getfield 25, 3) := by decide +kernel
theorem dX1_holdsWord_7 : decode cX1_holdsWord 7 = .ok (.if_icmp .ge 27, 3) := by decide +kernel
theorem dX1_holdsWord_10 : decode cX1_holdsWord 10 = .ok (.iload_n 2, 1) := by decide +kernel
theorem dX1_holdsWord_11 : decode cX1_holdsWord 11 = .ok (.bipush 24, 2) := by decide +kernel
theorem dX1_holdsWord_13 : decode cX1_holdsWord 13 = .ok (.if_icmp .ge 21, 3) := by decide +kernel
theorem dX1_holdsWord_16 : decode cX1_holdsWord 16 = .ok (.aload_n 0, 1) := by decide +kernel
theorem dX1_holdsWord_17 : decode cX1_holdsWord 17 = .ok (.getfield 9, 3) := by decide +kernel
theorem dX1_holdsWord_20 : decode cX1_holdsWord 20 = .ok (.iload_n 2, 1) := by decide +kernel
theorem dX1_holdsWord_21 : decode cX1_holdsWord 21 = .ok (.iaload, 1) := by decide +kernel
theorem dX1_holdsWord_22 : decode cX1_holdsWord 22 = .ok (.iload_n 1, 1) := by decide +kernel
theorem dX1_holdsWord_23 : decode cX1_holdsWord 23 = .ok (.if_icmp .ne 5, 3) := by decide +kernel
theorem dX1_holdsWord_26 : decode cX1_holdsWord 26 = .ok (.iconst 1, 1) := by decide +kernel
theorem dX1_holdsWord_27 : decode cX1_holdsWord 27 = .ok (.ireturn, 1) := by decide +kernel
theorem dX1_holdsWord_28 : decode cX1_holdsWord 28 = .ok (.iinc 2 1, 3) := by decide +kernel
theorem dX1_holdsWord_31 : decode cX1_holdsWord 31 = .ok (.goto (-29), 3) := by decide +kernel
theorem dX1_holdsWord_34 : decode cX1_holdsWord 34 = .ok (.iconst 0, 1) := by decide +kernel
theorem dX1_holdsWord_35 : decode cX1_holdsWord 35 = .ok (.ireturn, 1) := by decide +kernel
set_option maxRecDepth 20000 in
theorem ggX1_read_J7_fill_53178 : GoodIn wsX1_read wsJ7_fill_53178 := goodIn_r _ [15] (by decide +kernel) (by decide +kernel)
set_option maxRecDepth 20000 in
theorem gX1_read_J7_fill_53178 : GoodIn wsX1_read (va_wsS RX1 57 yJ7_fill_53178 wsJ7_fill_53178) := goodIn_app (goodIn_of _ (by decide +kernel)) ggX1_read_J7_fill_53178
set_option maxRecDepth 20000 in
theorem ggX1_read_X1_readField : GoodIn wsX1_read wsX1_readField := goodIn_ca (goodIn_r _ [20, 1, 4, 5, 6, 7, 21, 22, 23, 19, 24, 10, 25, 26, 27, 28, 29, 30, 31, 32, 33, 9, 2, 34, 35, 36, 37, 83, 84, 85, 86, 87, 88, 89, 90, 91, 92, 93, 94] (by decide +kernel) (by decide +kernel)) (goodIn_sub (fun _ h => List.mem_cons_of_mem _ (List.mem_append_right _ h)) (by decide +kernel))
set_option maxRecDepth 20000 in
theorem gX1_read_X1_readField : GoodIn wsX1_read (wsV RX1 63 RX1 yX1_readField wsX1_readField) := goodIn_app (goodIn_of _ (by decide +kernel)) ggX1_read_X1_readField
set_option maxRecDepth 20000 in
theorem ggX1_read_X3_clear : GoodIn wsX1_read wsX3_clear := goodIn_r _ [42, 43, 44, 45, 46, 47, 48, 49, 50, 51, 52, 53, 41, 54, 55, 56, 57, 58, 59, 95, 96, 97, 98, 99, 100, 101, 102, 103, 104, 105, 106, 107] (by decide +kernel) (by decide +kernel)
set_option maxRecDepth 20000 in
theorem gX1_read_X3_clear : GoodIn wsX1_read (wsV RX1 67 RX3 yX3_clear wsX3_clear) := goodIn_app (goodIn_of _ (by decide +kernel)) ggX1_read_X3_clear
set_option maxRecDepth 20000 in
theorem ggX1_read_X1_readGroup : GoodIn wsX1_read wsX1_readGroup := goodIn_ca (goodIn_r _ [63, 64, 65, 66, 67, 68, 69, 70, 71, 72, 73, 26, 27, 28, 19, 29, 1, 21, 22, 23, 24, 10, 25, 74, 75, 76, 77, 78, 79, 80, 81, 82, 30, 31, 32, 33, 9, 2, 34, 35, 36, 37, 6, 7, 95, 96, 97, 98, 99, 100, 101, 102, 103, 104, 105, 106, 107, 83, 84, 85, 86, 87, 88, 89, 90, 91, 92, 93, 94] (by decide +kernel) (by decide +kernel)) (goodIn_sub (fun _ h => List.mem_cons_of_mem _ (List.mem_append_right _ h)) (by decide +kernel))
set_option maxRecDepth 20000 in
theorem gX1_read_X1_readGroup : GoodIn wsX1_read (wsV RX1 70 RX1 yX1_readGroup wsX1_readGroup) := goodIn_app (goodIn_of _ (by decide +kernel)) ggX1_read_X1_readGroup
theorem dX1_read_0 : decode cX1_read 0 = .ok (.aload_n 0, 1) := by decide +kernel
theorem dX1_read_1 : decode cX1_read 1 = .ok (.iconst 0, 1) := by decide +kernel
theorem dX1_read_2 : decode cX1_read 2 = .ok (.putfield 33, 3) := by decide +kernel
theorem dX1_read_5 : decode cX1_read 5 = .ok (.aload_n 0, 1) := by decide +kernel
theorem dX1_read_6 : decode cX1_read 6 = .ok (.iconst 0, 1) := by decide +kernel
theorem dX1_read_7 : decode cX1_read 7 = .ok (.putfield 36, 3) := by decide +kernel
theorem dX1_read_10 : decode cX1_read 10 = .ok (.aload_n 0, 1) := by decide +kernel
theorem dX1_read_11 : decode cX1_read 11 = .ok (.iconst (-1), 1) := by decide +kernel
theorem dX1_read_12 : decode cX1_read 12 = .ok (.putfield 39, 3) := by decide +kernel
theorem dX1_read_15 : decode cX1_read 15 = .ok (.aload_n 0, 1) := by decide +kernel
theorem dX1_read_16 : decode cX1_read 16 = .ok (.iconst 0, 1) := by decide +kernel
theorem dX1_read_17 : decode cX1_read 17 = .ok (.putfield 42, 3) := by decide +kernel
theorem dX1_read_20 : decode cX1_read 20 = .ok (.aload_n 0, 1) := by decide +kernel
theorem dX1_read_21 : decode cX1_read 21 = .ok (.iconst 0, 1) := by decide +kernel
theorem dX1_read_22 : decode cX1_read 22 = .ok (.putfield 45, 3) := by decide +kernel
theorem dX1_read_25 : decode cX1_read 25 = .ok (.aload_n 0, 1) := by decide +kernel
theorem dX1_read_26 : decode cX1_read 26 = .ok (.iconst 0, 1) := by decide +kernel
theorem dX1_read_27 : decode cX1_read 27 = .ok (.putfield 48, 3) := by decide +kernel
theorem dX1_read_30 : decode cX1_read 30 = .ok (.aload_n 0, 1) := by decide +kernel
theorem dX1_read_31 : decode cX1_read 31 = .ok (.iconst 0, 1) := by decide +kernel
theorem dX1_read_32 : decode cX1_read 32 = .ok (.putfield 51, 3) := by decide +kernel
theorem dX1_read_35 : decode cX1_read 35 = .ok (.aload_n 0, 1) := by decide +kernel
theorem dX1_read_36 : decode cX1_read 36 = .ok (.iconst 0, 1) := by decide +kernel
theorem dX1_read_37 : decode cX1_read 37 = .ok (.putfield 54, 3) := by decide +kernel
theorem dX1_read_40 : decode cX1_read 40 = .ok (.aload_n 0, 1) := by decide +kernel
theorem dX1_read_41 : decode cX1_read 41 = .ok (.getfield 15, 3) := by decide +kernel
theorem dX1_read_44 : decode cX1_read 44 = .ok (.iconst 0, 1) := by decide +kernel
theorem dX1_read_45 : decode cX1_read 45 = .ok (.invokestatic 57, 3) := by decide +kernel
theorem dX1_read_48 : decode cX1_read 48 = .ok (.aload_n 0, 1) := by decide +kernel
theorem dX1_read_49 : decode cX1_read 49 = .ok (.invokevirtual 63, 3) := by decide +kernel
theorem dX1_read_52 : decode cX1_read 52 = .ok (.ifCond .ne 12, 3) := by decide +kernel
theorem dX1_read_55 : decode cX1_read 55 = .ok (.aload_n 0, 1) := by decide +kernel
theorem dX1_read_56 : decode cX1_read 56 = .ok (.aload_n 0, 1) := by decide +kernel
theorem dX1_read_57 : decode cX1_read 57 = .ok (.getfield 33, 3) := by decide +kernel
theorem dX1_read_60 : decode cX1_read 60 = .ok (.putfield 39, 3) := by decide +kernel
theorem dX1_read_63 : decode cX1_read 63 = .ok (.return_, 1) := by decide +kernel
theorem dX1_read_64 : decode cX1_read 64 = .ok (.aload_n 0, 1) := by decide +kernel
theorem dX1_read_65 : decode cX1_read 65 = .ok (.getfield 54, 3) := by decide +kernel
theorem dX1_read_68 : decode cX1_read 68 = .ok (.iconst 4, 1) := by decide +kernel
theorem dX1_read_69 : decode cX1_read 69 = .ok (.if_icmp .ge 60, 3) := by decide +kernel
theorem dX1_read_72 : decode cX1_read 72 = .ok (.aload_n 0, 1) := by decide +kernel
theorem dX1_read_73 : decode cX1_read 73 = .ok (.getfield 33, 3) := by decide +kernel
theorem dX1_read_76 : decode cX1_read 76 = .ok (.aload_n 0, 1) := by decide +kernel
theorem dX1_read_77 : decode cX1_read 77 = .ok (.getfield 25, 3) := by decide +kernel
theorem dX1_read_80 : decode cX1_read 80 = .ok (.if_icmp .ge 49, 3) := by decide +kernel
theorem dX1_read_83 : decode cX1_read 83 = .ok (.aload_n 0, 1) := by decide +kernel
theorem dX1_read_84 : decode cX1_read 84 = .ok (.getfield 20, 3) := by decide +kernel
theorem dX1_read_87 : decode cX1_read 87 = .ok (.aload_n 0, 1) := by decide +kernel
theorem dX1_read_88 : decode cX1_read 88 = .ok (.getfield 54, 3) := by decide +kernel
theorem dX1_read_91 : decode cX1_read 91 = .ok (.iconst 3, 1) := by decide +kernel
theorem dX1_read_92 : decode cX1_read 92 = .ok (.iand, 1) := by decide +kernel
theorem dX1_read_93 : decode cX1_read 93 = .ok (.aaload, 1) := by decide +kernel
theorem dX1_read_94 : decode cX1_read 94 = .ok (.astore_n 1, 1) := by decide +kernel
theorem dX1_read_95 : decode cX1_read 95 = .ok (.aload_n 1, 1) := by decide +kernel
theorem dX1_read_96 : decode cX1_read 96 = .ok (.invokevirtual 67, 3) := by decide +kernel
theorem dX1_read_99 : decode cX1_read 99 = .ok (.aload_n 0, 1) := by decide +kernel
theorem dX1_read_100 : decode cX1_read 100 = .ok (.aload_n 1, 1) := by decide +kernel
theorem dX1_read_101 : decode cX1_read 101 = .ok (.invokevirtual 70, 3) := by decide +kernel
theorem dX1_read_104 : decode cX1_read 104 = .ok (.ifCond .ne 12, 3) := by decide +kernel
theorem dX1_read_107 : decode cX1_read 107 = .ok (.aload_n 0, 1) := by decide +kernel
theorem dX1_read_108 : decode cX1_read 108 = .ok (.aload_n 0, 1) := by decide +kernel
theorem dX1_read_109 : decode cX1_read 109 = .ok (.getfield 33, 3) := by decide +kernel
theorem dX1_read_112 : decode cX1_read 112 = .ok (.putfield 39, 3) := by decide +kernel
theorem dX1_read_115 : decode cX1_read 115 = .ok (.return_, 1) := by decide +kernel
theorem dX1_read_116 : decode cX1_read 116 = .ok (.aload_n 0, 1) := by decide +kernel
theorem dX1_read_117 : decode cX1_read 117 = .ok (.dup, 1) := by decide +kernel
theorem dX1_read_118 : decode cX1_read 118 = .ok (.getfield 54, 3) := by decide +kernel
theorem dX1_read_121 : decode cX1_read 121 = .ok (.iconst 1, 1) := by decide +kernel
theorem dX1_read_122 : decode cX1_read 122 = .ok (.iadd, 1) := by decide +kernel
theorem dX1_read_123 : decode cX1_read 123 = .ok (.putfield 54, 3) := by decide +kernel
theorem dX1_read_126 : decode cX1_read 126 = .ok (.goto (-62), 3) := by decide +kernel
theorem dX1_read_129 : decode cX1_read 129 = .ok (.aload_n 0, 1) := by decide +kernel
theorem dX1_read_130 : decode cX1_read 130 = .ok (.getfield 33, 3) := by decide +kernel
theorem dX1_read_133 : decode cX1_read 133 = .ok (.aload_n 0, 1) := by decide +kernel
theorem dX1_read_134 : decode cX1_read 134 = .ok (.getfield 25, 3) := by decide +kernel
theorem dX1_read_137 : decode cX1_read 137 = .ok (.if_icmp .ge 11, 3) := by decide +kernel
theorem dX1_read_140 : decode cX1_read 140 = .ok (.aload_n 0, 1) := by decide +kernel
theorem dX1_read_141 : decode cX1_read 141 = .ok (.aload_n 0, 1) := by decide +kernel
theorem dX1_read_142 : decode cX1_read 142 = .ok (.getfield 33, 3) := by decide +kernel
theorem dX1_read_145 : decode cX1_read 145 = .ok (.putfield 39, 3) := by decide +kernel
theorem dX1_read_148 : decode cX1_read 148 = .ok (.return_, 1) := by decide +kernel
set_option maxRecDepth 20000 in
theorem ggX1_readField_X1_wordAt : GoodIn wsX1_readField wsX1_wordAt := goodIn_ca (goodIn_r _ [10, 11, 12, 27, 28, 29, 30, 31, 32, 33, 34, 35, 36, 37, 38] (by decide +kernel) (by decide +kernel)) (goodIn_sub (fun _ h => List.mem_cons_of_mem _ (List.mem_append_right _ h)) (by decide +kernel))
set_option maxRecDepth 20000 in
theorem gX1_readField_X1_wordAt : GoodIn wsX1_readField (wsV RX1 74 RX1 yX1_wordAt wsX1_wordAt) := goodIn_app (goodIn_of _ (by decide +kernel)) ggX1_readField_X1_wordAt
set_option maxRecDepth 20000 in
theorem ggX1_readField_X1_takeIn : GoodIn wsX1_readField wsX1_takeIn := goodIn_ca (goodIn_r _ [16, 1, 6, 7, 8, 9, 10, 11, 12, 27, 28, 29, 30, 31, 32, 33, 34, 35, 36, 37, 38] (by decide +kernel) (by decide +kernel)) (goodIn_sub (fun _ h => List.mem_cons_of_mem _ (List.mem_append_right _ h)) (by decide +kernel))
set_option maxRecDepth 20000 in
theorem gX1_readField_X1_takeIn : GoodIn wsX1_readField (wsV RX1 78 RX1 yX1_takeIn wsX1_takeIn) := goodIn_app (goodIn_of _ (by decide +kernel)) ggX1_readField_X1_takeIn
set_option maxRecDepth 20000 in
theorem ggX1_readField_X1_takeTincture : GoodIn wsX1_readField wsX1_takeTincture := goodIn_ca (goodIn_r _ [20, 1, 21, 22, 6, 7, 8, 9, 10, 11, 12, 23, 24, 25, 26, 4, 5, 27, 28, 29, 30, 31, 32, 33, 34, 35, 36, 37, 38] (by decide +kernel) (by decide +kernel)) (goodIn_sub (fun _ h => List.mem_cons_of_mem _ (List.mem_append_right _ h)) (by decide +kernel))
set_option maxRecDepth 20000 in
theorem gX1_readField_X1_takeTincture : GoodIn wsX1_readField (wsV RX1 82 RX1 yX1_takeTincture wsX1_takeTincture) := goodIn_app (goodIn_of _ (by decide +kernel)) ggX1_readField_X1_takeTincture
theorem dX1_readField_0 : decode cX1_readField 0 = .ok (.aload_n 0, 1) := by decide +kernel
theorem dX1_readField_1 : decode cX1_readField 1 = .ok (.aload_n 0, 1) := by decide +kernel
theorem dX1_readField_2 : decode cX1_readField 2 = .ok (.getfield 33, 3) := by decide +kernel
theorem dX1_readField_5 : decode cX1_readField 5 = .ok (.invokevirtual 74, 3) := by decide +kernel
theorem dX1_readField_8 : decode cX1_readField 8 = .ok (.istore_n 1, 1) := by decide +kernel
theorem dX1_readField_9 : decode cX1_readField 9 = .ok (.iload_n 1, 1) := by decide +kernel
theorem dX1_readField_10 : decode cX1_readField 10 = .ok (.bipush 11, 2) := by decide +kernel
theorem dX1_readField_12 : decode cX1_readField 12 = .ok (.if_icmp .lt 49, 3) := by decide +kernel
theorem dX1_readField_15 : decode cX1_readField 15 = .ok (.iload_n 1, 1) := by decide +kernel
theorem dX1_readField_16 : decode cX1_readField 16 = .ok (.bipush 15, 2) := by decide +kernel
theorem dX1_readField_18 : decode cX1_readField 18 = .ok (.if_icmp .gt 43, 3) := by decide +kernel
theorem dX1_readField_21 : decode cX1_readField 21 = .ok (.aload_n 0, 1) := by decide +kernel
theorem dX1_readField_22 : decode cX1_readField 22 = .ok (.iload_n 1, 1) := by decide +kernel
theorem dX1_readField_23 : decode cX1_readField 23 = .ok (.putfield 42, 3) := by decide +kernel
theorem dX1_readField_26 : decode cX1_readField 26 = .ok (.aload_n 0, 1) := by decide +kernel
theorem dX1_readField_27 : decode cX1_readField 27 = .ok (.dup, 1) := by decide +kernel
theorem dX1_readField_28 : decode cX1_readField 28 = .ok (.getfield 33, 3) := by decide +kernel
theorem dX1_readField_31 : decode cX1_readField 31 = .ok (.iconst 1, 1) := by decide +kernel
theorem dX1_readField_32 : decode cX1_readField 32 = .ok (.iadd, 1) := by decide +kernel
theorem dX1_readField_33 : decode cX1_readField 33 = .ok (.putfield 33, 3) := by decide +kernel
theorem dX1_readField_36 : decode cX1_readField 36 = .ok (.aload_n 0, 1) := by decide +kernel
theorem dX1_readField_37 : decode cX1_readField 37 = .ok (.aload_n 0, 1) := by decide +kernel
theorem dX1_readField_38 : decode cX1_readField 38 = .ok (.getfield 42, 3) := by decide +kernel
theorem dX1_readField_41 : decode cX1_readField 41 = .ok (.bipush 14, 2) := by decide +kernel
theorem dX1_readField_43 : decode cX1_readField 43 = .ok (.if_icmp .ge 14, 3) := by decide +kernel
theorem dX1_readField_46 : decode cX1_readField 46 = .ok (.aload_n 0, 1) := by decide +kernel
theorem dX1_readField_47 : decode cX1_readField 47 = .ok (.bipush 9, 2) := by decide +kernel
theorem dX1_readField_49 : decode cX1_readField 49 = .ok (.bipush 10, 2) := by decide +kernel
theorem dX1_readField_51 : decode cX1_readField 51 = .ok (.invokevirtual 78, 3) := by decide +kernel
theorem dX1_readField_54 : decode cX1_readField 54 = .ok (.goto 4, 3) := by decide +kernel
theorem dX1_readField_57 : decode cX1_readField 57 = .ok (.iconst 0, 1) := by decide +kernel
theorem dX1_readField_58 : decode cX1_readField 58 = .ok (.putfield 45, 3) := by decide +kernel
theorem dX1_readField_61 : decode cX1_readField 61 = .ok (.aload_n 0, 1) := by decide +kernel
theorem dX1_readField_62 : decode cX1_readField 62 = .ok (.aload_n 0, 1) := by decide +kernel
theorem dX1_readField_63 : decode cX1_readField 63 = .ok (.iconst 0, 1) := by decide +kernel
theorem dX1_readField_64 : decode cX1_readField 64 = .ok (.invokevirtual 82, 3) := by decide +kernel
theorem dX1_readField_67 : decode cX1_readField 67 = .ok (.putfield 48, 3) := by decide +kernel
theorem dX1_readField_70 : decode cX1_readField 70 = .ok (.aload_n 0, 1) := by decide +kernel
theorem dX1_readField_71 : decode cX1_readField 71 = .ok (.getfield 48, 3) := by decide +kernel
theorem dX1_readField_74 : decode cX1_readField 74 = .ok (.ifCond .eq 10, 3) := by decide +kernel
theorem dX1_readField_77 : decode cX1_readField 77 = .ok (.aload_n 0, 1) := by decide +kernel
theorem dX1_readField_78 : decode cX1_readField 78 = .ok (.getfield 42, 3) := by decide +kernel
theorem dX1_readField_81 : decode cX1_readField 81 = .ok (.ifCond .ne 16, 3) := by decide +kernel
theorem dX1_readField_84 : decode cX1_readField 84 = .ok (.aload_n 0, 1) := by decide +kernel
theorem dX1_readField_85 : decode cX1_readField 85 = .ok (.getfield 48, 3) := by decide +kernel
theorem dX1_readField_88 : decode cX1_readField 88 = .ok (.ifCond .eq 7, 3) := by decide +kernel
theorem dX1_readField_91 : decode cX1_readField 91 = .ok (.iconst 1, 1) := by decide +kernel
theorem dX1_readField_92 : decode cX1_readField 92 = .ok (.goto 4, 3) := by decide +kernel
theorem dX1_readField_95 : decode cX1_readField 95 = .ok (.iconst 0, 1) := by decide +kernel
theorem dX1_readField_96 : decode cX1_readField 96 = .ok (.ireturn, 1) := by decide +kernel
theorem dX1_readField_97 : decode cX1_readField 97 = .ok (.aload_n 0, 1) := by decide +kernel
theorem dX1_readField_98 : decode cX1_readField 98 = .ok (.bipush 16, 2) := by decide +kernel
theorem dX1_readField_100 : decode cX1_readField 100 = .ok (.bipush 16, 2) := by decide +kernel
theorem dX1_readField_102 : decode cX1_readField 102 = .ok (.invokevirtual 78, 3) := by decide +kernel
theorem dX1_readField_105 : decode cX1_readField 105 = .ok (.ifCond .ne 5, 3) := by decide +kernel
theorem dX1_readField_108 : decode cX1_readField 108 = .ok (.iconst 0, 1) := by decide +kernel
theorem dX1_readField_109 : decode cX1_readField 109 = .ok (.ireturn, 1) := by decide +kernel
theorem dX1_readField_110 : decode cX1_readField 110 = .ok (.aload_n 0, 1) := by decide +kernel
theorem dX1_readField_111 : decode cX1_readField 111 = .ok (.aload_n 0, 1) := by decide +kernel
theorem dX1_readField_112 : decode cX1_readField 112 = .ok (.iconst 0, 1) := by decide +kernel
theorem dX1_readField_113 : decode cX1_readField 113 = .ok (.invokevirtual 82, 3) := by decide +kernel
theorem dX1_readField_116 : decode cX1_readField 116 = .ok (.putfield 51, 3) := by decide +kernel
theorem dX1_readField_119 : decode cX1_readField 119 = .ok (.aload_n 0, 1) := by decide +kernel
theorem dX1_readField_120 : decode cX1_readField 120 = .ok (.getfield 51, 3) := by decide +kernel
theorem dX1_readField_123 : decode cX1_readField 123 = .ok (.ifCond .eq 7, 3) := by decide +kernel
theorem dX1_readField_126 : decode cX1_readField 126 = .ok (.iconst 1, 1) := by decide +kernel
theorem dX1_readField_127 : decode cX1_readField 127 = .ok (.goto 4, 3) := by decide +kernel
theorem dX1_readField_130 : decode cX1_readField 130 = .ok (.iconst 0, 1) := by decide +kernel
theorem dX1_readField_131 : decode cX1_readField 131 = .ok (.ireturn, 1) := by decide +kernel
set_option maxRecDepth 20000 in
theorem ggX1_readGroup_X1_takeIn : GoodIn wsX1_readGroup wsX1_takeIn := goodIn_ca (goodIn_r _ [15, 16, 17, 18, 19, 14, 20, 21, 22, 57, 58, 59, 60, 61, 62, 63, 64, 65, 66, 67, 68] (by decide +kernel) (by decide +kernel)) (goodIn_sub (fun _ h => List.mem_cons_of_mem _ (List.mem_append_right _ h)) (by decide +kernel))
set_option maxRecDepth 20000 in
theorem gX1_readGroup_X1_takeIn : GoodIn wsX1_readGroup (wsV RX1 78 RX1 yX1_takeIn wsX1_takeIn) := goodIn_app (goodIn_of _ (by decide +kernel)) ggX1_readGroup_X1_takeIn
set_option maxRecDepth 20000 in
theorem ggX1_readGroup_X1_readOrdinary : GoodIn wsX1_readGroup wsX1_readOrdinary := goodIn_ca (goodIn_r _ [26, 1, 27, 10, 2, 3, 4, 5, 28, 29, 30, 31, 11, 12, 13, 14, 15, 16, 17, 18, 19, 20, 21, 22, 32, 33, 34, 35, 36, 37, 38, 39, 40, 41, 42, 43, 44, 45, 46, 47, 48, 49, 50, 51, 52, 53, 54, 55, 56, 57, 58, 59, 60, 61, 62, 63, 64, 65, 66, 67, 68] (by decide +kernel) (by decide +kernel)) (goodIn_sub (fun _ h => List.mem_cons_of_mem _ (List.mem_append_right _ h)) (by decide +kernel))
set_option maxRecDepth 20000 in
theorem gX1_readGroup_X1_readOrdinary : GoodIn wsX1_readGroup (wsV RX1 89 RX1 yX1_readOrdinary wsX1_readOrdinary) := goodIn_app (goodIn_of _ (by decide +kernel)) ggX1_readGroup_X1_readOrdinary
set_option maxRecDepth 20000 in
theorem ggX1_readGroup_X1_takeTincture : GoodIn wsX1_readGroup wsX1_takeTincture := goodIn_ca (goodIn_r _ [35, 16, 36, 37, 17, 18, 19, 14, 20, 21, 22, 38, 39, 40, 41, 42, 43, 57, 58, 59, 60, 61, 62, 63, 64, 65, 66, 67, 68] (by decide +kernel) (by decide +kernel)) (goodIn_sub (fun _ h => List.mem_cons_of_mem _ (List.mem_append_right _ h)) (by decide +kernel))
set_option maxRecDepth 20000 in
theorem gX1_readGroup_X1_takeTincture : GoodIn wsX1_readGroup (wsV RX1 82 RX1 yX1_takeTincture wsX1_takeTincture) := goodIn_app (goodIn_of _ (by decide +kernel)) ggX1_readGroup_X1_takeTincture
theorem dX1_readGroup_0 : decode cX1_readGroup 0 = .ok (.aload_n 1, 1) := by decide +kernel
theorem dX1_readGroup_1 : decode cX1_readGroup 1 = .ok (.aload_n 0, 1) := by decide +kernel
theorem dX1_readGroup_2 : decode cX1_readGroup 2 = .ok (.bipush 21, 2) := by decide +kernel
theorem dX1_readGroup_4 : decode cX1_readGroup 4 = .ok (.bipush 28, 2) := by decide +kernel
theorem dX1_readGroup_6 : decode cX1_readGroup 6 = .ok (.invokevirtual 78, 3) := by decide +kernel
theorem dX1_readGroup_9 : decode cX1_readGroup 9 = .ok (.putfield 86, 3) := by decide +kernel
theorem dX1_readGroup_12 : decode cX1_readGroup 12 = .ok (.aload_n 1, 1) := by decide +kernel
theorem dX1_readGroup_13 : decode cX1_readGroup 13 = .ok (.getfield 86, 3) := by decide +kernel
theorem dX1_readGroup_16 : decode cX1_readGroup 16 = .ok (.ifCond .eq 9, 3) := by decide +kernel
theorem dX1_readGroup_19 : decode cX1_readGroup 19 = .ok (.aload_n 0, 1) := by decide +kernel
theorem dX1_readGroup_20 : decode cX1_readGroup 20 = .ok (.aload_n 1, 1) := by decide +kernel
theorem dX1_readGroup_21 : decode cX1_readGroup 21 = .ok (.invokevirtual 89, 3) := by decide +kernel
theorem dX1_readGroup_24 : decode cX1_readGroup 24 = .ok (.ireturn, 1) := by decide +kernel
theorem dX1_readGroup_25 : decode cX1_readGroup 25 = .ok (.aload_n 0, 1) := by decide +kernel
theorem dX1_readGroup_26 : decode cX1_readGroup 26 = .ok (.bipush 39, 2) := by decide +kernel
theorem dX1_readGroup_28 : decode cX1_readGroup 28 = .ok (.bipush 39, 2) := by decide +kernel
theorem dX1_readGroup_30 : decode cX1_readGroup 30 = .ok (.invokevirtual 78, 3) := by decide +kernel
theorem dX1_readGroup_33 : decode cX1_readGroup 33 = .ok (.ifCond .eq 7, 3) := by decide +kernel
theorem dX1_readGroup_36 : decode cX1_readGroup 36 = .ok (.iconst 1, 1) := by decide +kernel
theorem dX1_readGroup_37 : decode cX1_readGroup 37 = .ok (.goto 4, 3) := by decide +kernel
theorem dX1_readGroup_40 : decode cX1_readGroup 40 = .ok (.iconst 0, 1) := by decide +kernel
theorem dX1_readGroup_41 : decode cX1_readGroup 41 = .ok (.istore_n 2, 1) := by decide +kernel
theorem dX1_readGroup_42 : decode cX1_readGroup 42 = .ok (.aload_n 1, 1) := by decide +kernel
theorem dX1_readGroup_43 : decode cX1_readGroup 43 = .ok (.iload_n 2, 1) := by decide +kernel
theorem dX1_readGroup_44 : decode cX1_readGroup 44 = .ok (.ifCond .eq 8, 3) := by decide +kernel
theorem dX1_readGroup_47 : decode cX1_readGroup 47 = .ok (.bipush 16, 2) := by decide +kernel
theorem dX1_readGroup_49 : decode cX1_readGroup 49 = .ok (.goto 18, 3) := by decide +kernel
theorem dX1_readGroup_52 : decode cX1_readGroup 52 = .ok (.aload_n 0, 1) := by decide +kernel
theorem dX1_readGroup_53 : decode cX1_readGroup 53 = .ok (.bipush 61, 2) := by decide +kernel
theorem dX1_readGroup_55 : decode cX1_readGroup 55 = .ok (.bipush 69, 2) := by decide +kernel
theorem dX1_readGroup_57 : decode cX1_readGroup 57 = .ok (.invokevirtual 78, 3) := by decide +kernel
theorem dX1_readGroup_60 : decode cX1_readGroup 60 = .ok (.bipush 60, 2) := by decide +kernel
theorem dX1_readGroup_62 : decode cX1_readGroup 62 = .ok (.isub, 1) := by decide +kernel
theorem dX1_readGroup_63 : decode cX1_readGroup 63 = .ok (.iconst 0, 1) := by decide +kernel
theorem dX1_readGroup_64 : decode cX1_readGroup 64 = .ok (.invokestatic 92, 3) := by decide +kernel
theorem dX1_readGroup_67 : decode cX1_readGroup 67 = .ok (.putfield 97, 3) := by decide +kernel
theorem dX1_readGroup_70 : decode cX1_readGroup 70 = .ok (.aload_n 1, 1) := by decide +kernel
theorem dX1_readGroup_71 : decode cX1_readGroup 71 = .ok (.getfield 97, 3) := by decide +kernel
theorem dX1_readGroup_74 : decode cX1_readGroup 74 = .ok (.ifCond .ne 5, 3) := by decide +kernel
theorem dX1_readGroup_77 : decode cX1_readGroup 77 = .ok (.iconst 0, 1) := by decide +kernel
theorem dX1_readGroup_78 : decode cX1_readGroup 78 = .ok (.ireturn, 1) := by decide +kernel
theorem dX1_readGroup_79 : decode cX1_readGroup 79 = .ok (.aload_n 1, 1) := by decide +kernel
theorem dX1_readGroup_80 : decode cX1_readGroup 80 = .ok (.aload_n 0, 1) := by decide +kernel
theorem dX1_readGroup_81 : decode cX1_readGroup 81 = .ok (.bipush 51, 2) := by decide +kernel
theorem dX1_readGroup_83 : decode cX1_readGroup 83 = .ok (.bipush 58, 2) := by decide +kernel
theorem dX1_readGroup_85 : decode cX1_readGroup 85 = .ok (.invokevirtual 78, 3) := by decide +kernel
theorem dX1_readGroup_88 : decode cX1_readGroup 88 = .ok (.putfield 100, 3) := by decide +kernel
theorem dX1_readGroup_91 : decode cX1_readGroup 91 = .ok (.aload_n 1, 1) := by decide +kernel
theorem dX1_readGroup_92 : decode cX1_readGroup 92 = .ok (.getfield 100, 3) := by decide +kernel
theorem dX1_readGroup_95 : decode cX1_readGroup 95 = .ok (.ifCond .ne 5, 3) := by decide +kernel
theorem dX1_readGroup_98 : decode cX1_readGroup 98 = .ok (.iconst 0, 1) := by decide +kernel
theorem dX1_readGroup_99 : decode cX1_readGroup 99 = .ok (.ireturn, 1) := by decide +kernel
theorem dX1_readGroup_100 : decode cX1_readGroup 100 = .ok (.aload_n 1, 1) := by decide +kernel
theorem dX1_readGroup_101 : decode cX1_readGroup 101 = .ok (.aload_n 0, 1) := by decide +kernel
theorem dX1_readGroup_102 : decode cX1_readGroup 102 = .ok (.bipush 45, 2) := by decide +kernel
theorem dX1_readGroup_104 : decode cX1_readGroup 104 = .ok (.bipush 46, 2) := by decide +kernel
theorem dX1_readGroup_106 : decode cX1_readGroup 106 = .ok (.invokevirtual 78, 3) := by decide +kernel
theorem dX1_readGroup_109 : decode cX1_readGroup 109 = .ok (.putfield 103, 3) := by decide +kernel
theorem dX1_readGroup_112 : decode cX1_readGroup 112 = .ok (.aload_n 1, 1) := by decide +kernel
theorem dX1_readGroup_113 : decode cX1_readGroup 113 = .ok (.iload_n 2, 1) := by decide +kernel
theorem dX1_readGroup_114 : decode cX1_readGroup 114 = .ok (.ifCond .eq 7, 3) := by decide +kernel
theorem dX1_readGroup_117 : decode cX1_readGroup 117 = .ok (.iconst 0, 1) := by decide +kernel
theorem dX1_readGroup_118 : decode cX1_readGroup 118 = .ok (.goto 11, 3) := by decide +kernel
theorem dX1_readGroup_121 : decode cX1_readGroup 121 = .ok (.aload_n 0, 1) := by decide +kernel
theorem dX1_readGroup_122 : decode cX1_readGroup 122 = .ok (.bipush 41, 2) := by decide +kernel
theorem dX1_readGroup_124 : decode cX1_readGroup 124 = .ok (.bipush 44, 2) := by decide +kernel
theorem dX1_readGroup_126 : decode cX1_readGroup 126 = .ok (.invokevirtual 78, 3) := by decide +kernel
theorem dX1_readGroup_129 : decode cX1_readGroup 129 = .ok (.putfield 106, 3) := by decide +kernel
theorem dX1_readGroup_132 : decode cX1_readGroup 132 = .ok (.aload_n 1, 1) := by decide +kernel
theorem dX1_readGroup_133 : decode cX1_readGroup 133 = .ok (.aload_n 0, 1) := by decide +kernel
theorem dX1_readGroup_134 : decode cX1_readGroup 134 = .ok (.iconst 0, 1) := by decide +kernel
theorem dX1_readGroup_135 : decode cX1_readGroup 135 = .ok (.invokevirtual 82, 3) := by decide +kernel
theorem dX1_readGroup_138 : decode cX1_readGroup 138 = .ok (.putfield 109, 3) := by decide +kernel
theorem dX1_readGroup_141 : decode cX1_readGroup 141 = .ok (.aload_n 1, 1) := by decide +kernel
theorem dX1_readGroup_142 : decode cX1_readGroup 142 = .ok (.getfield 109, 3) := by decide +kernel
theorem dX1_readGroup_145 : decode cX1_readGroup 145 = .ok (.ifCond .eq 7, 3) := by decide +kernel
theorem dX1_readGroup_148 : decode cX1_readGroup 148 = .ok (.iconst 1, 1) := by decide +kernel
theorem dX1_readGroup_149 : decode cX1_readGroup 149 = .ok (.goto 4, 3) := by decide +kernel
theorem dX1_readGroup_152 : decode cX1_readGroup 152 = .ok (.iconst 0, 1) := by decide +kernel
theorem dX1_readGroup_153 : decode cX1_readGroup 153 = .ok (.ireturn, 1) := by decide +kernel
set_option maxRecDepth 20000 in
theorem ggX1_readOrdinary_X1_takeIn : GoodIn wsX1_readOrdinary wsX1_takeIn := goodIn_ca (goodIn_r _ [16, 17, 18, 19, 20, 15, 21, 22, 23, 49, 50, 51, 52, 53, 54, 55, 56, 57, 58, 59, 60] (by decide +kernel) (by decide +kernel)) (goodIn_sub (fun _ h => List.mem_cons_of_mem _ (List.mem_append_right _ h)) (by decide +kernel))
set_option maxRecDepth 20000 in
theorem gX1_readOrdinary_X1_takeIn : GoodIn wsX1_readOrdinary (wsV RX1 78 RX1 yX1_takeIn wsX1_takeIn) := goodIn_app (goodIn_of _ (by decide +kernel)) ggX1_readOrdinary_X1_takeIn
set_option maxRecDepth 20000 in
theorem ggX1_readOrdinary_X1_takeTincture : GoodIn wsX1_readOrdinary wsX1_takeTincture := goodIn_ca (goodIn_r _ [27, 17, 28, 29, 18, 19, 20, 15, 21, 22, 23, 30, 31, 32, 33, 34, 35, 49, 50, 51, 52, 53, 54, 55, 56, 57, 58, 59, 60] (by decide +kernel) (by decide +kernel)) (goodIn_sub (fun _ h => List.mem_cons_of_mem _ (List.mem_append_right _ h)) (by decide +kernel))
set_option maxRecDepth 20000 in
theorem gX1_readOrdinary_X1_takeTincture : GoodIn wsX1_readOrdinary (wsV RX1 82 RX1 yX1_takeTincture wsX1_takeTincture) := goodIn_app (goodIn_of _ (by decide +kernel)) ggX1_readOrdinary_X1_takeTincture
theorem dX1_readOrdinary_0 : decode cX1_readOrdinary 0 = .ok (.aload_n 1, 1) := by decide +kernel
theorem dX1_readOrdinary_1 : decode cX1_readOrdinary 1 = .ok (.getfield 86, 3) := by decide +kernel
theorem dX1_readOrdinary_4 : decode cX1_readOrdinary 4 = .ok (.bipush 25, 2) := by decide +kernel
theorem dX1_readOrdinary_6 : decode cX1_readOrdinary 6 = .ok (.if_icmp .eq 25, 3) := by decide +kernel
theorem dX1_readOrdinary_9 : decode cX1_readOrdinary 9 = .ok (.aload_n 1, 1) := by decide +kernel
theorem dX1_readOrdinary_10 : decode cX1_readOrdinary 10 = .ok (.getfield 86, 3) := by decide +kernel
theorem dX1_readOrdinary_13 : decode cX1_readOrdinary 13 = .ok (.bipush 26, 2) := by decide +kernel
theorem dX1_readOrdinary_15 : decode cX1_readOrdinary 15 = .ok (.if_icmp .eq 16, 3) := by decide +kernel
theorem dX1_readOrdinary_18 : decode cX1_readOrdinary 18 = .ok (.aload_n 1, 1) := by decide +kernel
theorem dX1_readOrdinary_19 : decode cX1_readOrdinary 19 = .ok (.getfield 86, 3) := by decide +kernel
theorem dX1_readOrdinary_22 : decode cX1_readOrdinary 22 = .ok (.bipush 28, 2) := by decide +kernel
theorem dX1_readOrdinary_24 : decode cX1_readOrdinary 24 = .ok (.if_icmp .eq 7, 3) := by decide +kernel
theorem dX1_readOrdinary_27 : decode cX1_readOrdinary 27 = .ok (.iconst 1, 1) := by decide +kernel
theorem dX1_readOrdinary_28 : decode cX1_readOrdinary 28 = .ok (.goto 4, 3) := by decide +kernel
theorem dX1_readOrdinary_31 : decode cX1_readOrdinary 31 = .ok (.iconst 0, 1) := by decide +kernel
theorem dX1_readOrdinary_32 : decode cX1_readOrdinary 32 = .ok (.istore_n 2, 1) := by decide +kernel
theorem dX1_readOrdinary_33 : decode cX1_readOrdinary 33 = .ok (.aload_n 1, 1) := by decide +kernel
theorem dX1_readOrdinary_34 : decode cX1_readOrdinary 34 = .ok (.iload_n 2, 1) := by decide +kernel
theorem dX1_readOrdinary_35 : decode cX1_readOrdinary 35 = .ok (.ifCond .eq 14, 3) := by decide +kernel
theorem dX1_readOrdinary_38 : decode cX1_readOrdinary 38 = .ok (.aload_n 0, 1) := by decide +kernel
theorem dX1_readOrdinary_39 : decode cX1_readOrdinary 39 = .ok (.bipush 9, 2) := by decide +kernel
theorem dX1_readOrdinary_41 : decode cX1_readOrdinary 41 = .ok (.bipush 10, 2) := by decide +kernel
theorem dX1_readOrdinary_43 : decode cX1_readOrdinary 43 = .ok (.invokevirtual 78, 3) := by decide +kernel
theorem dX1_readOrdinary_46 : decode cX1_readOrdinary 46 = .ok (.goto 4, 3) := by decide +kernel
theorem dX1_readOrdinary_49 : decode cX1_readOrdinary 49 = .ok (.iconst 0, 1) := by decide +kernel
theorem dX1_readOrdinary_50 : decode cX1_readOrdinary 50 = .ok (.putfield 112, 3) := by decide +kernel
theorem dX1_readOrdinary_53 : decode cX1_readOrdinary 53 = .ok (.aload_n 1, 1) := by decide +kernel
theorem dX1_readOrdinary_54 : decode cX1_readOrdinary 54 = .ok (.aload_n 0, 1) := by decide +kernel
theorem dX1_readOrdinary_55 : decode cX1_readOrdinary 55 = .ok (.iconst 0, 1) := by decide +kernel
theorem dX1_readOrdinary_56 : decode cX1_readOrdinary 56 = .ok (.invokevirtual 82, 3) := by decide +kernel
theorem dX1_readOrdinary_59 : decode cX1_readOrdinary 59 = .ok (.putfield 109, 3) := by decide +kernel
theorem dX1_readOrdinary_62 : decode cX1_readOrdinary 62 = .ok (.aload_n 1, 1) := by decide +kernel
theorem dX1_readOrdinary_63 : decode cX1_readOrdinary 63 = .ok (.getfield 109, 3) := by decide +kernel
theorem dX1_readOrdinary_66 : decode cX1_readOrdinary 66 = .ok (.ifCond .eq 14, 3) := by decide +kernel
theorem dX1_readOrdinary_69 : decode cX1_readOrdinary 69 = .ok (.aload_n 0, 1) := by decide +kernel
theorem dX1_readOrdinary_70 : decode cX1_readOrdinary 70 = .ok (.bipush 36, 2) := by decide +kernel
theorem dX1_readOrdinary_72 : decode cX1_readOrdinary 72 = .ok (.bipush 36, 2) := by decide +kernel
theorem dX1_readOrdinary_74 : decode cX1_readOrdinary 74 = .ok (.invokevirtual 78, 3) := by decide +kernel
theorem dX1_readOrdinary_77 : decode cX1_readOrdinary 77 = .ok (.ifCond .ne 16, 3) := by decide +kernel
theorem dX1_readOrdinary_80 : decode cX1_readOrdinary 80 = .ok (.aload_n 1, 1) := by decide +kernel
theorem dX1_readOrdinary_81 : decode cX1_readOrdinary 81 = .ok (.getfield 109, 3) := by decide +kernel
theorem dX1_readOrdinary_84 : decode cX1_readOrdinary 84 = .ok (.ifCond .eq 7, 3) := by decide +kernel
theorem dX1_readOrdinary_87 : decode cX1_readOrdinary 87 = .ok (.iconst 1, 1) := by decide +kernel
theorem dX1_readOrdinary_88 : decode cX1_readOrdinary 88 = .ok (.goto 4, 3) := by decide +kernel
theorem dX1_readOrdinary_91 : decode cX1_readOrdinary 91 = .ok (.iconst 0, 1) := by decide +kernel
theorem dX1_readOrdinary_92 : decode cX1_readOrdinary 92 = .ok (.ireturn, 1) := by decide +kernel
theorem dX1_readOrdinary_93 : decode cX1_readOrdinary 93 = .ok (.aload_n 1, 1) := by decide +kernel
theorem dX1_readOrdinary_94 : decode cX1_readOrdinary 94 = .ok (.aload_n 0, 1) := by decide +kernel
theorem dX1_readOrdinary_95 : decode cX1_readOrdinary 95 = .ok (.bipush 61, 2) := by decide +kernel
theorem dX1_readOrdinary_97 : decode cX1_readOrdinary 97 = .ok (.bipush 69, 2) := by decide +kernel
theorem dX1_readOrdinary_99 : decode cX1_readOrdinary 99 = .ok (.invokevirtual 78, 3) := by decide +kernel
theorem dX1_readOrdinary_102 : decode cX1_readOrdinary 102 = .ok (.bipush 60, 2) := by decide +kernel
theorem dX1_readOrdinary_104 : decode cX1_readOrdinary 104 = .ok (.isub, 1) := by decide +kernel
theorem dX1_readOrdinary_105 : decode cX1_readOrdinary 105 = .ok (.iconst 0, 1) := by decide +kernel
theorem dX1_readOrdinary_106 : decode cX1_readOrdinary 106 = .ok (.invokestatic 92, 3) := by decide +kernel
theorem dX1_readOrdinary_109 : decode cX1_readOrdinary 109 = .ok (.putfield 113, 3) := by decide +kernel
theorem dX1_readOrdinary_112 : decode cX1_readOrdinary 112 = .ok (.aload_n 1, 1) := by decide +kernel
theorem dX1_readOrdinary_113 : decode cX1_readOrdinary 113 = .ok (.getfield 113, 3) := by decide +kernel
theorem dX1_readOrdinary_116 : decode cX1_readOrdinary 116 = .ok (.ifCond .ne 5, 3) := by decide +kernel
theorem dX1_readOrdinary_119 : decode cX1_readOrdinary 119 = .ok (.iconst 0, 1) := by decide +kernel
theorem dX1_readOrdinary_120 : decode cX1_readOrdinary 120 = .ok (.ireturn, 1) := by decide +kernel
theorem dX1_readOrdinary_121 : decode cX1_readOrdinary 121 = .ok (.aload_n 1, 1) := by decide +kernel
theorem dX1_readOrdinary_122 : decode cX1_readOrdinary 122 = .ok (.aload_n 0, 1) := by decide +kernel
theorem dX1_readOrdinary_123 : decode cX1_readOrdinary 123 = .ok (.bipush 51, 2) := by decide +kernel
theorem dX1_readOrdinary_125 : decode cX1_readOrdinary 125 = .ok (.bipush 58, 2) := by decide +kernel
theorem dX1_readOrdinary_127 : decode cX1_readOrdinary 127 = .ok (.invokevirtual 78, 3) := by decide +kernel
theorem dX1_readOrdinary_130 : decode cX1_readOrdinary 130 = .ok (.putfield 116, 3) := by decide +kernel
theorem dX1_readOrdinary_133 : decode cX1_readOrdinary 133 = .ok (.aload_n 1, 1) := by decide +kernel
theorem dX1_readOrdinary_134 : decode cX1_readOrdinary 134 = .ok (.getfield 116, 3) := by decide +kernel
theorem dX1_readOrdinary_137 : decode cX1_readOrdinary 137 = .ok (.ifCond .ne 5, 3) := by decide +kernel
theorem dX1_readOrdinary_140 : decode cX1_readOrdinary 140 = .ok (.iconst 0, 1) := by decide +kernel
theorem dX1_readOrdinary_141 : decode cX1_readOrdinary 141 = .ok (.ireturn, 1) := by decide +kernel
theorem dX1_readOrdinary_142 : decode cX1_readOrdinary 142 = .ok (.aload_n 1, 1) := by decide +kernel
theorem dX1_readOrdinary_143 : decode cX1_readOrdinary 143 = .ok (.aload_n 0, 1) := by decide +kernel
theorem dX1_readOrdinary_144 : decode cX1_readOrdinary 144 = .ok (.bipush 45, 2) := by decide +kernel
theorem dX1_readOrdinary_146 : decode cX1_readOrdinary 146 = .ok (.bipush 46, 2) := by decide +kernel
theorem dX1_readOrdinary_148 : decode cX1_readOrdinary 148 = .ok (.invokevirtual 78, 3) := by decide +kernel
theorem dX1_readOrdinary_151 : decode cX1_readOrdinary 151 = .ok (.putfield 119, 3) := by decide +kernel
theorem dX1_readOrdinary_154 : decode cX1_readOrdinary 154 = .ok (.aload_n 1, 1) := by decide +kernel
theorem dX1_readOrdinary_155 : decode cX1_readOrdinary 155 = .ok (.aload_n 0, 1) := by decide +kernel
theorem dX1_readOrdinary_156 : decode cX1_readOrdinary 156 = .ok (.iconst 1, 1) := by decide +kernel
theorem dX1_readOrdinary_157 : decode cX1_readOrdinary 157 = .ok (.invokevirtual 82, 3) := by decide +kernel
theorem dX1_readOrdinary_160 : decode cX1_readOrdinary 160 = .ok (.putfield 122, 3) := by decide +kernel
theorem dX1_readOrdinary_163 : decode cX1_readOrdinary 163 = .ok (.aload_n 1, 1) := by decide +kernel
theorem dX1_readOrdinary_164 : decode cX1_readOrdinary 164 = .ok (.getfield 122, 3) := by decide +kernel
theorem dX1_readOrdinary_167 : decode cX1_readOrdinary 167 = .ok (.ifCond .eq 7, 3) := by decide +kernel
theorem dX1_readOrdinary_170 : decode cX1_readOrdinary 170 = .ok (.iconst 1, 1) := by decide +kernel
theorem dX1_readOrdinary_171 : decode cX1_readOrdinary 171 = .ok (.goto 4, 3) := by decide +kernel
theorem dX1_readOrdinary_174 : decode cX1_readOrdinary 174 = .ok (.iconst 0, 1) := by decide +kernel
theorem dX1_readOrdinary_175 : decode cX1_readOrdinary 175 = .ok (.ireturn, 1) := by decide +kernel
set_option maxRecDepth 20000 in
theorem ggX1_takeIn_X1_wordAt : GoodIn wsX1_takeIn wsX1_wordAt := goodIn_ca (goodIn_r _ [6, 7, 8, 9, 10, 11, 12, 13, 14, 15, 16, 17, 18, 19, 20] (by decide +kernel) (by decide +kernel)) (goodIn_sub (fun _ h => List.mem_cons_of_mem _ (List.mem_append_right _ h)) (by decide +kernel))
set_option maxRecDepth 20000 in
theorem gX1_takeIn_X1_wordAt : GoodIn wsX1_takeIn (wsV RX1 74 RX1 yX1_wordAt wsX1_wordAt) := goodIn_app (goodIn_of _ (by decide +kernel)) ggX1_takeIn_X1_wordAt
theorem dX1_takeIn_0 : decode cX1_takeIn 0 = .ok (.aload_n 0, 1) := by decide +kernel
theorem dX1_takeIn_1 : decode cX1_takeIn 1 = .ok (.aload_n 0, 1) := by decide +kernel
theorem dX1_takeIn_2 : decode cX1_takeIn 2 = .ok (.getfield 33, 3) := by decide +kernel
theorem dX1_takeIn_5 : decode cX1_takeIn 5 = .ok (.invokevirtual 74, 3) := by decide +kernel
theorem dX1_takeIn_8 : decode cX1_takeIn 8 = .ok (.istore_n 3, 1) := by decide +kernel
theorem dX1_takeIn_9 : decode cX1_takeIn 9 = .ok (.iload_n 3, 1) := by decide +kernel
theorem dX1_takeIn_10 : decode cX1_takeIn 10 = .ok (.iload_n 1, 1) := by decide +kernel
theorem dX1_takeIn_11 : decode cX1_takeIn 11 = .ok (.if_icmp .lt 8, 3) := by decide +kernel
theorem dX1_takeIn_14 : decode cX1_takeIn 14 = .ok (.iload_n 3, 1) := by decide +kernel
theorem dX1_takeIn_15 : decode cX1_takeIn 15 = .ok (.iload_n 2, 1) := by decide +kernel
theorem dX1_takeIn_16 : decode cX1_takeIn 16 = .ok (.if_icmp .le 5, 3) := by decide +kernel
theorem dX1_takeIn_19 : decode cX1_takeIn 19 = .ok (.iconst 0, 1) := by decide +kernel
theorem dX1_takeIn_20 : decode cX1_takeIn 20 = .ok (.ireturn, 1) := by decide +kernel
theorem dX1_takeIn_21 : decode cX1_takeIn 21 = .ok (.aload_n 0, 1) := by decide +kernel
theorem dX1_takeIn_22 : decode cX1_takeIn 22 = .ok (.dup, 1) := by decide +kernel
theorem dX1_takeIn_23 : decode cX1_takeIn 23 = .ok (.getfield 33, 3) := by decide +kernel
theorem dX1_takeIn_26 : decode cX1_takeIn 26 = .ok (.iconst 1, 1) := by decide +kernel
theorem dX1_takeIn_27 : decode cX1_takeIn 27 = .ok (.iadd, 1) := by decide +kernel
theorem dX1_takeIn_28 : decode cX1_takeIn 28 = .ok (.putfield 33, 3) := by decide +kernel
theorem dX1_takeIn_31 : decode cX1_takeIn 31 = .ok (.iload_n 3, 1) := by decide +kernel
theorem dX1_takeIn_32 : decode cX1_takeIn 32 = .ok (.ireturn, 1) := by decide +kernel
set_option maxRecDepth 20000 in
theorem ggX1_takeTincture_X1_wordAt : GoodIn wsX1_takeTincture wsX1_wordAt := goodIn_ca (goodIn_r _ [8, 9, 10, 17, 18, 19, 20, 21, 22, 23, 24, 25, 26, 27, 28] (by decide +kernel) (by decide +kernel)) (goodIn_sub (fun _ h => List.mem_cons_of_mem _ (List.mem_append_right _ h)) (by decide +kernel))
set_option maxRecDepth 20000 in
theorem gX1_takeTincture_X1_wordAt : GoodIn wsX1_takeTincture (wsV RX1 74 RX1 yX1_wordAt wsX1_wordAt) := goodIn_app (goodIn_of _ (by decide +kernel)) ggX1_takeTincture_X1_wordAt
set_option maxRecDepth 20000 in
theorem ggX1_takeTincture_X1_meaningOf : GoodIn wsX1_takeTincture wsX1_meaningOf := goodIn_r _ [14, 3, 15, 16, 17, 18, 19, 20, 21, 22, 23, 24, 25, 26, 27, 28] (by decide +kernel) (by decide +kernel)
set_option maxRecDepth 20000 in
theorem gX1_takeTincture_X1_meaningOf : GoodIn wsX1_takeTincture (wsV RX1 125 RX1 yX1_meaningOf wsX1_meaningOf) := goodIn_app (goodIn_of _ (by decide +kernel)) ggX1_takeTincture_X1_meaningOf
theorem dX1_takeTincture_0 : decode cX1_takeTincture 0 = .ok (.aload_n 0, 1) := by decide +kernel
theorem dX1_takeTincture_1 : decode cX1_takeTincture 1 = .ok (.aload_n 0, 1) := by decide +kernel
theorem dX1_takeTincture_2 : decode cX1_takeTincture 2 = .ok (.aload_n 0, 1) := by decide +kernel
theorem dX1_takeTincture_3 : decode cX1_takeTincture 3 = .ok (.getfield 33, 3) := by decide +kernel
theorem dX1_takeTincture_6 : decode cX1_takeTincture 6 = .ok (.invokevirtual 74, 3) := by decide +kernel
theorem dX1_takeTincture_9 : decode cX1_takeTincture 9 = .ok (.iload_n 1, 1) := by decide +kernel
theorem dX1_takeTincture_10 : decode cX1_takeTincture 10 = .ok (.invokevirtual 125, 3) := by decide +kernel
theorem dX1_takeTincture_13 : decode cX1_takeTincture 13 = .ok (.istore_n 2, 1) := by decide +kernel
theorem dX1_takeTincture_14 : decode cX1_takeTincture 14 = .ok (.iload_n 2, 1) := by decide +kernel
theorem dX1_takeTincture_15 : decode cX1_takeTincture 15 = .ok (.ifCond .eq 19, 3) := by decide +kernel
theorem dX1_takeTincture_18 : decode cX1_takeTincture 18 = .ok (.aload_n 0, 1) := by decide +kernel
theorem dX1_takeTincture_19 : decode cX1_takeTincture 19 = .ok (.getfield 33, 3) := by decide +kernel
theorem dX1_takeTincture_22 : decode cX1_takeTincture 22 = .ok (.ifCond .lt 12, 3) := by decide +kernel
theorem dX1_takeTincture_25 : decode cX1_takeTincture 25 = .ok (.aload_n 0, 1) := by decide +kernel
theorem dX1_takeTincture_26 : decode cX1_takeTincture 26 = .ok (.getfield 33, 3) := by decide +kernel
theorem dX1_takeTincture_29 : decode cX1_takeTincture 29 = .ok (.bipush 24, 2) := by decide +kernel
theorem dX1_takeTincture_31 : decode cX1_takeTincture 31 = .ok (.if_icmp .lt 5, 3) := by decide +kernel
theorem dX1_takeTincture_34 : decode cX1_takeTincture 34 = .ok (.iconst 0, 1) := by decide +kernel
theorem dX1_takeTincture_35 : decode cX1_takeTincture 35 = .ok (.ireturn, 1) := by decide +kernel
theorem dX1_takeTincture_36 : decode cX1_takeTincture 36 = .ok (.aload_n 0, 1) := by decide +kernel
theorem dX1_takeTincture_37 : decode cX1_takeTincture 37 = .ok (.getfield 15, 3) := by decide +kernel
theorem dX1_takeTincture_40 : decode cX1_takeTincture 40 = .ok (.aload_n 0, 1) := by decide +kernel
theorem dX1_takeTincture_41 : decode cX1_takeTincture 41 = .ok (.getfield 33, 3) := by decide +kernel
theorem dX1_takeTincture_44 : decode cX1_takeTincture 44 = .ok (.iload_n 2, 1) := by decide +kernel
theorem dX1_takeTincture_45 : decode cX1_takeTincture 45 = .ok (.iastore, 1) := by decide +kernel
theorem dX1_takeTincture_46 : decode cX1_takeTincture 46 = .ok (.aload_n 0, 1) := by decide +kernel
theorem dX1_takeTincture_47 : decode cX1_takeTincture 47 = .ok (.iload_n 2, 1) := by decide +kernel
theorem dX1_takeTincture_48 : decode cX1_takeTincture 48 = .ok (.putfield 36, 3) := by decide +kernel
theorem dX1_takeTincture_51 : decode cX1_takeTincture 51 = .ok (.aload_n 0, 1) := by decide +kernel
theorem dX1_takeTincture_52 : decode cX1_takeTincture 52 = .ok (.dup, 1) := by decide +kernel
theorem dX1_takeTincture_53 : decode cX1_takeTincture 53 = .ok (.getfield 33, 3) := by decide +kernel
theorem dX1_takeTincture_56 : decode cX1_takeTincture 56 = .ok (.iconst 1, 1) := by decide +kernel
theorem dX1_takeTincture_57 : decode cX1_takeTincture 57 = .ok (.iadd, 1) := by decide +kernel
theorem dX1_takeTincture_58 : decode cX1_takeTincture 58 = .ok (.putfield 33, 3) := by decide +kernel
theorem dX1_takeTincture_61 : decode cX1_takeTincture 61 = .ok (.iload_n 2, 1) := by decide +kernel
theorem dX1_takeTincture_62 : decode cX1_takeTincture 62 = .ok (.ireturn, 1) := by decide +kernel
theorem dX1_meaningOf_0 : decode cX1_meaningOf 0 = .ok (.iload_n 1, 1) := by decide +kernel
theorem dX1_meaningOf_1 : decode cX1_meaningOf 1 = .ok (.iconst 1, 1) := by decide +kernel
theorem dX1_meaningOf_2 : decode cX1_meaningOf 2 = .ok (.if_icmp .lt 11, 3) := by decide +kernel
theorem dX1_meaningOf_5 : decode cX1_meaningOf 5 = .ok (.iload_n 1, 1) := by decide +kernel
theorem dX1_meaningOf_6 : decode cX1_meaningOf 6 = .ok (.bipush 8, 2) := by decide +kernel
theorem dX1_meaningOf_8 : decode cX1_meaningOf 8 = .ok (.if_icmp .gt 5, 3) := by decide +kernel
theorem dX1_meaningOf_11 : decode cX1_meaningOf 11 = .ok (.iload_n 1, 1) := by decide +kernel
theorem dX1_meaningOf_12 : decode cX1_meaningOf 12 = .ok (.ireturn, 1) := by decide +kernel
theorem dX1_meaningOf_13 : decode cX1_meaningOf 13 = .ok (.iload_n 1, 1) := by decide +kernel
theorem dX1_meaningOf_14 : decode cX1_meaningOf 14 = .ok (.tableswitch 87 31 35 #[34, 59, 64, 87, 69], 34) := by decide +kernel
theorem dX1_meaningOf_48 : decode cX1_meaningOf 48 = .ok (.iload_n 2, 1) := by decide +kernel
theorem dX1_meaningOf_49 : decode cX1_meaningOf 49 = .ok (.ifCond .eq 19, 3) := by decide +kernel
theorem dX1_meaningOf_52 : decode cX1_meaningOf 52 = .ok (.aload_n 0, 1) := by decide +kernel
theorem dX1_meaningOf_53 : decode cX1_meaningOf 53 = .ok (.getfield 36, 3) := by decide +kernel
theorem dX1_meaningOf_56 : decode cX1_meaningOf 56 = .ok (.bipush 35, 2) := by decide +kernel
theorem dX1_meaningOf_58 : decode cX1_meaningOf 58 = .ok (.if_icmp .ne 10, 3) := by decide +kernel
theorem dX1_meaningOf_61 : decode cX1_meaningOf 61 = .ok (.aload_n 0, 1) := by decide +kernel
theorem dX1_meaningOf_62 : decode cX1_meaningOf 62 = .ok (.getfield 48, 3) := by decide +kernel
theorem dX1_meaningOf_65 : decode cX1_meaningOf 65 = .ok (.goto 7, 3) := by decide +kernel
theorem dX1_meaningOf_68 : decode cX1_meaningOf 68 = .ok (.aload_n 0, 1) := by decide +kernel
theorem dX1_meaningOf_69 : decode cX1_meaningOf 69 = .ok (.getfield 36, 3) := by decide +kernel
theorem dX1_meaningOf_72 : decode cX1_meaningOf 72 = .ok (.ireturn, 1) := by decide +kernel
theorem dX1_meaningOf_73 : decode cX1_meaningOf 73 = .ok (.aload_n 0, 1) := by decide +kernel
theorem dX1_meaningOf_74 : decode cX1_meaningOf 74 = .ok (.getfield 48, 3) := by decide +kernel
theorem dX1_meaningOf_77 : decode cX1_meaningOf 77 = .ok (.ireturn, 1) := by decide +kernel
theorem dX1_meaningOf_78 : decode cX1_meaningOf 78 = .ok (.aload_n 0, 1) := by decide +kernel
theorem dX1_meaningOf_79 : decode cX1_meaningOf 79 = .ok (.getfield 51, 3) := by decide +kernel
theorem dX1_meaningOf_82 : decode cX1_meaningOf 82 = .ok (.ireturn, 1) := by decide +kernel
theorem dX1_meaningOf_83 : decode cX1_meaningOf 83 = .ok (.aload_n 0, 1) := by decide +kernel
theorem dX1_meaningOf_84 : decode cX1_meaningOf 84 = .ok (.getfield 51, 3) := by decide +kernel
theorem dX1_meaningOf_87 : decode cX1_meaningOf 87 = .ok (.ifCond .eq 12, 3) := by decide +kernel
theorem dX1_meaningOf_90 : decode cX1_meaningOf 90 = .ok (.iload_n 2, 1) := by decide +kernel
theorem dX1_meaningOf_91 : decode cX1_meaningOf 91 = .ok (.ifCond .ne 8, 3) := by decide +kernel
theorem dX1_meaningOf_94 : decode cX1_meaningOf 94 = .ok (.bipush 35, 2) := by decide +kernel
theorem dX1_meaningOf_96 : decode cX1_meaningOf 96 = .ok (.goto 4, 3) := by decide +kernel
theorem dX1_meaningOf_99 : decode cX1_meaningOf 99 = .ok (.iconst 0, 1) := by decide +kernel
theorem dX1_meaningOf_100 : decode cX1_meaningOf 100 = .ok (.ireturn, 1) := by decide +kernel
theorem dX1_meaningOf_101 : decode cX1_meaningOf 101 = .ok (.iconst 0, 1) := by decide +kernel
theorem dX1_meaningOf_102 : decode cX1_meaningOf 102 = .ok (.ireturn, 1) := by decide +kernel
set_option maxRecDepth 20000 in
theorem ggX1_countBreaks_X1_isSameKind : GoodIn wsX1_countBreaks wsX1_isSameKind := goodIn_r _ [12] (by decide +kernel) (by decide +kernel)
set_option maxRecDepth 20000 in
theorem gX1_countBreaks_X1_isSameKind : GoodIn wsX1_countBreaks (va_wsS RX1 129 yX1_isSameKind wsX1_isSameKind) := goodIn_app (goodIn_of _ (by decide +kernel)) ggX1_countBreaks_X1_isSameKind
theorem dX1_countBreaks_0 : decode cX1_countBreaks 0 = .ok (.iconst 0, 1) := by decide +kernel
theorem dX1_countBreaks_1 : decode cX1_countBreaks 1 = .ok (.istore_n 1, 1) := by decide +kernel
theorem dX1_countBreaks_2 : decode cX1_countBreaks 2 = .ok (.iconst 0, 1) := by decide +kernel
theorem dX1_countBreaks_3 : decode cX1_countBreaks 3 = .ok (.istore_n 2, 1) := by decide +kernel
theorem dX1_countBreaks_4 : decode cX1_countBreaks 4 = .ok (.iload_n 2, 1) := by decide +kernel
theorem dX1_countBreaks_5 : decode cX1_countBreaks 5 = .ok (.aload_n 0, 1) := by decide +kernel
theorem dX1_countBreaks_6 : decode cX1_countBreaks 6 = .ok (.getfield 54, 3) := by decide +kernel
theorem dX1_countBreaks_9 : decode cX1_countBreaks 9 = .ok (.if_icmp .ge 78, 3) := by decide +kernel
theorem dX1_countBreaks_12 : decode cX1_countBreaks 12 = .ok (.iload_n 2, 1) := by decide +kernel
theorem dX1_countBreaks_13 : decode cX1_countBreaks 13 = .ok (.iconst 4, 1) := by decide +kernel
theorem dX1_countBreaks_14 : decode cX1_countBreaks 14 = .ok (.if_icmp .ge 73, 3) := by decide +kernel
theorem dX1_countBreaks_17 : decode cX1_countBreaks 17 = .ok (.aload_n 0, 1) := by decide +kernel
theorem dX1_countBreaks_18 : decode cX1_countBreaks 18 = .ok (.getfield 20, 3) := by decide +kernel
theorem dX1_countBreaks_21 : decode cX1_countBreaks 21 = .ok (.iload_n 2, 1) := by decide +kernel
theorem dX1_countBreaks_22 : decode cX1_countBreaks 22 = .ok (.aaload, 1) := by decide +kernel
theorem dX1_countBreaks_23 : decode cX1_countBreaks 23 = .ok (.astore_n 3, 1) := by decide +kernel
theorem dX1_countBreaks_24 : decode cX1_countBreaks 24 = .ok (.aload_n 0, 1) := by decide +kernel
theorem dX1_countBreaks_25 : decode cX1_countBreaks 25 = .ok (.getfield 42, 3) := by decide +kernel
theorem dX1_countBreaks_28 : decode cX1_countBreaks 28 = .ok (.ifCond .ne 29, 3) := by decide +kernel
theorem dX1_countBreaks_31 : decode cX1_countBreaks 31 = .ok (.aload_n 3, 1) := by decide +kernel
theorem dX1_countBreaks_32 : decode cX1_countBreaks 32 = .ok (.getfield 86, 3) := by decide +kernel
theorem dX1_countBreaks_35 : decode cX1_countBreaks 35 = .ok (.bipush 28, 2) := by decide +kernel
theorem dX1_countBreaks_37 : decode cX1_countBreaks 37 = .ok (.if_icmp .eq 20, 3) := by decide +kernel
theorem dX1_countBreaks_40 : decode cX1_countBreaks 40 = .ok (.aload_n 3, 1) := by decide +kernel
theorem dX1_countBreaks_41 : decode cX1_countBreaks 41 = .ok (.getfield 109, 3) := by decide +kernel
theorem dX1_countBreaks_44 : decode cX1_countBreaks 44 = .ok (.aload_n 0, 1) := by decide +kernel
theorem dX1_countBreaks_45 : decode cX1_countBreaks 45 = .ok (.getfield 48, 3) := by decide +kernel
theorem dX1_countBreaks_48 : decode cX1_countBreaks 48 = .ok (.invokestatic 129, 3) := by decide +kernel
theorem dX1_countBreaks_51 : decode cX1_countBreaks 51 = .ok (.ifCond .eq 6, 3) := by decide +kernel
theorem dX1_countBreaks_54 : decode cX1_countBreaks 54 = .ok (.iinc 1 1, 3) := by decide +kernel
theorem dX1_countBreaks_57 : decode cX1_countBreaks 57 = .ok (.aload_n 3, 1) := by decide +kernel
theorem dX1_countBreaks_58 : decode cX1_countBreaks 58 = .ok (.getfield 113, 3) := by decide +kernel
theorem dX1_countBreaks_61 : decode cX1_countBreaks 61 = .ok (.ifCond .eq 20, 3) := by decide +kernel
theorem dX1_countBreaks_64 : decode cX1_countBreaks 64 = .ok (.aload_n 3, 1) := by decide +kernel
theorem dX1_countBreaks_65 : decode cX1_countBreaks 65 = .ok (.getfield 122, 3) := by decide +kernel
theorem dX1_countBreaks_68 : decode cX1_countBreaks 68 = .ok (.aload_n 3, 1) := by decide +kernel
theorem dX1_countBreaks_69 : decode cX1_countBreaks 69 = .ok (.getfield 109, 3) := by decide +kernel
theorem dX1_countBreaks_72 : decode cX1_countBreaks 72 = .ok (.invokestatic 129, 3) := by decide +kernel
theorem dX1_countBreaks_75 : decode cX1_countBreaks 75 = .ok (.ifCond .eq 6, 3) := by decide +kernel
theorem dX1_countBreaks_78 : decode cX1_countBreaks 78 = .ok (.iinc 1 1, 3) := by decide +kernel
theorem dX1_countBreaks_81 : decode cX1_countBreaks 81 = .ok (.iinc 2 1, 3) := by decide +kernel
theorem dX1_countBreaks_84 : decode cX1_countBreaks 84 = .ok (.goto (-80), 3) := by decide +kernel
theorem dX1_countBreaks_87 : decode cX1_countBreaks 87 = .ok (.iload_n 1, 1) := by decide +kernel
theorem dX1_countBreaks_88 : decode cX1_countBreaks 88 = .ok (.ireturn, 1) := by decide +kernel
theorem dX1_isSameKind_0 : decode cX1_isSameKind 0 = .ok (.iload_n 0, 1) := by decide +kernel
theorem dX1_isSameKind_1 : decode cX1_isSameKind 1 = .ok (.iconst 1, 1) := by decide +kernel
theorem dX1_isSameKind_2 : decode cX1_isSameKind 2 = .ok (.if_icmp .lt 47, 3) := by decide +kernel
theorem dX1_isSameKind_5 : decode cX1_isSameKind 5 = .ok (.iload_n 1, 1) := by decide +kernel
theorem dX1_isSameKind_6 : decode cX1_isSameKind 6 = .ok (.iconst 1, 1) := by decide +kernel
theorem dX1_isSameKind_7 : decode cX1_isSameKind 7 = .ok (.if_icmp .lt 42, 3) := by decide +kernel
theorem dX1_isSameKind_10 : decode cX1_isSameKind 10 = .ok (.iload_n 0, 1) := by decide +kernel
theorem dX1_isSameKind_11 : decode cX1_isSameKind 11 = .ok (.bipush 8, 2) := by decide +kernel
theorem dX1_isSameKind_13 : decode cX1_isSameKind 13 = .ok (.if_icmp .ge 36, 3) := by decide +kernel
theorem dX1_isSameKind_16 : decode cX1_isSameKind 16 = .ok (.iload_n 1, 1) := by decide +kernel
theorem dX1_isSameKind_17 : decode cX1_isSameKind 17 = .ok (.bipush 8, 2) := by decide +kernel
theorem dX1_isSameKind_19 : decode cX1_isSameKind 19 = .ok (.if_icmp .ge 30, 3) := by decide +kernel
theorem dX1_isSameKind_22 : decode cX1_isSameKind 22 = .ok (.iload_n 0, 1) := by decide +kernel
theorem dX1_isSameKind_23 : decode cX1_isSameKind 23 = .ok (.iconst 2, 1) := by decide +kernel
theorem dX1_isSameKind_24 : decode cX1_isSameKind 24 = .ok (.if_icmp .gt 7, 3) := by decide +kernel
theorem dX1_isSameKind_27 : decode cX1_isSameKind 27 = .ok (.iconst 1, 1) := by decide +kernel
theorem dX1_isSameKind_28 : decode cX1_isSameKind 28 = .ok (.goto 4, 3) := by decide +kernel
theorem dX1_isSameKind_31 : decode cX1_isSameKind 31 = .ok (.iconst 0, 1) := by decide +kernel
theorem dX1_isSameKind_32 : decode cX1_isSameKind 32 = .ok (.iload_n 1, 1) := by decide +kernel
theorem dX1_isSameKind_33 : decode cX1_isSameKind 33 = .ok (.iconst 2, 1) := by decide +kernel
theorem dX1_isSameKind_34 : decode cX1_isSameKind 34 = .ok (.if_icmp .gt 7, 3) := by decide +kernel
theorem dX1_isSameKind_37 : decode cX1_isSameKind 37 = .ok (.iconst 1, 1) := by decide +kernel
theorem dX1_isSameKind_38 : decode cX1_isSameKind 38 = .ok (.goto 4, 3) := by decide +kernel
theorem dX1_isSameKind_41 : decode cX1_isSameKind 41 = .ok (.iconst 0, 1) := by decide +kernel
theorem dX1_isSameKind_42 : decode cX1_isSameKind 42 = .ok (.if_icmp .ne 7, 3) := by decide +kernel
theorem dX1_isSameKind_45 : decode cX1_isSameKind 45 = .ok (.iconst 1, 1) := by decide +kernel
theorem dX1_isSameKind_46 : decode cX1_isSameKind 46 = .ok (.goto 4, 3) := by decide +kernel
theorem dX1_isSameKind_49 : decode cX1_isSameKind 49 = .ok (.iconst 0, 1) := by decide +kernel
theorem dX1_isSameKind_50 : decode cX1_isSameKind 50 = .ok (.ireturn, 1) := by decide +kernel
set_option maxRecDepth 20000 in
theorem ggX1_lossesIn_X1_wordAt : GoodIn wsX1_lossesIn wsX1_wordAt := goodIn_ca (goodIn_r _ [6, 1, 7, 11, 12, 13, 14, 15, 16, 17, 18, 19, 20, 21, 22] (by decide +kernel) (by decide +kernel)) (goodIn_sub (fun _ h => List.mem_cons_of_mem _ (List.mem_append_right _ h)) (by decide +kernel))
set_option maxRecDepth 20000 in
theorem gX1_lossesIn_X1_wordAt : GoodIn wsX1_lossesIn (wsV RX1 74 RX1 yX1_wordAt wsX1_wordAt) := goodIn_app (goodIn_of _ (by decide +kernel)) ggX1_lossesIn_X1_wordAt
set_option maxRecDepth 20000 in
theorem ggX1_lossesIn_X1_inTradition : GoodIn wsX1_lossesIn wsX1_inTradition := goodIn_r _ [10] (by decide +kernel) (by decide +kernel)
set_option maxRecDepth 20000 in
theorem gX1_lossesIn_X1_inTradition : GoodIn wsX1_lossesIn (va_wsS RX1 133 yX1_inTradition wsX1_inTradition) := goodIn_app (goodIn_of _ (by decide +kernel)) ggX1_lossesIn_X1_inTradition
theorem dX1_lossesIn_0 : decode cX1_lossesIn 0 = .ok (.iconst 0, 1) := by decide +kernel
theorem dX1_lossesIn_1 : decode cX1_lossesIn 1 = .ok (.istore_n 2, 1) := by decide +kernel
theorem dX1_lossesIn_2 : decode cX1_lossesIn 2 = .ok (.iconst 0, 1) := by decide +kernel
theorem dX1_lossesIn_3 : decode cX1_lossesIn 3 = .ok (.istore_n 3, 1) := by decide +kernel
theorem dX1_lossesIn_4 : decode cX1_lossesIn 4 = .ok (.iload_n 3, 1) := by decide +kernel
theorem dX1_lossesIn_5 : decode cX1_lossesIn 5 = .ok (.aload_n 0, 1) := by decide +kernel
theorem dX1_lossesIn_6 : decode cX1_lossesIn 6 = .ok (.getfield 25, 3) := by decide +kernel
theorem dX1_lossesIn_9 : decode cX1_lossesIn 9 = .ok (.if_icmp .ge 30, 3) := by decide +kernel
theorem dX1_lossesIn_12 : decode cX1_lossesIn 12 = .ok (.aload_n 0, 1) := by decide +kernel
theorem dX1_lossesIn_13 : decode cX1_lossesIn 13 = .ok (.iload_n 3, 1) := by decide +kernel
theorem dX1_lossesIn_14 : decode cX1_lossesIn 14 = .ok (.invokevirtual 74, 3) := by decide +kernel
theorem dX1_lossesIn_17 : decode cX1_lossesIn 17 = .ok (.istore 4, 2) := by decide +kernel
theorem dX1_lossesIn_19 : decode cX1_lossesIn 19 = .ok (.iload_n 1, 1) := by decide +kernel
theorem dX1_lossesIn_20 : decode cX1_lossesIn 20 = .ok (.iload 4, 2) := by decide +kernel
theorem dX1_lossesIn_22 : decode cX1_lossesIn 22 = .ok (.invokestatic 133, 3) := by decide +kernel
theorem dX1_lossesIn_25 : decode cX1_lossesIn 25 = .ok (.iload 4, 2) := by decide +kernel
theorem dX1_lossesIn_27 : decode cX1_lossesIn 27 = .ok (.if_icmp .eq 6, 3) := by decide +kernel
theorem dX1_lossesIn_30 : decode cX1_lossesIn 30 = .ok (.iinc 2 1, 3) := by decide +kernel
theorem dX1_lossesIn_33 : decode cX1_lossesIn 33 = .ok (.iinc 3 1, 3) := by decide +kernel
theorem dX1_lossesIn_36 : decode cX1_lossesIn 36 = .ok (.goto (-32), 3) := by decide +kernel
theorem dX1_lossesIn_39 : decode cX1_lossesIn 39 = .ok (.iload_n 2, 1) := by decide +kernel
theorem dX1_lossesIn_40 : decode cX1_lossesIn 40 = .ok (.ireturn, 1) := by decide +kernel
set_option maxRecDepth 20000 in
theorem ggX1_wordIn_X1_wordAt : GoodIn wsX1_wordIn wsX1_wordAt := goodIn_ca (goodIn_r _ [6, 1, 7, 11, 12, 13, 14, 15, 16, 17, 18, 19, 20, 21, 22] (by decide +kernel) (by decide +kernel)) (goodIn_sub (fun _ h => List.mem_cons_of_mem _ (List.mem_append_right _ h)) (by decide +kernel))
set_option maxRecDepth 20000 in
theorem gX1_wordIn_X1_wordAt : GoodIn wsX1_wordIn (wsV RX1 74 RX1 yX1_wordAt wsX1_wordAt) := goodIn_app (goodIn_of _ (by decide +kernel)) ggX1_wordIn_X1_wordAt
set_option maxRecDepth 20000 in
theorem ggX1_wordIn_X1_inTradition : GoodIn wsX1_wordIn wsX1_inTradition := goodIn_r _ [10] (by decide +kernel) (by decide +kernel)
set_option maxRecDepth 20000 in
theorem gX1_wordIn_X1_inTradition : GoodIn wsX1_wordIn (va_wsS RX1 133 yX1_inTradition wsX1_inTradition) := goodIn_app (goodIn_of _ (by decide +kernel)) ggX1_wordIn_X1_inTradition
theorem dX1_wordIn_0 : decode cX1_wordIn 0 = .ok (.iconst 0, 1) := by decide +kernel
theorem dX1_wordIn_1 : decode cX1_wordIn 1 = .ok (.istore_n 3, 1) := by decide +kernel
theorem dX1_wordIn_2 : decode cX1_wordIn 2 = .ok (.iconst 0, 1) := by decide +kernel
theorem dX1_wordIn_3 : decode cX1_wordIn 3 = .ok (.istore 4, 2) := by decide +kernel
theorem dX1_wordIn_5 : decode cX1_wordIn 5 = .ok (.iload 4, 2) := by decide +kernel
theorem dX1_wordIn_7 : decode cX1_wordIn 7 = .ok (.aload_n 0, 1) := by decide +kernel
theorem dX1_wordIn_8 : decode cX1_wordIn 8 = .ok (.getfield 25, 3) := by decide +kernel
theorem dX1_wordIn_11 : decode cX1_wordIn 11 = .ok (.if_icmp .ge 37, 3) := by decide +kernel
theorem dX1_wordIn_14 : decode cX1_wordIn 14 = .ok (.iload_n 1, 1) := by decide +kernel
theorem dX1_wordIn_15 : decode cX1_wordIn 15 = .ok (.aload_n 0, 1) := by decide +kernel
theorem dX1_wordIn_16 : decode cX1_wordIn 16 = .ok (.iload 4, 2) := by decide +kernel
theorem dX1_wordIn_18 : decode cX1_wordIn 18 = .ok (.invokevirtual 74, 3) := by decide +kernel
theorem dX1_wordIn_21 : decode cX1_wordIn 21 = .ok (.invokestatic 133, 3) := by decide +kernel
theorem dX1_wordIn_24 : decode cX1_wordIn 24 = .ok (.istore 5, 2) := by decide +kernel
theorem dX1_wordIn_26 : decode cX1_wordIn 26 = .ok (.iload 5, 2) := by decide +kernel
theorem dX1_wordIn_28 : decode cX1_wordIn 28 = .ok (.ifCond .eq 14, 3) := by decide +kernel
theorem dX1_wordIn_31 : decode cX1_wordIn 31 = .ok (.iload_n 3, 1) := by decide +kernel
theorem dX1_wordIn_32 : decode cX1_wordIn 32 = .ok (.iload_n 2, 1) := by decide +kernel
theorem dX1_wordIn_33 : decode cX1_wordIn 33 = .ok (.if_icmp .ne 6, 3) := by decide +kernel
theorem dX1_wordIn_36 : decode cX1_wordIn 36 = .ok (.iload 5, 2) := by decide +kernel
theorem dX1_wordIn_38 : decode cX1_wordIn 38 = .ok (.ireturn, 1) := by decide +kernel
theorem dX1_wordIn_39 : decode cX1_wordIn 39 = .ok (.iinc 3 1, 3) := by decide +kernel
theorem dX1_wordIn_42 : decode cX1_wordIn 42 = .ok (.iinc 4 1, 3) := by decide +kernel
theorem dX1_wordIn_45 : decode cX1_wordIn 45 = .ok (.goto (-40), 3) := by decide +kernel
theorem dX1_wordIn_48 : decode cX1_wordIn 48 = .ok (.iconst 0, 1) := by decide +kernel
theorem dX1_wordIn_49 : decode cX1_wordIn 49 = .ok (.ireturn, 1) := by decide +kernel
theorem dX1_inTradition_0 : decode cX1_inTradition 0 = .ok (.iload_n 0, 1) := by decide +kernel
theorem dX1_inTradition_1 : decode cX1_inTradition 1 = .ok (.tableswitch 86 1 3 #[27, 39, 57], 27) := by decide +kernel
theorem dX1_inTradition_28 : decode cX1_inTradition 28 = .ok (.iload_n 1, 1) := by decide +kernel
theorem dX1_inTradition_29 : decode cX1_inTradition 29 = .ok (.bipush 8, 2) := by decide +kernel
theorem dX1_inTradition_31 : decode cX1_inTradition 31 = .ok (.if_icmp .ne 7, 3) := by decide +kernel
theorem dX1_inTradition_34 : decode cX1_inTradition 34 = .ok (.iconst 2, 1) := by decide +kernel
theorem dX1_inTradition_35 : decode cX1_inTradition 35 = .ok (.goto 4, 3) := by decide +kernel
theorem dX1_inTradition_38 : decode cX1_inTradition 38 = .ok (.iload_n 1, 1) := by decide +kernel
theorem dX1_inTradition_39 : decode cX1_inTradition 39 = .ok (.ireturn, 1) := by decide +kernel
theorem dX1_inTradition_40 : decode cX1_inTradition 40 = .ok (.iload_n 1, 1) := by decide +kernel
theorem dX1_inTradition_41 : decode cX1_inTradition 41 = .ok (.bipush 9, 2) := by decide +kernel
theorem dX1_inTradition_43 : decode cX1_inTradition 43 = .ok (.if_icmp .eq 9, 3) := by decide +kernel
theorem dX1_inTradition_46 : decode cX1_inTradition 46 = .ok (.iload_n 1, 1) := by decide +kernel
theorem dX1_inTradition_47 : decode cX1_inTradition 47 = .ok (.bipush 10, 2) := by decide +kernel
theorem dX1_inTradition_49 : decode cX1_inTradition 49 = .ok (.if_icmp .ne 7, 3) := by decide +kernel
theorem dX1_inTradition_52 : decode cX1_inTradition 52 = .ok (.iconst 0, 1) := by decide +kernel
theorem dX1_inTradition_53 : decode cX1_inTradition 53 = .ok (.goto 4, 3) := by decide +kernel
theorem dX1_inTradition_56 : decode cX1_inTradition 56 = .ok (.iload_n 1, 1) := by decide +kernel
theorem dX1_inTradition_57 : decode cX1_inTradition 57 = .ok (.ireturn, 1) := by decide +kernel
theorem dX1_inTradition_58 : decode cX1_inTradition 58 = .ok (.iload_n 1, 1) := by decide +kernel
theorem dX1_inTradition_59 : decode cX1_inTradition 59 = .ok (.bipush 45, 2) := by decide +kernel
theorem dX1_inTradition_61 : decode cX1_inTradition 61 = .ok (.if_icmp .eq 9, 3) := by decide +kernel
theorem dX1_inTradition_64 : decode cX1_inTradition 64 = .ok (.iload_n 1, 1) := by decide +kernel
theorem dX1_inTradition_65 : decode cX1_inTradition 65 = .ok (.bipush 46, 2) := by decide +kernel
theorem dX1_inTradition_67 : decode cX1_inTradition 67 = .ok (.if_icmp .ne 7, 3) := by decide +kernel
theorem dX1_inTradition_70 : decode cX1_inTradition 70 = .ok (.iconst 0, 1) := by decide +kernel
theorem dX1_inTradition_71 : decode cX1_inTradition 71 = .ok (.goto 15, 3) := by decide +kernel
theorem dX1_inTradition_74 : decode cX1_inTradition 74 = .ok (.iload_n 1, 1) := by decide +kernel
theorem dX1_inTradition_75 : decode cX1_inTradition 75 = .ok (.bipush 39, 2) := by decide +kernel
theorem dX1_inTradition_77 : decode cX1_inTradition 77 = .ok (.if_icmp .ne 8, 3) := by decide +kernel
theorem dX1_inTradition_80 : decode cX1_inTradition 80 = .ok (.bipush 69, 2) := by decide +kernel
theorem dX1_inTradition_82 : decode cX1_inTradition 82 = .ok (.goto 4, 3) := by decide +kernel
theorem dX1_inTradition_85 : decode cX1_inTradition 85 = .ok (.iload_n 1, 1) := by decide +kernel
theorem dX1_inTradition_86 : decode cX1_inTradition 86 = .ok (.ireturn, 1) := by decide +kernel
theorem dX1_inTradition_87 : decode cX1_inTradition 87 = .ok (.iload_n 1, 1) := by decide +kernel
theorem dX1_inTradition_88 : decode cX1_inTradition 88 = .ok (.ireturn, 1) := by decide +kernel
theorem dX2_init_0 : decode cX2_init 0 = .ok (.aload_n 0, 1) := by decide +kernel
theorem dX2_init_1 : decode cX2_init 1 = .ok (.invokespecial 3, 3) := by decide +kernel
theorem dX2_init_4 : decode cX2_init 4 = .ok (.aload_n 0, 1) := by decide +kernel
theorem dX2_init_5 : decode cX2_init 5 = .ok (.bipush 20, 2) := by decide +kernel
theorem dX2_init_7 : decode cX2_init 7 = .ok (.newarray .int, 2) := by decide +kernel
theorem dX2_init_9 : decode cX2_init 9 = .ok (.putfield 9, 3) := by decide +kernel
theorem dX2_init_12 : decode cX2_init 12 = .ok (.aload_n 0, 1) := by decide +kernel
theorem dX2_init_13 : decode cX2_init 13 = .ok (.bipush 20, 2) := by decide +kernel
theorem dX2_init_15 : decode cX2_init 15 = .ok (.newarray .int, 2) := by decide +kernel
theorem dX2_init_17 : decode cX2_init 17 = .ok (.putfield 15, 3) := by decide +kernel
theorem dX2_init_20 : decode cX2_init 20 = .ok (.aload_n 0, 1) := by decide +kernel
theorem dX2_init_21 : decode cX2_init 21 = .ok (.bipush 20, 2) := by decide +kernel
theorem dX2_init_23 : decode cX2_init 23 = .ok (.newarray .int, 2) := by decide +kernel
theorem dX2_init_25 : decode cX2_init 25 = .ok (.putfield 18, 3) := by decide +kernel
theorem dX2_init_28 : decode cX2_init 28 = .ok (.aload_n 0, 1) := by decide +kernel
theorem dX2_init_29 : decode cX2_init 29 = .ok (.bipush 20, 2) := by decide +kernel
theorem dX2_init_31 : decode cX2_init 31 = .ok (.newarray .int, 2) := by decide +kernel
theorem dX2_init_33 : decode cX2_init 33 = .ok (.putfield 21, 3) := by decide +kernel
theorem dX2_init_36 : decode cX2_init 36 = .ok (.aload_n 0, 1) := by decide +kernel
theorem dX2_init_37 : decode cX2_init 37 = .ok (.bipush 20, 2) := by decide +kernel
theorem dX2_init_39 : decode cX2_init 39 = .ok (.newarray .int, 2) := by decide +kernel
theorem dX2_init_41 : decode cX2_init 41 = .ok (.putfield 24, 3) := by decide +kernel
theorem dX2_init_44 : decode cX2_init 44 = .ok (.aload_n 0, 1) := by decide +kernel
theorem dX2_init_45 : decode cX2_init 45 = .ok (.bipush 20, 2) := by decide +kernel
theorem dX2_init_47 : decode cX2_init 47 = .ok (.newarray .char, 2) := by decide +kernel
theorem dX2_init_49 : decode cX2_init 49 = .ok (.putfield 27, 3) := by decide +kernel
theorem dX2_init_52 : decode cX2_init 52 = .ok (.aload_n 0, 1) := by decide +kernel
theorem dX2_init_53 : decode cX2_init 53 = .ok (.bipush 20, 2) := by decide +kernel
theorem dX2_init_55 : decode cX2_init 55 = .ok (.newarray .char, 2) := by decide +kernel
theorem dX2_init_57 : decode cX2_init 57 = .ok (.putfield 31, 3) := by decide +kernel
theorem dX2_init_60 : decode cX2_init 60 = .ok (.aload_n 0, 1) := by decide +kernel
theorem dX2_init_61 : decode cX2_init 61 = .ok (.bipush 20, 2) := by decide +kernel
theorem dX2_init_63 : decode cX2_init 63 = .ok (.newarray .boolean, 2) := by decide +kernel
theorem dX2_init_65 : decode cX2_init 65 = .ok (.putfield 34, 3) := by decide +kernel
theorem dX2_init_68 : decode cX2_init 68 = .ok (.aload_n 0, 1) := by decide +kernel
theorem dX2_init_69 : decode cX2_init 69 = .ok (.bipush 20, 2) := by decide +kernel
theorem dX2_init_71 : decode cX2_init 71 = .ok (.newarray .boolean, 2) := by decide +kernel
theorem dX2_init_73 : decode cX2_init 73 = .ok (.putfield 38, 3) := by decide +kernel
theorem dX2_init_76 : decode cX2_init 76 = .ok (.aload_n 0, 1) := by decide +kernel
theorem dX2_init_77 : decode cX2_init 77 = .ok (.aload_n 1, 1) := by decide +kernel
theorem dX2_init_78 : decode cX2_init 78 = .ok (.putfield 41, 3) := by decide +kernel
theorem dX2_init_81 : decode cX2_init 81 = .ok (.aload_n 0, 1) := by decide +kernel
theorem dX2_init_82 : decode cX2_init 82 = .ok (.aload_n 2, 1) := by decide +kernel
theorem dX2_init_83 : decode cX2_init 83 = .ok (.putfield 45, 3) := by decide +kernel
theorem dX2_init_86 : decode cX2_init 86 = .ok (.return_, 1) := by decide +kernel
set_option maxRecDepth 20000 in
theorem ggX2_conflictsWith_X9_landOf : GoodIn wsX2_conflictsWith wsX9_landOf := goodIn_ca (goodIn_r _ [8, 9, 10, 11, 12, 7, 13, 14, 72, 73, 74, 75, 76, 77, 78, 79, 80, 81, 82, 83] (by decide +kernel) (by decide +kernel)) (goodIn_sub (fun _ h => List.mem_cons_of_mem _ (List.mem_append_right _ h)) (by decide +kernel))
set_option maxRecDepth 20000 in
theorem gX2_conflictsWith_X9_landOf : GoodIn wsX2_conflictsWith (wsV RX2 55 RX9 yX9_landOf wsX9_landOf) := goodIn_app (goodIn_of _ (by decide +kernel)) ggX2_conflictsWith_X9_landOf
set_option maxRecDepth 20000 in
theorem ggX2_conflictsWith_X9_isNear : GoodIn wsX2_conflictsWith wsX9_isNear := goodIn_ca (goodIn_r _ [18, 19, 20, 21, 22, 23, 7, 24, 10, 11, 12, 13, 14, 25, 26, 27, 28, 29, 30, 31, 32, 33, 34, 35, 36, 37, 38, 39, 72, 73, 74, 75, 76, 77, 78, 79, 80, 81, 82, 83, 84, 85, 86, 87, 88] (by decide +kernel) (by decide +kernel)) (goodIn_sub (fun _ h => List.mem_cons_of_mem _ (List.mem_append_right _ h)) (by decide +kernel))
set_option maxRecDepth 20000 in
theorem gX2_conflictsWith_X9_isNear : GoodIn wsX2_conflictsWith (wsV RX2 59 RX9 yX9_isNear wsX9_isNear) := goodIn_app (goodIn_of _ (by decide +kernel)) ggX2_conflictsWith_X9_isNear
set_option maxRecDepth 20000 in
theorem ggX2_conflictsWith_X0_isBorneByOther : GoodIn wsX2_conflictsWith wsX0_isBorneByOther := goodIn_ca (goodIn_r _ [44, 45, 46, 47, 48, 49, 50, 51, 52, 53, 54, 55, 56, 57, 58, 89, 90, 91, 92, 93, 94, 95, 96, 97, 98, 99, 100, 101, 102, 103, 104, 105, 106, 107, 108] (by decide +kernel) (by decide +kernel)) (goodIn_sub (fun _ h => List.mem_cons_of_mem _ (List.mem_append_right _ h)) (by decide +kernel))
set_option maxRecDepth 20000 in
theorem gX2_conflictsWith_X0_isBorneByOther : GoodIn wsX2_conflictsWith (wsV RX2 63 RX0 yX0_isBorneByOther wsX0_isBorneByOther) := goodIn_app (goodIn_of _ (by decide +kernel)) ggX2_conflictsWith_X0_isBorneByOther
theorem dX2_conflictsWith_0 : decode cX2_conflictsWith 0 = .ok (.iconst 0, 1) := by decide +kernel
theorem dX2_conflictsWith_1 : decode cX2_conflictsWith 1 = .ok (.istore 4, 2) := by decide +kernel
theorem dX2_conflictsWith_3 : decode cX2_conflictsWith 3 = .ok (.iconst 0, 1) := by decide +kernel
theorem dX2_conflictsWith_4 : decode cX2_conflictsWith 4 = .ok (.istore 5, 2) := by decide +kernel
theorem dX2_conflictsWith_6 : decode cX2_conflictsWith 6 = .ok (.iload 5, 2) := by decide +kernel
theorem dX2_conflictsWith_8 : decode cX2_conflictsWith 8 = .ok (.aload_n 0, 1) := by decide +kernel
theorem dX2_conflictsWith_9 : decode cX2_conflictsWith 9 = .ok (.getfield 41, 3) := by decide +kernel
theorem dX2_conflictsWith_12 : decode cX2_conflictsWith 12 = .ok (.getfield 49, 3) := by decide +kernel
theorem dX2_conflictsWith_15 : decode cX2_conflictsWith 15 = .ok (.if_icmp .ge 51, 3) := by decide +kernel
theorem dX2_conflictsWith_18 : decode cX2_conflictsWith 18 = .ok (.aload_n 0, 1) := by decide +kernel
theorem dX2_conflictsWith_19 : decode cX2_conflictsWith 19 = .ok (.getfield 41, 3) := by decide +kernel
theorem dX2_conflictsWith_22 : decode cX2_conflictsWith 22 = .ok (.iload 5, 2) := by decide +kernel
theorem dX2_conflictsWith_24 : decode cX2_conflictsWith 24 = .ok (.invokevirtual 55, 3) := by decide +kernel
theorem dX2_conflictsWith_27 : decode cX2_conflictsWith 27 = .ok (.iload_n 3, 1) := by decide +kernel
theorem dX2_conflictsWith_28 : decode cX2_conflictsWith 28 = .ok (.if_icmp .ne 32, 3) := by decide +kernel
theorem dX2_conflictsWith_31 : decode cX2_conflictsWith 31 = .ok (.aload_n 0, 1) := by decide +kernel
theorem dX2_conflictsWith_32 : decode cX2_conflictsWith 32 = .ok (.getfield 41, 3) := by decide +kernel
theorem dX2_conflictsWith_35 : decode cX2_conflictsWith 35 = .ok (.iload 5, 2) := by decide +kernel
theorem dX2_conflictsWith_37 : decode cX2_conflictsWith 37 = .ok (.aload_n 1, 1) := by decide +kernel
theorem dX2_conflictsWith_38 : decode cX2_conflictsWith 38 = .ok (.invokevirtual 59, 3) := by decide +kernel
theorem dX2_conflictsWith_41 : decode cX2_conflictsWith 41 = .ok (.ifCond .eq 19, 3) := by decide +kernel
theorem dX2_conflictsWith_44 : decode cX2_conflictsWith 44 = .ok (.aload_n 0, 1) := by decide +kernel
theorem dX2_conflictsWith_45 : decode cX2_conflictsWith 45 = .ok (.getfield 45, 3) := by decide +kernel
theorem dX2_conflictsWith_48 : decode cX2_conflictsWith 48 = .ok (.iload 5, 2) := by decide +kernel
theorem dX2_conflictsWith_50 : decode cX2_conflictsWith 50 = .ok (.iload_n 2, 1) := by decide +kernel
theorem dX2_conflictsWith_51 : decode cX2_conflictsWith 51 = .ok (.invokevirtual 63, 3) := by decide +kernel
theorem dX2_conflictsWith_54 : decode cX2_conflictsWith 54 = .ok (.ifCond .eq 6, 3) := by decide +kernel
theorem dX2_conflictsWith_57 : decode cX2_conflictsWith 57 = .ok (.iinc 4 1, 3) := by decide +kernel
theorem dX2_conflictsWith_60 : decode cX2_conflictsWith 60 = .ok (.iinc 5 1, 3) := by decide +kernel
theorem dX2_conflictsWith_63 : decode cX2_conflictsWith 63 = .ok (.goto (-57), 3) := by decide +kernel
theorem dX2_conflictsWith_66 : decode cX2_conflictsWith 66 = .ok (.iload 4, 2) := by decide +kernel
theorem dX2_conflictsWith_68 : decode cX2_conflictsWith 68 = .ok (.ireturn, 1) := by decide +kernel
set_option maxRecDepth 20000 in
theorem ggX2_inspect_X9_landOf : GoodIn wsX2_inspect wsX9_landOf := goodIn_ca (goodIn_r _ [9, 10, 11, 12, 13, 8, 14, 15, 196, 197, 198, 199, 200, 201, 202, 203, 204, 205, 206, 207] (by decide +kernel) (by decide +kernel)) (goodIn_sub (fun _ h => List.mem_cons_of_mem _ (List.mem_append_right _ h)) (by decide +kernel))
set_option maxRecDepth 20000 in
theorem gX2_inspect_X9_landOf : GoodIn wsX2_inspect (wsV RX2 55 RX9 yX9_landOf wsX9_landOf) := goodIn_app (goodIn_of _ (by decide +kernel)) ggX2_inspect_X9_landOf
set_option maxRecDepth 20000 in
theorem ggX2_inspect_X9_letterOf : GoodIn wsX2_inspect wsX9_letterOf := goodIn_ca (goodIn_r _ [19, 20, 11, 12, 13, 8, 14, 15, 196, 197, 198, 199, 200, 201, 202, 203, 204, 205, 206, 207] (by decide +kernel) (by decide +kernel)) (goodIn_sub (fun _ h => List.mem_cons_of_mem _ (List.mem_append_right _ h)) (by decide +kernel))
set_option maxRecDepth 20000 in
theorem gX2_inspect_X9_letterOf : GoodIn wsX2_inspect (wsV RX2 69 RX9 yX9_letterOf wsX9_letterOf) := goodIn_app (goodIn_of _ (by decide +kernel)) ggX2_inspect_X9_letterOf
set_option maxRecDepth 20000 in
theorem ggX2_inspect_X9_yearWhen : GoodIn wsX2_inspect wsX9_yearWhen := goodIn_ca (goodIn_r _ [24, 25, 11, 12, 13, 8, 14, 15, 196, 197, 198, 199, 200, 201, 202, 203, 204, 205, 206, 207] (by decide +kernel) (by decide +kernel)) (goodIn_sub (fun _ h => List.mem_cons_of_mem _ (List.mem_append_right _ h)) (by decide +kernel))
set_option maxRecDepth 20000 in
theorem gX2_inspect_X9_yearWhen : GoodIn wsX2_inspect (wsV RX2 73 RX9 yX9_yearWhen wsX9_yearWhen) := goodIn_app (goodIn_of _ (by decide +kernel)) ggX2_inspect_X9_yearWhen
set_option maxRecDepth 20000 in
theorem ggX2_inspect_X0_isBorneByThree : GoodIn wsX2_inspect wsX0_isBorneByThree := goodIn_ca (goodIn_r _ [30, 31, 32, 33, 34, 35, 36, 37, 8, 38, 39, 11, 12, 13, 14, 15, 40, 41, 42, 43, 44, 45, 46, 47, 48, 49, 50, 51, 52, 53, 54, 55, 56, 57, 58, 59, 60, 208, 209, 210, 211, 212, 213, 214, 215, 216, 217, 218, 219, 220, 221, 222, 223, 224, 225, 226, 227, 196, 197, 198, 199, 200, 201, 202, 203, 204, 205, 206, 207] (by decide +kernel) (by decide +kernel)) (goodIn_sub (fun _ h => List.mem_cons_of_mem _ (List.mem_append_right _ h)) (by decide +kernel))
set_option maxRecDepth 20000 in
theorem gX2_inspect_X0_isBorneByThree : GoodIn wsX2_inspect (wsV RX2 76 RX0 yX0_isBorneByThree wsX0_isBorneByThree) := goodIn_app (goodIn_of _ (by decide +kernel)) ggX2_inspect_X0_isBorneByThree
set_option maxRecDepth 20000 in
theorem ggX2_inspect_X2_isNearGranted : GoodIn wsX2_inspect wsX2_isNearGranted := goodIn_ca (goodIn_r _ [65, 1, 2, 16, 17, 18, 8, 19, 20, 11, 12, 13, 14, 15, 5, 6, 7, 9, 10, 66, 67, 68, 69, 70, 71, 72, 73, 74, 75, 76, 77, 78, 79, 80, 81, 82, 83, 84, 85, 86, 87, 88, 89, 183, 184, 185, 186, 187, 188, 189, 190, 191, 192, 193, 194, 195, 196, 197, 198, 199, 200, 201, 202, 203, 204, 205, 206, 207] (by decide +kernel) (by decide +kernel)) (goodIn_sub (fun _ h => List.mem_cons_of_mem _ (List.mem_append_right _ h)) (by decide +kernel))
set_option maxRecDepth 20000 in
theorem gX2_inspect_X2_isNearGranted : GoodIn wsX2_inspect (wsV RX2 80 RX2 yX2_isNearGranted wsX2_isNearGranted) := goodIn_app (goodIn_of _ (by decide +kernel)) ggX2_inspect_X2_isNearGranted
set_option maxRecDepth 20000 in
theorem ggX2_inspect_X9_setLetter : GoodIn wsX2_inspect wsX9_setLetter := goodIn_ca (goodIn_r _ [93, 20, 11, 12, 13, 8, 14, 15, 196, 197, 198, 199, 200, 201, 202, 203, 204, 205, 206, 207] (by decide +kernel) (by decide +kernel)) (goodIn_sub (fun _ h => List.mem_cons_of_mem _ (List.mem_append_right _ h)) (by decide +kernel))
set_option maxRecDepth 20000 in
theorem gX2_inspect_X9_setLetter : GoodIn wsX2_inspect (wsV RX2 83 RX9 yX9_setLetter wsX9_setLetter) := goodIn_app (goodIn_of _ (by decide +kernel)) ggX2_inspect_X9_setLetter
set_option maxRecDepth 20000 in
theorem ggX2_inspect_X0_settle : GoodIn wsX2_inspect wsX0_settle := goodIn_ca (goodIn_r _ [97, 31, 98, 32, 34, 33, 99, 100, 101, 102, 29, 103, 104, 105, 106, 107, 108, 109, 110, 35, 36, 37, 8, 38, 39, 11, 12, 13, 14, 15, 111, 112, 113, 114, 20, 52, 53, 54, 43, 55, 56, 51, 41, 42, 44, 45, 115, 116, 117, 118, 119, 120, 121, 122, 123, 124, 125, 126, 127, 128, 50, 129, 130, 131, 132, 133, 40, 134, 135, 136, 137, 138, 139, 140, 141, 142, 143, 144, 145, 146, 147, 148, 149, 150, 151, 152, 153, 154, 155, 156, 157, 158, 159, 160, 161, 162, 163, 164, 165, 166, 167, 168, 169, 170, 171, 172, 46, 47, 48, 49, 173, 174, 175, 176, 177, 58, 59, 60, 178, 179, 180, 181, 182, 208, 209, 210, 211, 212, 213, 214, 215, 216, 217, 218, 196, 197, 198, 199, 200, 201, 202, 203, 204, 205, 206, 207, 219, 220, 221, 222, 223, 224, 225, 226, 227] (by decide +kernel) (by decide +kernel)) (goodIn_sub (fun _ h => List.mem_cons_of_mem _ (List.mem_append_right _ h)) (by decide +kernel))
set_option maxRecDepth 20000 in
theorem gX2_inspect_X0_settle : GoodIn wsX2_inspect (wsV RX2 90 RX0 yX0_settle wsX0_settle) := goodIn_app (goodIn_of _ (by decide +kernel)) ggX2_inspect_X0_settle
theorem dX2_inspect_0 : decode cX2_inspect 0 = .ok (.iconst 0, 1) := by decide +kernel
theorem dX2_inspect_1 : decode cX2_inspect 1 = .ok (.istore_n 3, 1) := by decide +kernel
theorem dX2_inspect_2 : decode cX2_inspect 2 = .ok (.iconst 0, 1) := by decide +kernel
theorem dX2_inspect_3 : decode cX2_inspect 3 = .ok (.istore 4, 2) := by decide +kernel
theorem dX2_inspect_5 : decode cX2_inspect 5 = .ok (.iload 4, 2) := by decide +kernel
theorem dX2_inspect_7 : decode cX2_inspect 7 = .ok (.aload_n 0, 1) := by decide +kernel
theorem dX2_inspect_8 : decode cX2_inspect 8 = .ok (.getfield 41, 3) := by decide +kernel
theorem dX2_inspect_11 : decode cX2_inspect 11 = .ok (.getfield 49, 3) := by decide +kernel
theorem dX2_inspect_14 : decode cX2_inspect 14 = .ok (.if_icmp .ge 133, 3) := by decide +kernel
theorem dX2_inspect_17 : decode cX2_inspect 17 = .ok (.aload_n 0, 1) := by decide +kernel
theorem dX2_inspect_18 : decode cX2_inspect 18 = .ok (.getfield 41, 3) := by decide +kernel
theorem dX2_inspect_21 : decode cX2_inspect 21 = .ok (.iload 4, 2) := by decide +kernel
theorem dX2_inspect_23 : decode cX2_inspect 23 = .ok (.invokevirtual 55, 3) := by decide +kernel
theorem dX2_inspect_26 : decode cX2_inspect 26 = .ok (.iload_n 1, 1) := by decide +kernel
theorem dX2_inspect_27 : decode cX2_inspect 27 = .ok (.if_icmp .ne 114, 3) := by decide +kernel
theorem dX2_inspect_30 : decode cX2_inspect 30 = .ok (.aload_n 0, 1) := by decide +kernel
theorem dX2_inspect_31 : decode cX2_inspect 31 = .ok (.getfield 41, 3) := by decide +kernel
theorem dX2_inspect_34 : decode cX2_inspect 34 = .ok (.iload 4, 2) := by decide +kernel
theorem dX2_inspect_36 : decode cX2_inspect 36 = .ok (.invokevirtual 69, 3) := by decide +kernel
theorem dX2_inspect_39 : decode cX2_inspect 39 = .ok (.bipush 117, 2) := by decide +kernel
theorem dX2_inspect_41 : decode cX2_inspect 41 = .ok (.if_icmp .eq 6, 3) := by decide +kernel
theorem dX2_inspect_44 : decode cX2_inspect 44 = .ok (.goto 97, 3) := by decide +kernel
theorem dX2_inspect_47 : decode cX2_inspect 47 = .ok (.iload_n 2, 1) := by decide +kernel
theorem dX2_inspect_48 : decode cX2_inspect 48 = .ok (.aload_n 0, 1) := by decide +kernel
theorem dX2_inspect_49 : decode cX2_inspect 49 = .ok (.getfield 41, 3) := by decide +kernel
theorem dX2_inspect_52 : decode cX2_inspect 52 = .ok (.iload 4, 2) := by decide +kernel
theorem dX2_inspect_54 : decode cX2_inspect 54 = .ok (.invokevirtual 73, 3) := by decide +kernel
theorem dX2_inspect_57 : decode cX2_inspect 57 = .ok (.isub, 1) := by decide +kernel
theorem dX2_inspect_58 : decode cX2_inspect 58 = .ok (.bipush 60, 2) := by decide +kernel
theorem dX2_inspect_60 : decode cX2_inspect 60 = .ok (.if_icmp .ge 15, 3) := by decide +kernel
theorem dX2_inspect_63 : decode cX2_inspect 63 = .ok (.aload_n 0, 1) := by decide +kernel
theorem dX2_inspect_64 : decode cX2_inspect 64 = .ok (.getfield 45, 3) := by decide +kernel
theorem dX2_inspect_67 : decode cX2_inspect 67 = .ok (.iload 4, 2) := by decide +kernel
theorem dX2_inspect_69 : decode cX2_inspect 69 = .ok (.invokevirtual 76, 3) := by decide +kernel
theorem dX2_inspect_72 : decode cX2_inspect 72 = .ok (.ifCond .eq 7, 3) := by decide +kernel
theorem dX2_inspect_75 : decode cX2_inspect 75 = .ok (.iconst 1, 1) := by decide +kernel
theorem dX2_inspect_76 : decode cX2_inspect 76 = .ok (.goto 4, 3) := by decide +kernel
theorem dX2_inspect_79 : decode cX2_inspect 79 = .ok (.iconst 0, 1) := by decide +kernel
theorem dX2_inspect_80 : decode cX2_inspect 80 = .ok (.istore 5, 2) := by decide +kernel
theorem dX2_inspect_82 : decode cX2_inspect 82 = .ok (.iload 5, 2) := by decide +kernel
theorem dX2_inspect_84 : decode cX2_inspect 84 = .ok (.ifCond .eq 29, 3) := by decide +kernel
theorem dX2_inspect_87 : decode cX2_inspect 87 = .ok (.aload_n 0, 1) := by decide +kernel
theorem dX2_inspect_88 : decode cX2_inspect 88 = .ok (.iload 4, 2) := by decide +kernel
theorem dX2_inspect_90 : decode cX2_inspect 90 = .ok (.invokevirtual 80, 3) := by decide +kernel
theorem dX2_inspect_93 : decode cX2_inspect 93 = .ok (.ifCond .ne 20, 3) := by decide +kernel
theorem dX2_inspect_96 : decode cX2_inspect 96 = .ok (.aload_n 0, 1) := by decide +kernel
theorem dX2_inspect_97 : decode cX2_inspect 97 = .ok (.getfield 41, 3) := by decide +kernel
theorem dX2_inspect_100 : decode cX2_inspect 100 = .ok (.iload 4, 2) := by decide +kernel
theorem dX2_inspect_102 : decode cX2_inspect 102 = .ok (.bipush 103, 2) := by decide +kernel
theorem dX2_inspect_104 : decode cX2_inspect 104 = .ok (.invokevirtual 83, 3) := by decide +kernel
theorem dX2_inspect_107 : decode cX2_inspect 107 = .ok (.iinc 3 1, 3) := by decide +kernel
theorem dX2_inspect_110 : decode cX2_inspect 110 = .ok (.goto 31, 3) := by decide +kernel
theorem dX2_inspect_113 : decode cX2_inspect 113 = .ok (.aload_n 0, 1) := by decide +kernel
theorem dX2_inspect_114 : decode cX2_inspect 114 = .ok (.getfield 41, 3) := by decide +kernel
theorem dX2_inspect_117 : decode cX2_inspect 117 = .ok (.iload 4, 2) := by decide +kernel
theorem dX2_inspect_119 : decode cX2_inspect 119 = .ok (.bipush 118, 2) := by decide +kernel
theorem dX2_inspect_121 : decode cX2_inspect 121 = .ok (.invokevirtual 83, 3) := by decide +kernel
theorem dX2_inspect_124 : decode cX2_inspect 124 = .ok (.aload_n 0, 1) := by decide +kernel
theorem dX2_inspect_125 : decode cX2_inspect 125 = .ok (.dup, 1) := by decide +kernel
theorem dX2_inspect_126 : decode cX2_inspect 126 = .ok (.getfield 87, 3) := by decide +kernel
theorem dX2_inspect_129 : decode cX2_inspect 129 = .ok (.iconst 1, 1) := by decide +kernel
theorem dX2_inspect_130 : decode cX2_inspect 130 = .ok (.iadd, 1) := by decide +kernel
theorem dX2_inspect_131 : decode cX2_inspect 131 = .ok (.putfield 87, 3) := by decide +kernel
theorem dX2_inspect_134 : decode cX2_inspect 134 = .ok (.aload_n 0, 1) := by decide +kernel
theorem dX2_inspect_135 : decode cX2_inspect 135 = .ok (.getfield 45, 3) := by decide +kernel
theorem dX2_inspect_138 : decode cX2_inspect 138 = .ok (.invokevirtual 90, 3) := by decide +kernel
theorem dX2_inspect_141 : decode cX2_inspect 141 = .ok (.iinc 4 1, 3) := by decide +kernel
theorem dX2_inspect_144 : decode cX2_inspect 144 = .ok (.goto (-139), 3) := by decide +kernel
theorem dX2_inspect_147 : decode cX2_inspect 147 = .ok (.iload_n 3, 1) := by decide +kernel
theorem dX2_inspect_148 : decode cX2_inspect 148 = .ok (.ireturn, 1) := by decide +kernel
set_option maxRecDepth 20000 in
theorem ggX2_isNearGranted_X9_letterOf : GoodIn wsX2_isNearGranted wsX9_letterOf := goodIn_ca (goodIn_r _ [7, 8, 9, 10, 11, 6, 12, 13, 56, 57, 58, 59, 60, 61, 62, 63, 64, 65, 66, 67] (by decide +kernel) (by decide +kernel)) (goodIn_sub (fun _ h => List.mem_cons_of_mem _ (List.mem_append_right _ h)) (by decide +kernel))
set_option maxRecDepth 20000 in
theorem gX2_isNearGranted_X9_letterOf : GoodIn wsX2_isNearGranted (wsV RX2 69 RX9 yX9_letterOf wsX9_letterOf) := goodIn_app (goodIn_of _ (by decide +kernel)) ggX2_isNearGranted_X9_letterOf
set_option maxRecDepth 20000 in
theorem ggX2_isNearGranted_X9_landOf : GoodIn wsX2_isNearGranted wsX9_landOf := goodIn_ca (goodIn_r _ [17, 18, 9, 10, 11, 6, 12, 13, 56, 57, 58, 59, 60, 61, 62, 63, 64, 65, 66, 67] (by decide +kernel) (by decide +kernel)) (goodIn_sub (fun _ h => List.mem_cons_of_mem _ (List.mem_append_right _ h)) (by decide +kernel))
set_option maxRecDepth 20000 in
theorem gX2_isNearGranted_X9_landOf : GoodIn wsX2_isNearGranted (wsV RX2 55 RX9 yX9_landOf wsX9_landOf) := goodIn_app (goodIn_of _ (by decide +kernel)) ggX2_isNearGranted_X9_landOf
set_option maxRecDepth 20000 in
theorem ggX2_isNearGranted_X9_unlikePoints : GoodIn wsX2_isNearGranted wsX9_unlikePoints := goodIn_ca (goodIn_r _ [22, 23, 24, 25, 26, 6, 27, 9, 10, 11, 12, 13, 28, 29, 30, 31, 32, 33, 34, 35, 36, 37, 38, 39, 40, 41, 42, 56, 57, 58, 59, 60, 61, 62, 63, 64, 65, 66, 67] (by decide +kernel) (by decide +kernel)) (goodIn_sub (fun _ h => List.mem_cons_of_mem _ (List.mem_append_right _ h)) (by decide +kernel))
set_option maxRecDepth 20000 in
theorem gX2_isNearGranted_X9_unlikePoints : GoodIn wsX2_isNearGranted (wsV RX2 93 RX9 yX9_unlikePoints wsX9_unlikePoints) := goodIn_app (goodIn_of _ (by decide +kernel)) ggX2_isNearGranted_X9_unlikePoints
theorem dX2_isNearGranted_0 : decode cX2_isNearGranted 0 = .ok (.iconst 0, 1) := by decide +kernel
theorem dX2_isNearGranted_1 : decode cX2_isNearGranted 1 = .ok (.istore_n 2, 1) := by decide +kernel
theorem dX2_isNearGranted_2 : decode cX2_isNearGranted 2 = .ok (.iload_n 2, 1) := by decide +kernel
theorem dX2_isNearGranted_3 : decode cX2_isNearGranted 3 = .ok (.aload_n 0, 1) := by decide +kernel
theorem dX2_isNearGranted_4 : decode cX2_isNearGranted 4 = .ok (.getfield 41, 3) := by decide +kernel
theorem dX2_isNearGranted_7 : decode cX2_isNearGranted 7 = .ok (.getfield 49, 3) := by decide +kernel
theorem dX2_isNearGranted_10 : decode cX2_isNearGranted 10 = .ok (.if_icmp .ge 62, 3) := by decide +kernel
theorem dX2_isNearGranted_13 : decode cX2_isNearGranted 13 = .ok (.iload_n 2, 1) := by decide +kernel
theorem dX2_isNearGranted_14 : decode cX2_isNearGranted 14 = .ok (.iload_n 1, 1) := by decide +kernel
theorem dX2_isNearGranted_15 : decode cX2_isNearGranted 15 = .ok (.if_icmp .eq 51, 3) := by decide +kernel
theorem dX2_isNearGranted_18 : decode cX2_isNearGranted 18 = .ok (.aload_n 0, 1) := by decide +kernel
theorem dX2_isNearGranted_19 : decode cX2_isNearGranted 19 = .ok (.getfield 41, 3) := by decide +kernel
theorem dX2_isNearGranted_22 : decode cX2_isNearGranted 22 = .ok (.iload_n 2, 1) := by decide +kernel
theorem dX2_isNearGranted_23 : decode cX2_isNearGranted 23 = .ok (.invokevirtual 69, 3) := by decide +kernel
theorem dX2_isNearGranted_26 : decode cX2_isNearGranted 26 = .ok (.bipush 103, 2) := by decide +kernel
theorem dX2_isNearGranted_28 : decode cX2_isNearGranted 28 = .ok (.if_icmp .ne 38, 3) := by decide +kernel
theorem dX2_isNearGranted_31 : decode cX2_isNearGranted 31 = .ok (.aload_n 0, 1) := by decide +kernel
theorem dX2_isNearGranted_32 : decode cX2_isNearGranted 32 = .ok (.getfield 41, 3) := by decide +kernel
theorem dX2_isNearGranted_35 : decode cX2_isNearGranted 35 = .ok (.iload_n 2, 1) := by decide +kernel
theorem dX2_isNearGranted_36 : decode cX2_isNearGranted 36 = .ok (.invokevirtual 55, 3) := by decide +kernel
theorem dX2_isNearGranted_39 : decode cX2_isNearGranted 39 = .ok (.aload_n 0, 1) := by decide +kernel
theorem dX2_isNearGranted_40 : decode cX2_isNearGranted 40 = .ok (.getfield 41, 3) := by decide +kernel
theorem dX2_isNearGranted_43 : decode cX2_isNearGranted 43 = .ok (.iload_n 1, 1) := by decide +kernel
theorem dX2_isNearGranted_44 : decode cX2_isNearGranted 44 = .ok (.invokevirtual 55, 3) := by decide +kernel
theorem dX2_isNearGranted_47 : decode cX2_isNearGranted 47 = .ok (.if_icmp .ne 19, 3) := by decide +kernel
theorem dX2_isNearGranted_50 : decode cX2_isNearGranted 50 = .ok (.aload_n 0, 1) := by decide +kernel
theorem dX2_isNearGranted_51 : decode cX2_isNearGranted 51 = .ok (.getfield 41, 3) := by decide +kernel
theorem dX2_isNearGranted_54 : decode cX2_isNearGranted 54 = .ok (.iload_n 2, 1) := by decide +kernel
theorem dX2_isNearGranted_55 : decode cX2_isNearGranted 55 = .ok (.iload_n 1, 1) := by decide +kernel
theorem dX2_isNearGranted_56 : decode cX2_isNearGranted 56 = .ok (.invokevirtual 93, 3) := by decide +kernel
theorem dX2_isNearGranted_59 : decode cX2_isNearGranted 59 = .ok (.bipush 24, 2) := by decide +kernel
theorem dX2_isNearGranted_61 : decode cX2_isNearGranted 61 = .ok (.if_icmp .ge 5, 3) := by decide +kernel
theorem dX2_isNearGranted_64 : decode cX2_isNearGranted 64 = .ok (.iconst 1, 1) := by decide +kernel
theorem dX2_isNearGranted_65 : decode cX2_isNearGranted 65 = .ok (.ireturn, 1) := by decide +kernel
theorem dX2_isNearGranted_66 : decode cX2_isNearGranted 66 = .ok (.iinc 2 1, 3) := by decide +kernel
theorem dX2_isNearGranted_69 : decode cX2_isNearGranted 69 = .ok (.goto (-67), 3) := by decide +kernel
theorem dX2_isNearGranted_72 : decode cX2_isNearGranted 72 = .ok (.iconst 0, 1) := by decide +kernel
theorem dX2_isNearGranted_73 : decode cX2_isNearGranted 73 = .ok (.ireturn, 1) := by decide +kernel
set_option maxRecDepth 20000 in
theorem ggX2_isSuable_X9_landOf : GoodIn wsX2_isSuable wsX9_landOf := goodIn_ca (goodIn_r _ [6, 7, 8, 9, 10, 5, 11, 12, 50, 51, 52, 53, 54, 55, 56, 57, 58, 59, 60, 61] (by decide +kernel) (by decide +kernel)) (goodIn_sub (fun _ h => List.mem_cons_of_mem _ (List.mem_append_right _ h)) (by decide +kernel))
set_option maxRecDepth 20000 in
theorem gX2_isSuable_X9_landOf : GoodIn wsX2_isSuable (wsV RX2 55 RX9 yX9_landOf wsX9_landOf) := goodIn_app (goodIn_of _ (by decide +kernel)) ggX2_isSuable_X9_landOf
set_option maxRecDepth 20000 in
theorem ggX2_isSuable_X9_unlikePoints : GoodIn wsX2_isSuable wsX9_unlikePoints := goodIn_ca (goodIn_r _ [16, 17, 18, 19, 20, 5, 21, 8, 9, 10, 11, 12, 22, 23, 24, 25, 26, 27, 28, 29, 30, 31, 32, 33, 34, 35, 36, 50, 51, 52, 53, 54, 55, 56, 57, 58, 59, 60, 61] (by decide +kernel) (by decide +kernel)) (goodIn_sub (fun _ h => List.mem_cons_of_mem _ (List.mem_append_right _ h)) (by decide +kernel))
set_option maxRecDepth 20000 in
theorem gX2_isSuable_X9_unlikePoints : GoodIn wsX2_isSuable (wsV RX2 93 RX9 yX9_unlikePoints wsX9_unlikePoints) := goodIn_app (goodIn_of _ (by decide +kernel)) ggX2_isSuable_X9_unlikePoints
theorem dX2_isSuable_0 : decode cX2_isSuable 0 = .ok (.iload_n 1, 1) := by decide +kernel
theorem dX2_isSuable_1 : decode cX2_isSuable 1 = .ok (.ifCond .lt 49, 3) := by decide +kernel
theorem dX2_isSuable_4 : decode cX2_isSuable 4 = .ok (.iload_n 2, 1) := by decide +kernel
theorem dX2_isSuable_5 : decode cX2_isSuable 5 = .ok (.ifCond .lt 45, 3) := by decide +kernel
theorem dX2_isSuable_8 : decode cX2_isSuable 8 = .ok (.iload_n 1, 1) := by decide +kernel
theorem dX2_isSuable_9 : decode cX2_isSuable 9 = .ok (.iload_n 2, 1) := by decide +kernel
theorem dX2_isSuable_10 : decode cX2_isSuable 10 = .ok (.if_icmp .eq 40, 3) := by decide +kernel
theorem dX2_isSuable_13 : decode cX2_isSuable 13 = .ok (.aload_n 0, 1) := by decide +kernel
theorem dX2_isSuable_14 : decode cX2_isSuable 14 = .ok (.getfield 41, 3) := by decide +kernel
theorem dX2_isSuable_17 : decode cX2_isSuable 17 = .ok (.iload_n 1, 1) := by decide +kernel
theorem dX2_isSuable_18 : decode cX2_isSuable 18 = .ok (.invokevirtual 55, 3) := by decide +kernel
theorem dX2_isSuable_21 : decode cX2_isSuable 21 = .ok (.aload_n 0, 1) := by decide +kernel
theorem dX2_isSuable_22 : decode cX2_isSuable 22 = .ok (.getfield 41, 3) := by decide +kernel
theorem dX2_isSuable_25 : decode cX2_isSuable 25 = .ok (.iload_n 2, 1) := by decide +kernel
theorem dX2_isSuable_26 : decode cX2_isSuable 26 = .ok (.invokevirtual 55, 3) := by decide +kernel
theorem dX2_isSuable_29 : decode cX2_isSuable 29 = .ok (.if_icmp .ne 21, 3) := by decide +kernel
theorem dX2_isSuable_32 : decode cX2_isSuable 32 = .ok (.aload_n 0, 1) := by decide +kernel
theorem dX2_isSuable_33 : decode cX2_isSuable 33 = .ok (.getfield 41, 3) := by decide +kernel
theorem dX2_isSuable_36 : decode cX2_isSuable 36 = .ok (.iload_n 1, 1) := by decide +kernel
theorem dX2_isSuable_37 : decode cX2_isSuable 37 = .ok (.iload_n 2, 1) := by decide +kernel
theorem dX2_isSuable_38 : decode cX2_isSuable 38 = .ok (.invokevirtual 93, 3) := by decide +kernel
theorem dX2_isSuable_41 : decode cX2_isSuable 41 = .ok (.bipush 24, 2) := by decide +kernel
theorem dX2_isSuable_43 : decode cX2_isSuable 43 = .ok (.if_icmp .ge 7, 3) := by decide +kernel
theorem dX2_isSuable_46 : decode cX2_isSuable 46 = .ok (.iconst 1, 1) := by decide +kernel
theorem dX2_isSuable_47 : decode cX2_isSuable 47 = .ok (.goto 4, 3) := by decide +kernel
theorem dX2_isSuable_50 : decode cX2_isSuable 50 = .ok (.iconst 0, 1) := by decide +kernel
theorem dX2_isSuable_51 : decode cX2_isSuable 51 = .ok (.ireturn, 1) := by decide +kernel
set_option maxRecDepth 20000 in
theorem ggX2_judge_X9_yearWhen : GoodIn wsX2_judge wsX9_yearWhen := goodIn_ca (goodIn_r _ [6, 7, 8, 9, 10, 5, 11, 12, 94, 95, 96, 97, 98, 99, 100, 101, 102, 103, 104, 105] (by decide +kernel) (by decide +kernel)) (goodIn_sub (fun _ h => List.mem_cons_of_mem _ (List.mem_append_right _ h)) (by decide +kernel))
set_option maxRecDepth 20000 in
theorem gX2_judge_X9_yearWhen : GoodIn wsX2_judge (wsV RX2 73 RX9 yX9_yearWhen wsX9_yearWhen) := goodIn_app (goodIn_of _ (by decide +kernel)) ggX2_judge_X9_yearWhen
set_option maxRecDepth 20000 in
theorem ggX2_judge_X9_unlikePoints : GoodIn wsX2_judge wsX9_unlikePoints := goodIn_ca (goodIn_r _ [16, 17, 18, 19, 20, 5, 21, 8, 9, 10, 11, 12, 22, 23, 24, 25, 26, 27, 28, 29, 30, 31, 32, 33, 34, 35, 36, 94, 95, 96, 97, 98, 99, 100, 101, 102, 103, 104, 105] (by decide +kernel) (by decide +kernel)) (goodIn_sub (fun _ h => List.mem_cons_of_mem _ (List.mem_append_right _ h)) (by decide +kernel))
set_option maxRecDepth 20000 in
theorem gX2_judge_X9_unlikePoints : GoodIn wsX2_judge (wsV RX2 93 RX9 yX9_unlikePoints wsX9_unlikePoints) := goodIn_app (goodIn_of _ (by decide +kernel)) ggX2_judge_X9_unlikePoints
set_option maxRecDepth 20000 in
theorem ggX2_judge_X9_landOf : GoodIn wsX2_judge wsX9_landOf := goodIn_ca (goodIn_r _ [40, 41, 8, 9, 10, 5, 11, 12, 94, 95, 96, 97, 98, 99, 100, 101, 102, 103, 104, 105] (by decide +kernel) (by decide +kernel)) (goodIn_sub (fun _ h => List.mem_cons_of_mem _ (List.mem_append_right _ h)) (by decide +kernel))
set_option maxRecDepth 20000 in
theorem gX2_judge_X9_landOf : GoodIn wsX2_judge (wsV RX2 55 RX9 yX9_landOf wsX9_landOf) := goodIn_app (goodIn_of _ (by decide +kernel)) ggX2_judge_X9_landOf
set_option maxRecDepth 20000 in
theorem ggX2_judge_X2_latest : GoodIn wsX2_judge wsX2_latest := goodIn_ca (goodIn_r _ [46, 47, 48, 49, 50, 51, 52, 53, 54, 81, 82, 83, 84, 85, 86, 87, 88, 89, 90, 91, 92, 93] (by decide +kernel) (by decide +kernel)) (goodIn_sub (fun _ h => List.mem_cons_of_mem _ (List.mem_append_right _ h)) (by decide +kernel))
set_option maxRecDepth 20000 in
theorem gX2_judge_X2_latest : GoodIn wsX2_judge (wsV RX2 97 RX2 yX2_latest wsX2_latest) := goodIn_app (goodIn_of _ (by decide +kernel)) ggX2_judge_X2_latest
set_option maxRecDepth 20000 in
theorem ggX2_judge_X2_letterOf : GoodIn wsX2_judge wsX2_letterOf := goodIn_ca (goodIn_r _ [58, 59, 60, 61, 62, 45, 63, 47, 81, 82, 83, 84, 85, 86, 87, 88, 89, 90, 91, 92, 93] (by decide +kernel) (by decide +kernel)) (goodIn_sub (fun _ h => List.mem_cons_of_mem _ (List.mem_append_right _ h)) (by decide +kernel))
set_option maxRecDepth 20000 in
theorem gX2_judge_X2_letterOf : GoodIn wsX2_judge (wsV RX2 100 RX2 yX2_letterOf wsX2_letterOf) := goodIn_app (goodIn_of _ (by decide +kernel)) ggX2_judge_X2_letterOf
set_option maxRecDepth 20000 in
theorem ggX2_judge_X2_enter : GoodIn wsX2_judge wsX2_enter := goodIn_ca (goodIn_r _ [67, 47, 53, 1, 54, 68, 69, 70, 59, 71, 52, 37, 38, 39, 5, 40, 41, 8, 9, 10, 11, 12, 72, 73, 74, 75, 76, 77, 78, 79, 80, 81, 82, 83, 84, 85, 86, 87, 88, 89, 90, 91, 92, 93, 94, 95, 96, 97, 98, 99, 100, 101, 102, 103, 104, 105] (by decide +kernel) (by decide +kernel)) (goodIn_sub (fun _ h => List.mem_cons_of_mem _ (List.mem_append_right _ h)) (by decide +kernel))
set_option maxRecDepth 20000 in
theorem gX2_judge_X2_enter : GoodIn wsX2_judge (wsV RX2 101 RX2 yX2_enter wsX2_enter) := goodIn_app (goodIn_of _ (by decide +kernel)) ggX2_judge_X2_enter
theorem dX2_judge_0 : decode cX2_judge 0 = .ok (.aload_n 0, 1) := by decide +kernel
theorem dX2_judge_1 : decode cX2_judge 1 = .ok (.getfield 41, 3) := by decide +kernel
theorem dX2_judge_4 : decode cX2_judge 4 = .ok (.iload_n 1, 1) := by decide +kernel
theorem dX2_judge_5 : decode cX2_judge 5 = .ok (.invokevirtual 73, 3) := by decide +kernel
theorem dX2_judge_8 : decode cX2_judge 8 = .ok (.aload_n 0, 1) := by decide +kernel
theorem dX2_judge_9 : decode cX2_judge 9 = .ok (.getfield 41, 3) := by decide +kernel
theorem dX2_judge_12 : decode cX2_judge 12 = .ok (.iload_n 2, 1) := by decide +kernel
theorem dX2_judge_13 : decode cX2_judge 13 = .ok (.invokevirtual 73, 3) := by decide +kernel
theorem dX2_judge_16 : decode cX2_judge 16 = .ok (.if_icmp .eq 30, 3) := by decide +kernel
theorem dX2_judge_19 : decode cX2_judge 19 = .ok (.aload_n 0, 1) := by decide +kernel
theorem dX2_judge_20 : decode cX2_judge 20 = .ok (.getfield 41, 3) := by decide +kernel
theorem dX2_judge_23 : decode cX2_judge 23 = .ok (.iload_n 1, 1) := by decide +kernel
theorem dX2_judge_24 : decode cX2_judge 24 = .ok (.invokevirtual 73, 3) := by decide +kernel
theorem dX2_judge_27 : decode cX2_judge 27 = .ok (.aload_n 0, 1) := by decide +kernel
theorem dX2_judge_28 : decode cX2_judge 28 = .ok (.getfield 41, 3) := by decide +kernel
theorem dX2_judge_31 : decode cX2_judge 31 = .ok (.iload_n 2, 1) := by decide +kernel
theorem dX2_judge_32 : decode cX2_judge 32 = .ok (.invokevirtual 73, 3) := by decide +kernel
theorem dX2_judge_35 : decode cX2_judge 35 = .ok (.if_icmp .ge 7, 3) := by decide +kernel
theorem dX2_judge_38 : decode cX2_judge 38 = .ok (.iconst 1, 1) := by decide +kernel
theorem dX2_judge_39 : decode cX2_judge 39 = .ok (.goto 17, 3) := by decide +kernel
theorem dX2_judge_42 : decode cX2_judge 42 = .ok (.iconst 0, 1) := by decide +kernel
theorem dX2_judge_43 : decode cX2_judge 43 = .ok (.goto 13, 3) := by decide +kernel
theorem dX2_judge_46 : decode cX2_judge 46 = .ok (.iload_n 1, 1) := by decide +kernel
theorem dX2_judge_47 : decode cX2_judge 47 = .ok (.iload_n 2, 1) := by decide +kernel
theorem dX2_judge_48 : decode cX2_judge 48 = .ok (.if_icmp .ge 7, 3) := by decide +kernel
theorem dX2_judge_51 : decode cX2_judge 51 = .ok (.iconst 1, 1) := by decide +kernel
theorem dX2_judge_52 : decode cX2_judge 52 = .ok (.goto 4, 3) := by decide +kernel
theorem dX2_judge_55 : decode cX2_judge 55 = .ok (.iconst 0, 1) := by decide +kernel
theorem dX2_judge_56 : decode cX2_judge 56 = .ok (.istore 4, 2) := by decide +kernel
theorem dX2_judge_58 : decode cX2_judge 58 = .ok (.iload 4, 2) := by decide +kernel
theorem dX2_judge_60 : decode cX2_judge 60 = .ok (.ifCond .eq 7, 3) := by decide +kernel
theorem dX2_judge_63 : decode cX2_judge 63 = .ok (.iload_n 1, 1) := by decide +kernel
theorem dX2_judge_64 : decode cX2_judge 64 = .ok (.goto 4, 3) := by decide +kernel
theorem dX2_judge_67 : decode cX2_judge 67 = .ok (.iload_n 2, 1) := by decide +kernel
theorem dX2_judge_68 : decode cX2_judge 68 = .ok (.istore 5, 2) := by decide +kernel
theorem dX2_judge_70 : decode cX2_judge 70 = .ok (.iload 4, 2) := by decide +kernel
theorem dX2_judge_72 : decode cX2_judge 72 = .ok (.ifCond .eq 7, 3) := by decide +kernel
theorem dX2_judge_75 : decode cX2_judge 75 = .ok (.iload_n 2, 1) := by decide +kernel
theorem dX2_judge_76 : decode cX2_judge 76 = .ok (.goto 4, 3) := by decide +kernel
theorem dX2_judge_79 : decode cX2_judge 79 = .ok (.iload_n 1, 1) := by decide +kernel
theorem dX2_judge_80 : decode cX2_judge 80 = .ok (.istore 6, 2) := by decide +kernel
theorem dX2_judge_82 : decode cX2_judge 82 = .ok (.aload_n 0, 1) := by decide +kernel
theorem dX2_judge_83 : decode cX2_judge 83 = .ok (.getfield 41, 3) := by decide +kernel
theorem dX2_judge_86 : decode cX2_judge 86 = .ok (.iload_n 1, 1) := by decide +kernel
theorem dX2_judge_87 : decode cX2_judge 87 = .ok (.iload_n 2, 1) := by decide +kernel
theorem dX2_judge_88 : decode cX2_judge 88 = .ok (.invokevirtual 93, 3) := by decide +kernel
theorem dX2_judge_91 : decode cX2_judge 91 = .ok (.istore 7, 2) := by decide +kernel
theorem dX2_judge_93 : decode cX2_judge 93 = .ok (.aload_n 0, 1) := by decide +kernel
theorem dX2_judge_94 : decode cX2_judge 94 = .ok (.aload_n 0, 1) := by decide +kernel
theorem dX2_judge_95 : decode cX2_judge 95 = .ok (.getfield 41, 3) := by decide +kernel
theorem dX2_judge_98 : decode cX2_judge 98 = .ok (.iload 5, 2) := by decide +kernel
theorem dX2_judge_100 : decode cX2_judge 100 = .ok (.invokevirtual 55, 3) := by decide +kernel
theorem dX2_judge_103 : decode cX2_judge 103 = .ok (.iload 7, 2) := by decide +kernel
theorem dX2_judge_105 : decode cX2_judge 105 = .ok (.bipush 8, 2) := by decide +kernel
theorem dX2_judge_107 : decode cX2_judge 107 = .ok (.idiv, 1) := by decide +kernel
theorem dX2_judge_108 : decode cX2_judge 108 = .ok (.invokevirtual 97, 3) := by decide +kernel
theorem dX2_judge_111 : decode cX2_judge 111 = .ok (.istore 8, 2) := by decide +kernel
theorem dX2_judge_113 : decode cX2_judge 113 = .ok (.iload 8, 2) := by decide +kernel
theorem dX2_judge_115 : decode cX2_judge 115 = .ok (.ifCond .lt 12, 3) := by decide +kernel
theorem dX2_judge_118 : decode cX2_judge 118 = .ok (.aload_n 0, 1) := by decide +kernel
theorem dX2_judge_119 : decode cX2_judge 119 = .ok (.iload 8, 2) := by decide +kernel
theorem dX2_judge_121 : decode cX2_judge 121 = .ok (.invokevirtual 100, 3) := by decide +kernel
theorem dX2_judge_124 : decode cX2_judge 124 = .ok (.goto 26, 3) := by decide +kernel
theorem dX2_judge_127 : decode cX2_judge 127 = .ok (.iload_n 3, 1) := by decide +kernel
theorem dX2_judge_128 : decode cX2_judge 128 = .ok (.aload_n 0, 1) := by decide +kernel
theorem dX2_judge_129 : decode cX2_judge 129 = .ok (.getfield 41, 3) := by decide +kernel
theorem dX2_judge_132 : decode cX2_judge 132 = .ok (.iload 6, 2) := by decide +kernel
theorem dX2_judge_134 : decode cX2_judge 134 = .ok (.invokevirtual 73, 3) := by decide +kernel
theorem dX2_judge_137 : decode cX2_judge 137 = .ok (.isub, 1) := by decide +kernel
theorem dX2_judge_138 : decode cX2_judge 138 = .ok (.bipush 60, 2) := by decide +kernel
theorem dX2_judge_140 : decode cX2_judge 140 = .ok (.if_icmp .lt 8, 3) := by decide +kernel
theorem dX2_judge_143 : decode cX2_judge 143 = .ok (.bipush 121, 2) := by decide +kernel
theorem dX2_judge_145 : decode cX2_judge 145 = .ok (.goto 5, 3) := by decide +kernel
theorem dX2_judge_148 : decode cX2_judge 148 = .ok (.bipush 101, 2) := by decide +kernel
theorem dX2_judge_150 : decode cX2_judge 150 = .ok (.istore 9, 2) := by decide +kernel
theorem dX2_judge_152 : decode cX2_judge 152 = .ok (.aload_n 0, 1) := by decide +kernel
theorem dX2_judge_153 : decode cX2_judge 153 = .ok (.iload 5, 2) := by decide +kernel
theorem dX2_judge_155 : decode cX2_judge 155 = .ok (.iload 6, 2) := by decide +kernel
theorem dX2_judge_157 : decode cX2_judge 157 = .ok (.iload 7, 2) := by decide +kernel
theorem dX2_judge_159 : decode cX2_judge 159 = .ok (.iload_n 3, 1) := by decide +kernel
theorem dX2_judge_160 : decode cX2_judge 160 = .ok (.iload 9, 2) := by decide +kernel
theorem dX2_judge_162 : decode cX2_judge 162 = .ok (.invokevirtual 101, 3) := by decide +kernel
theorem dX2_judge_165 : decode cX2_judge 165 = .ok (.ireturn, 1) := by decide +kernel
set_option maxRecDepth 20000 in
theorem ggX2_enter_X9_landOf : GoodIn wsX2_enter wsX9_landOf := goodIn_ca (goodIn_r _ [15, 16, 17, 18, 19, 14, 20, 21, 44, 45, 46, 47, 48, 49, 50, 51, 52, 53, 54, 55] (by decide +kernel) (by decide +kernel)) (goodIn_sub (fun _ h => List.mem_cons_of_mem _ (List.mem_append_right _ h)) (by decide +kernel))
set_option maxRecDepth 20000 in
theorem gX2_enter_X9_landOf : GoodIn wsX2_enter (wsV RX2 55 RX9 yX9_landOf wsX9_landOf) := goodIn_app (goodIn_of _ (by decide +kernel)) ggX2_enter_X9_landOf
set_option maxRecDepth 20000 in
theorem ggX2_enter_X9_letterOf : GoodIn wsX2_enter wsX9_letterOf := goodIn_ca (goodIn_r _ [25, 26, 17, 18, 19, 14, 20, 21, 44, 45, 46, 47, 48, 49, 50, 51, 52, 53, 54, 55] (by decide +kernel) (by decide +kernel)) (goodIn_sub (fun _ h => List.mem_cons_of_mem _ (List.mem_append_right _ h)) (by decide +kernel))
set_option maxRecDepth 20000 in
theorem gX2_enter_X9_letterOf : GoodIn wsX2_enter (wsV RX2 69 RX9 yX9_letterOf wsX9_letterOf) := goodIn_app (goodIn_of _ (by decide +kernel)) ggX2_enter_X9_letterOf
set_option maxRecDepth 20000 in
theorem ggX2_enter_X9_setLetter : GoodIn wsX2_enter wsX9_setLetter := goodIn_ca (goodIn_r _ [30, 26, 17, 18, 19, 14, 20, 21, 44, 45, 46, 47, 48, 49, 50, 51, 52, 53, 54, 55] (by decide +kernel) (by decide +kernel)) (goodIn_sub (fun _ h => List.mem_cons_of_mem _ (List.mem_append_right _ h)) (by decide +kernel))
set_option maxRecDepth 20000 in
theorem gX2_enter_X9_setLetter : GoodIn wsX2_enter (wsV RX2 83 RX9 yX9_setLetter wsX9_setLetter) := goodIn_app (goodIn_of _ (by decide +kernel)) ggX2_enter_X9_setLetter
theorem dX2_enter_0 : decode cX2_enter 0 = .ok (.aload_n 0, 1) := by decide +kernel
theorem dX2_enter_1 : decode cX2_enter 1 = .ok (.getfield 105, 3) := by decide +kernel
theorem dX2_enter_4 : decode cX2_enter 4 = .ok (.ifCond .lt 12, 3) := by decide +kernel
theorem dX2_enter_7 : decode cX2_enter 7 = .ok (.aload_n 0, 1) := by decide +kernel
theorem dX2_enter_8 : decode cX2_enter 8 = .ok (.getfield 105, 3) := by decide +kernel
theorem dX2_enter_11 : decode cX2_enter 11 = .ok (.bipush 20, 2) := by decide +kernel
theorem dX2_enter_13 : decode cX2_enter 13 = .ok (.if_icmp .lt 5, 3) := by decide +kernel
theorem dX2_enter_16 : decode cX2_enter 16 = .ok (.iconst (-1), 1) := by decide +kernel
theorem dX2_enter_17 : decode cX2_enter 17 = .ok (.ireturn, 1) := by decide +kernel
theorem dX2_enter_18 : decode cX2_enter 18 = .ok (.aload_n 0, 1) := by decide +kernel
theorem dX2_enter_19 : decode cX2_enter 19 = .ok (.getfield 105, 3) := by decide +kernel
theorem dX2_enter_22 : decode cX2_enter 22 = .ok (.istore 6, 2) := by decide +kernel
theorem dX2_enter_24 : decode cX2_enter 24 = .ok (.aload_n 0, 1) := by decide +kernel
theorem dX2_enter_25 : decode cX2_enter 25 = .ok (.dup, 1) := by decide +kernel
theorem dX2_enter_26 : decode cX2_enter 26 = .ok (.getfield 105, 3) := by decide +kernel
theorem dX2_enter_29 : decode cX2_enter 29 = .ok (.iconst 1, 1) := by decide +kernel
theorem dX2_enter_30 : decode cX2_enter 30 = .ok (.iadd, 1) := by decide +kernel
theorem dX2_enter_31 : decode cX2_enter 31 = .ok (.putfield 105, 3) := by decide +kernel
theorem dX2_enter_34 : decode cX2_enter 34 = .ok (.iload 5, 2) := by decide +kernel
theorem dX2_enter_36 : decode cX2_enter 36 = .ok (.bipush 101, 2) := by decide +kernel
theorem dX2_enter_38 : decode cX2_enter 38 = .ok (.if_icmp .ne 7, 3) := by decide +kernel
theorem dX2_enter_41 : decode cX2_enter 41 = .ok (.iload_n 2, 1) := by decide +kernel
theorem dX2_enter_42 : decode cX2_enter 42 = .ok (.goto 4, 3) := by decide +kernel
theorem dX2_enter_45 : decode cX2_enter 45 = .ok (.iload_n 1, 1) := by decide +kernel
theorem dX2_enter_46 : decode cX2_enter 46 = .ok (.istore 7, 2) := by decide +kernel
theorem dX2_enter_48 : decode cX2_enter 48 = .ok (.aload_n 0, 1) := by decide +kernel
theorem dX2_enter_49 : decode cX2_enter 49 = .ok (.getfield 9, 3) := by decide +kernel
theorem dX2_enter_52 : decode cX2_enter 52 = .ok (.iload 6, 2) := by decide +kernel
theorem dX2_enter_54 : decode cX2_enter 54 = .ok (.aload_n 0, 1) := by decide +kernel
theorem dX2_enter_55 : decode cX2_enter 55 = .ok (.getfield 41, 3) := by decide +kernel
theorem dX2_enter_58 : decode cX2_enter 58 = .ok (.iload_n 1, 1) := by decide +kernel
theorem dX2_enter_59 : decode cX2_enter 59 = .ok (.invokevirtual 55, 3) := by decide +kernel
theorem dX2_enter_62 : decode cX2_enter 62 = .ok (.iastore, 1) := by decide +kernel
theorem dX2_enter_63 : decode cX2_enter 63 = .ok (.aload_n 0, 1) := by decide +kernel
theorem dX2_enter_64 : decode cX2_enter 64 = .ok (.getfield 15, 3) := by decide +kernel
theorem dX2_enter_67 : decode cX2_enter 67 = .ok (.iload 6, 2) := by decide +kernel
theorem dX2_enter_69 : decode cX2_enter 69 = .ok (.iload_n 3, 1) := by decide +kernel
theorem dX2_enter_70 : decode cX2_enter 70 = .ok (.iastore, 1) := by decide +kernel
theorem dX2_enter_71 : decode cX2_enter 71 = .ok (.aload_n 0, 1) := by decide +kernel
theorem dX2_enter_72 : decode cX2_enter 72 = .ok (.getfield 18, 3) := by decide +kernel
theorem dX2_enter_75 : decode cX2_enter 75 = .ok (.iload 6, 2) := by decide +kernel
theorem dX2_enter_77 : decode cX2_enter 77 = .ok (.iload 4, 2) := by decide +kernel
theorem dX2_enter_79 : decode cX2_enter 79 = .ok (.iastore, 1) := by decide +kernel
theorem dX2_enter_80 : decode cX2_enter 80 = .ok (.aload_n 0, 1) := by decide +kernel
theorem dX2_enter_81 : decode cX2_enter 81 = .ok (.getfield 21, 3) := by decide +kernel
theorem dX2_enter_84 : decode cX2_enter 84 = .ok (.iload 6, 2) := by decide +kernel
theorem dX2_enter_86 : decode cX2_enter 86 = .ok (.iload_n 1, 1) := by decide +kernel
theorem dX2_enter_87 : decode cX2_enter 87 = .ok (.iastore, 1) := by decide +kernel
theorem dX2_enter_88 : decode cX2_enter 88 = .ok (.aload_n 0, 1) := by decide +kernel
theorem dX2_enter_89 : decode cX2_enter 89 = .ok (.getfield 24, 3) := by decide +kernel
theorem dX2_enter_92 : decode cX2_enter 92 = .ok (.iload 6, 2) := by decide +kernel
theorem dX2_enter_94 : decode cX2_enter 94 = .ok (.iload_n 2, 1) := by decide +kernel
theorem dX2_enter_95 : decode cX2_enter 95 = .ok (.iastore, 1) := by decide +kernel
theorem dX2_enter_96 : decode cX2_enter 96 = .ok (.aload_n 0, 1) := by decide +kernel
theorem dX2_enter_97 : decode cX2_enter 97 = .ok (.getfield 27, 3) := by decide +kernel
theorem dX2_enter_100 : decode cX2_enter 100 = .ok (.iload 6, 2) := by decide +kernel
theorem dX2_enter_102 : decode cX2_enter 102 = .ok (.iload 5, 2) := by decide +kernel
theorem dX2_enter_104 : decode cX2_enter 104 = .ok (.castore, 1) := by decide +kernel
theorem dX2_enter_105 : decode cX2_enter 105 = .ok (.aload_n 0, 1) := by decide +kernel
theorem dX2_enter_106 : decode cX2_enter 106 = .ok (.getfield 31, 3) := by decide +kernel
theorem dX2_enter_109 : decode cX2_enter 109 = .ok (.iload 6, 2) := by decide +kernel
theorem dX2_enter_111 : decode cX2_enter 111 = .ok (.aload_n 0, 1) := by decide +kernel
theorem dX2_enter_112 : decode cX2_enter 112 = .ok (.getfield 41, 3) := by decide +kernel
theorem dX2_enter_115 : decode cX2_enter 115 = .ok (.iload 7, 2) := by decide +kernel
theorem dX2_enter_117 : decode cX2_enter 117 = .ok (.invokevirtual 69, 3) := by decide +kernel
theorem dX2_enter_120 : decode cX2_enter 120 = .ok (.castore, 1) := by decide +kernel
theorem dX2_enter_121 : decode cX2_enter 121 = .ok (.aload_n 0, 1) := by decide +kernel
theorem dX2_enter_122 : decode cX2_enter 122 = .ok (.getfield 34, 3) := by decide +kernel
theorem dX2_enter_125 : decode cX2_enter 125 = .ok (.iload 6, 2) := by decide +kernel
theorem dX2_enter_127 : decode cX2_enter 127 = .ok (.iconst 1, 1) := by decide +kernel
theorem dX2_enter_128 : decode cX2_enter 128 = .ok (.bastore, 1) := by decide +kernel
theorem dX2_enter_129 : decode cX2_enter 129 = .ok (.aload_n 0, 1) := by decide +kernel
theorem dX2_enter_130 : decode cX2_enter 130 = .ok (.getfield 41, 3) := by decide +kernel
theorem dX2_enter_133 : decode cX2_enter 133 = .ok (.iload 7, 2) := by decide +kernel
theorem dX2_enter_135 : decode cX2_enter 135 = .ok (.bipush 118, 2) := by decide +kernel
theorem dX2_enter_137 : decode cX2_enter 137 = .ok (.invokevirtual 83, 3) := by decide +kernel
theorem dX2_enter_140 : decode cX2_enter 140 = .ok (.iload 6, 2) := by decide +kernel
theorem dX2_enter_142 : decode cX2_enter 142 = .ok (.ireturn, 1) := by decide +kernel
theorem dX2_has_0 : decode cX2_has 0 = .ok (.iload_n 1, 1) := by decide +kernel
theorem dX2_has_1 : decode cX2_has 1 = .ok (.ifCond .lt 21, 3) := by decide +kernel
theorem dX2_has_4 : decode cX2_has 4 = .ok (.iload_n 1, 1) := by decide +kernel
theorem dX2_has_5 : decode cX2_has 5 = .ok (.aload_n 0, 1) := by decide +kernel
theorem dX2_has_6 : decode cX2_has 6 = .ok (.getfield 105, 3) := by decide +kernel
theorem dX2_has_9 : decode cX2_has 9 = .ok (.if_icmp .ge 13, 3) := by decide +kernel
theorem dX2_has_12 : decode cX2_has 12 = .ok (.iload_n 1, 1) := by decide +kernel
theorem dX2_has_13 : decode cX2_has 13 = .ok (.bipush 20, 2) := by decide +kernel
theorem dX2_has_15 : decode cX2_has 15 = .ok (.if_icmp .ge 7, 3) := by decide +kernel
theorem dX2_has_18 : decode cX2_has 18 = .ok (.iconst 1, 1) := by decide +kernel
theorem dX2_has_19 : decode cX2_has 19 = .ok (.goto 4, 3) := by decide +kernel
theorem dX2_has_22 : decode cX2_has 22 = .ok (.iconst 0, 1) := by decide +kernel
theorem dX2_has_23 : decode cX2_has 23 = .ok (.ireturn, 1) := by decide +kernel
set_option maxRecDepth 20000 in
theorem ggX2_letterOf_X2_has : GoodIn wsX2_letterOf wsX2_has := goodIn_r _ [6, 7, 8, 9, 10, 11, 12, 13, 14, 15, 16, 17, 18, 19, 20] (by decide +kernel) (by decide +kernel)
set_option maxRecDepth 20000 in
theorem gX2_letterOf_X2_has : GoodIn wsX2_letterOf (wsV RX2 106 RX2 yX2_has wsX2_has) := goodIn_app (goodIn_of _ (by decide +kernel)) ggX2_letterOf_X2_has
theorem dX2_letterOf_0 : decode cX2_letterOf 0 = .ok (.aload_n 0, 1) := by decide +kernel
theorem dX2_letterOf_1 : decode cX2_letterOf 1 = .ok (.iload_n 1, 1) := by decide +kernel
theorem dX2_letterOf_2 : decode cX2_letterOf 2 = .ok (.invokevirtual 106, 3) := by decide +kernel
theorem dX2_letterOf_5 : decode cX2_letterOf 5 = .ok (.ifCond .eq 12, 3) := by decide +kernel
theorem dX2_letterOf_8 : decode cX2_letterOf 8 = .ok (.aload_n 0, 1) := by decide +kernel
theorem dX2_letterOf_9 : decode cX2_letterOf 9 = .ok (.getfield 27, 3) := by decide +kernel
theorem dX2_letterOf_12 : decode cX2_letterOf 12 = .ok (.iload_n 1, 1) := by decide +kernel
theorem dX2_letterOf_13 : decode cX2_letterOf 13 = .ok (.caload, 1) := by decide +kernel
theorem dX2_letterOf_14 : decode cX2_letterOf 14 = .ok (.goto 5, 3) := by decide +kernel
theorem dX2_letterOf_17 : decode cX2_letterOf 17 = .ok (.bipush 101, 2) := by decide +kernel
theorem dX2_letterOf_19 : decode cX2_letterOf 19 = .ok (.ireturn, 1) := by decide +kernel
set_option maxRecDepth 20000 in
theorem ggX2_isInForce_X2_has : GoodIn wsX2_isInForce wsX2_has := goodIn_r _ [6, 7, 8, 9, 10, 11, 12, 13, 14, 15, 16, 17, 18, 19, 20] (by decide +kernel) (by decide +kernel)
set_option maxRecDepth 20000 in
theorem gX2_isInForce_X2_has : GoodIn wsX2_isInForce (wsV RX2 106 RX2 yX2_has wsX2_has) := goodIn_app (goodIn_of _ (by decide +kernel)) ggX2_isInForce_X2_has
theorem dX2_isInForce_0 : decode cX2_isInForce 0 = .ok (.aload_n 0, 1) := by decide +kernel
theorem dX2_isInForce_1 : decode cX2_isInForce 1 = .ok (.iload_n 1, 1) := by decide +kernel
theorem dX2_isInForce_2 : decode cX2_isInForce 2 = .ok (.invokevirtual 106, 3) := by decide +kernel
theorem dX2_isInForce_5 : decode cX2_isInForce 5 = .ok (.ifCond .eq 16, 3) := by decide +kernel
theorem dX2_isInForce_8 : decode cX2_isInForce 8 = .ok (.aload_n 0, 1) := by decide +kernel
theorem dX2_isInForce_9 : decode cX2_isInForce 9 = .ok (.getfield 34, 3) := by decide +kernel
theorem dX2_isInForce_12 : decode cX2_isInForce 12 = .ok (.iload_n 1, 1) := by decide +kernel
theorem dX2_isInForce_13 : decode cX2_isInForce 13 = .ok (.baload, 1) := by decide +kernel
theorem dX2_isInForce_14 : decode cX2_isInForce 14 = .ok (.ifCond .eq 7, 3) := by decide +kernel
theorem dX2_isInForce_17 : decode cX2_isInForce 17 = .ok (.iconst 1, 1) := by decide +kernel
theorem dX2_isInForce_18 : decode cX2_isInForce 18 = .ok (.goto 4, 3) := by decide +kernel
theorem dX2_isInForce_21 : decode cX2_isInForce 21 = .ok (.iconst 0, 1) := by decide +kernel
theorem dX2_isInForce_22 : decode cX2_isInForce 22 = .ok (.ireturn, 1) := by decide +kernel
theorem dX2_latest_0 : decode cX2_latest 0 = .ok (.aload_n 0, 1) := by decide +kernel
theorem dX2_latest_1 : decode cX2_latest 1 = .ok (.getfield 105, 3) := by decide +kernel
theorem dX2_latest_4 : decode cX2_latest 4 = .ok (.bipush 20, 2) := by decide +kernel
theorem dX2_latest_6 : decode cX2_latest 6 = .ok (.invokestatic 109, 3) := by decide +kernel
theorem dX2_latest_9 : decode cX2_latest 9 = .ok (.iconst 1, 1) := by decide +kernel
theorem dX2_latest_10 : decode cX2_latest 10 = .ok (.isub, 1) := by decide +kernel
theorem dX2_latest_11 : decode cX2_latest 11 = .ok (.istore_n 3, 1) := by decide +kernel
theorem dX2_latest_12 : decode cX2_latest 12 = .ok (.iload_n 3, 1) := by decide +kernel
theorem dX2_latest_13 : decode cX2_latest 13 = .ok (.ifCond .lt 43, 3) := by decide +kernel
theorem dX2_latest_16 : decode cX2_latest 16 = .ok (.aload_n 0, 1) := by decide +kernel
theorem dX2_latest_17 : decode cX2_latest 17 = .ok (.getfield 34, 3) := by decide +kernel
theorem dX2_latest_20 : decode cX2_latest 20 = .ok (.iload_n 3, 1) := by decide +kernel
theorem dX2_latest_21 : decode cX2_latest 21 = .ok (.baload, 1) := by decide +kernel
theorem dX2_latest_22 : decode cX2_latest 22 = .ok (.ifCond .eq 28, 3) := by decide +kernel
theorem dX2_latest_25 : decode cX2_latest 25 = .ok (.aload_n 0, 1) := by decide +kernel
theorem dX2_latest_26 : decode cX2_latest 26 = .ok (.getfield 9, 3) := by decide +kernel
theorem dX2_latest_29 : decode cX2_latest 29 = .ok (.iload_n 3, 1) := by decide +kernel
theorem dX2_latest_30 : decode cX2_latest 30 = .ok (.iaload, 1) := by decide +kernel
theorem dX2_latest_31 : decode cX2_latest 31 = .ok (.iload_n 1, 1) := by decide +kernel
theorem dX2_latest_32 : decode cX2_latest 32 = .ok (.if_icmp .ne 18, 3) := by decide +kernel
theorem dX2_latest_35 : decode cX2_latest 35 = .ok (.aload_n 0, 1) := by decide +kernel
theorem dX2_latest_36 : decode cX2_latest 36 = .ok (.getfield 15, 3) := by decide +kernel
theorem dX2_latest_39 : decode cX2_latest 39 = .ok (.iload_n 3, 1) := by decide +kernel
theorem dX2_latest_40 : decode cX2_latest 40 = .ok (.iaload, 1) := by decide +kernel
theorem dX2_latest_41 : decode cX2_latest 41 = .ok (.bipush 8, 2) := by decide +kernel
theorem dX2_latest_43 : decode cX2_latest 43 = .ok (.idiv, 1) := by decide +kernel
theorem dX2_latest_44 : decode cX2_latest 44 = .ok (.iload_n 2, 1) := by decide +kernel
theorem dX2_latest_45 : decode cX2_latest 45 = .ok (.if_icmp .ne 5, 3) := by decide +kernel
theorem dX2_latest_48 : decode cX2_latest 48 = .ok (.iload_n 3, 1) := by decide +kernel
theorem dX2_latest_49 : decode cX2_latest 49 = .ok (.ireturn, 1) := by decide +kernel
theorem dX2_latest_50 : decode cX2_latest 50 = .ok (.iinc 3 (-1), 3) := by decide +kernel
theorem dX2_latest_53 : decode cX2_latest 53 = .ok (.goto (-41), 3) := by decide +kernel
theorem dX2_latest_56 : decode cX2_latest 56 = .ok (.iconst (-1), 1) := by decide +kernel
theorem dX2_latest_57 : decode cX2_latest 57 = .ok (.ireturn, 1) := by decide +kernel
set_option maxRecDepth 20000 in
theorem ggX2_isOpenToAppeal_X2_isInForce : GoodIn wsX2_isOpenToAppeal wsX2_isInForce := goodIn_ca (goodIn_r _ [8, 9, 10, 11, 12, 7, 13, 14, 15, 16, 17, 18, 19, 20, 21, 22, 23, 24, 25, 26, 27] (by decide +kernel) (by decide +kernel)) (goodIn_sub (fun _ h => List.mem_cons_of_mem _ (List.mem_append_right _ h)) (by decide +kernel))
set_option maxRecDepth 20000 in
theorem gX2_isOpenToAppeal_X2_isInForce : GoodIn wsX2_isOpenToAppeal (wsV RX2 114 RX2 yX2_isInForce wsX2_isInForce) := goodIn_app (goodIn_of _ (by decide +kernel)) ggX2_isOpenToAppeal_X2_isInForce
theorem dX2_isOpenToAppeal_0 : decode cX2_isOpenToAppeal 0 = .ok (.aload_n 0, 1) := by decide +kernel
theorem dX2_isOpenToAppeal_1 : decode cX2_isOpenToAppeal 1 = .ok (.iload_n 1, 1) := by decide +kernel
theorem dX2_isOpenToAppeal_2 : decode cX2_isOpenToAppeal 2 = .ok (.invokevirtual 114, 3) := by decide +kernel
theorem dX2_isOpenToAppeal_5 : decode cX2_isOpenToAppeal 5 = .ok (.ifCond .eq 39, 3) := by decide +kernel
theorem dX2_isOpenToAppeal_8 : decode cX2_isOpenToAppeal 8 = .ok (.iload_n 2, 1) := by decide +kernel
theorem dX2_isOpenToAppeal_9 : decode cX2_isOpenToAppeal 9 = .ok (.aload_n 0, 1) := by decide +kernel
theorem dX2_isOpenToAppeal_10 : decode cX2_isOpenToAppeal 10 = .ok (.getfield 18, 3) := by decide +kernel
theorem dX2_isOpenToAppeal_13 : decode cX2_isOpenToAppeal 13 = .ok (.iload_n 1, 1) := by decide +kernel
theorem dX2_isOpenToAppeal_14 : decode cX2_isOpenToAppeal 14 = .ok (.iaload, 1) := by decide +kernel
theorem dX2_isOpenToAppeal_15 : decode cX2_isOpenToAppeal 15 = .ok (.isub, 1) := by decide +kernel
theorem dX2_isOpenToAppeal_16 : decode cX2_isOpenToAppeal 16 = .ok (.iconst 2, 1) := by decide +kernel
theorem dX2_isOpenToAppeal_17 : decode cX2_isOpenToAppeal 17 = .ok (.if_icmp .ge 27, 3) := by decide +kernel
theorem dX2_isOpenToAppeal_20 : decode cX2_isOpenToAppeal 20 = .ok (.aload_n 0, 1) := by decide +kernel
theorem dX2_isOpenToAppeal_21 : decode cX2_isOpenToAppeal 21 = .ok (.getfield 38, 3) := by decide +kernel
theorem dX2_isOpenToAppeal_24 : decode cX2_isOpenToAppeal 24 = .ok (.iload_n 1, 1) := by decide +kernel
theorem dX2_isOpenToAppeal_25 : decode cX2_isOpenToAppeal 25 = .ok (.baload, 1) := by decide +kernel
theorem dX2_isOpenToAppeal_26 : decode cX2_isOpenToAppeal 26 = .ok (.ifCond .ne 18, 3) := by decide +kernel
theorem dX2_isOpenToAppeal_29 : decode cX2_isOpenToAppeal 29 = .ok (.aload_n 0, 1) := by decide +kernel
theorem dX2_isOpenToAppeal_30 : decode cX2_isOpenToAppeal 30 = .ok (.getfield 15, 3) := by decide +kernel
theorem dX2_isOpenToAppeal_33 : decode cX2_isOpenToAppeal 33 = .ok (.iload_n 1, 1) := by decide +kernel
theorem dX2_isOpenToAppeal_34 : decode cX2_isOpenToAppeal 34 = .ok (.iaload, 1) := by decide +kernel
theorem dX2_isOpenToAppeal_35 : decode cX2_isOpenToAppeal 35 = .ok (.bipush 12, 2) := by decide +kernel
theorem dX2_isOpenToAppeal_37 : decode cX2_isOpenToAppeal 37 = .ok (.if_icmp .lt 7, 3) := by decide +kernel
theorem dX2_isOpenToAppeal_40 : decode cX2_isOpenToAppeal 40 = .ok (.iconst 1, 1) := by decide +kernel
theorem dX2_isOpenToAppeal_41 : decode cX2_isOpenToAppeal 41 = .ok (.goto 4, 3) := by decide +kernel
theorem dX2_isOpenToAppeal_44 : decode cX2_isOpenToAppeal 44 = .ok (.iconst 0, 1) := by decide +kernel
theorem dX2_isOpenToAppeal_45 : decode cX2_isOpenToAppeal 45 = .ok (.ireturn, 1) := by decide +kernel
set_option maxRecDepth 20000 in
theorem ggX2_overturn_X2_has : GoodIn wsX2_overturn wsX2_has := goodIn_r _ [13, 14, 41, 42, 43, 44, 45, 46, 47, 48, 49, 50, 51, 52, 53] (by decide +kernel) (by decide +kernel)
set_option maxRecDepth 20000 in
theorem gX2_overturn_X2_has : GoodIn wsX2_overturn (wsV RX2 106 RX2 yX2_has wsX2_has) := goodIn_app (goodIn_of _ (by decide +kernel)) ggX2_overturn_X2_has
set_option maxRecDepth 20000 in
theorem ggX2_overturn_X9_setLetter : GoodIn wsX2_overturn wsX9_setLetter := goodIn_ca (goodIn_r _ [19, 20, 21, 22, 23, 18, 24, 25, 54, 55, 56, 57, 58, 59, 60, 61, 62, 63, 64, 65] (by decide +kernel) (by decide +kernel)) (goodIn_sub (fun _ h => List.mem_cons_of_mem _ (List.mem_append_right _ h)) (by decide +kernel))
set_option maxRecDepth 20000 in
theorem gX2_overturn_X9_setLetter : GoodIn wsX2_overturn (wsV RX2 83 RX9 yX9_setLetter wsX9_setLetter) := goodIn_app (goodIn_of _ (by decide +kernel)) ggX2_overturn_X9_setLetter
set_option maxRecDepth 20000 in
theorem ggX2_overturn_X2_enter : GoodIn wsX2_overturn wsX2_enter := goodIn_ca (goodIn_r _ [29, 14, 30, 3, 7, 31, 5, 4, 1, 6, 2, 32, 33, 34, 18, 35, 36, 21, 22, 23, 24, 25, 37, 38, 39, 40, 20, 15, 16, 17, 19, 41, 42, 43, 44, 45, 46, 47, 48, 49, 50, 51, 52, 53, 54, 55, 56, 57, 58, 59, 60, 61, 62, 63, 64, 65] (by decide +kernel) (by decide +kernel)) (goodIn_sub (fun _ h => List.mem_cons_of_mem _ (List.mem_append_right _ h)) (by decide +kernel))
set_option maxRecDepth 20000 in
theorem gX2_overturn_X2_enter : GoodIn wsX2_overturn (wsV RX2 101 RX2 yX2_enter wsX2_enter) := goodIn_app (goodIn_of _ (by decide +kernel)) ggX2_overturn_X2_enter
theorem dX2_overturn_0 : decode cX2_overturn 0 = .ok (.aload_n 0, 1) := by decide +kernel
theorem dX2_overturn_1 : decode cX2_overturn 1 = .ok (.iload_n 1, 1) := by decide +kernel
theorem dX2_overturn_2 : decode cX2_overturn 2 = .ok (.invokevirtual 106, 3) := by decide +kernel
theorem dX2_overturn_5 : decode cX2_overturn 5 = .ok (.ifCond .ne 5, 3) := by decide +kernel
theorem dX2_overturn_8 : decode cX2_overturn 8 = .ok (.iconst (-1), 1) := by decide +kernel
theorem dX2_overturn_9 : decode cX2_overturn 9 = .ok (.ireturn, 1) := by decide +kernel
theorem dX2_overturn_10 : decode cX2_overturn 10 = .ok (.aload_n 0, 1) := by decide +kernel
theorem dX2_overturn_11 : decode cX2_overturn 11 = .ok (.getfield 27, 3) := by decide +kernel
theorem dX2_overturn_14 : decode cX2_overturn 14 = .ok (.iload_n 1, 1) := by decide +kernel
theorem dX2_overturn_15 : decode cX2_overturn 15 = .ok (.caload, 1) := by decide +kernel
theorem dX2_overturn_16 : decode cX2_overturn 16 = .ok (.bipush 101, 2) := by decide +kernel
theorem dX2_overturn_18 : decode cX2_overturn 18 = .ok (.if_icmp .ne 7, 3) := by decide +kernel
theorem dX2_overturn_21 : decode cX2_overturn 21 = .ok (.iconst 1, 1) := by decide +kernel
theorem dX2_overturn_22 : decode cX2_overturn 22 = .ok (.goto 4, 3) := by decide +kernel
theorem dX2_overturn_25 : decode cX2_overturn 25 = .ok (.iconst 0, 1) := by decide +kernel
theorem dX2_overturn_26 : decode cX2_overturn 26 = .ok (.istore_n 3, 1) := by decide +kernel
theorem dX2_overturn_27 : decode cX2_overturn 27 = .ok (.aload_n 0, 1) := by decide +kernel
theorem dX2_overturn_28 : decode cX2_overturn 28 = .ok (.getfield 34, 3) := by decide +kernel
theorem dX2_overturn_31 : decode cX2_overturn 31 = .ok (.iload_n 1, 1) := by decide +kernel
theorem dX2_overturn_32 : decode cX2_overturn 32 = .ok (.iconst 0, 1) := by decide +kernel
theorem dX2_overturn_33 : decode cX2_overturn 33 = .ok (.bastore, 1) := by decide +kernel
theorem dX2_overturn_34 : decode cX2_overturn 34 = .ok (.aload_n 0, 1) := by decide +kernel
theorem dX2_overturn_35 : decode cX2_overturn 35 = .ok (.getfield 41, 3) := by decide +kernel
theorem dX2_overturn_38 : decode cX2_overturn 38 = .ok (.iload_n 3, 1) := by decide +kernel
theorem dX2_overturn_39 : decode cX2_overturn 39 = .ok (.ifCond .eq 12, 3) := by decide +kernel
theorem dX2_overturn_42 : decode cX2_overturn 42 = .ok (.aload_n 0, 1) := by decide +kernel
theorem dX2_overturn_43 : decode cX2_overturn 43 = .ok (.getfield 24, 3) := by decide +kernel
theorem dX2_overturn_46 : decode cX2_overturn 46 = .ok (.iload_n 1, 1) := by decide +kernel
theorem dX2_overturn_47 : decode cX2_overturn 47 = .ok (.iaload, 1) := by decide +kernel
theorem dX2_overturn_48 : decode cX2_overturn 48 = .ok (.goto 9, 3) := by decide +kernel
theorem dX2_overturn_51 : decode cX2_overturn 51 = .ok (.aload_n 0, 1) := by decide +kernel
theorem dX2_overturn_52 : decode cX2_overturn 52 = .ok (.getfield 21, 3) := by decide +kernel
theorem dX2_overturn_55 : decode cX2_overturn 55 = .ok (.iload_n 1, 1) := by decide +kernel
theorem dX2_overturn_56 : decode cX2_overturn 56 = .ok (.iaload, 1) := by decide +kernel
theorem dX2_overturn_57 : decode cX2_overturn 57 = .ok (.aload_n 0, 1) := by decide +kernel
theorem dX2_overturn_58 : decode cX2_overturn 58 = .ok (.getfield 31, 3) := by decide +kernel
theorem dX2_overturn_61 : decode cX2_overturn 61 = .ok (.iload_n 1, 1) := by decide +kernel
theorem dX2_overturn_62 : decode cX2_overturn 62 = .ok (.caload, 1) := by decide +kernel
theorem dX2_overturn_63 : decode cX2_overturn 63 = .ok (.invokevirtual 83, 3) := by decide +kernel
theorem dX2_overturn_66 : decode cX2_overturn 66 = .ok (.aload_n 0, 1) := by decide +kernel
theorem dX2_overturn_67 : decode cX2_overturn 67 = .ok (.aload_n 0, 1) := by decide +kernel
theorem dX2_overturn_68 : decode cX2_overturn 68 = .ok (.getfield 21, 3) := by decide +kernel
theorem dX2_overturn_71 : decode cX2_overturn 71 = .ok (.iload_n 1, 1) := by decide +kernel
theorem dX2_overturn_72 : decode cX2_overturn 72 = .ok (.iaload, 1) := by decide +kernel
theorem dX2_overturn_73 : decode cX2_overturn 73 = .ok (.aload_n 0, 1) := by decide +kernel
theorem dX2_overturn_74 : decode cX2_overturn 74 = .ok (.getfield 24, 3) := by decide +kernel
theorem dX2_overturn_77 : decode cX2_overturn 77 = .ok (.iload_n 1, 1) := by decide +kernel
theorem dX2_overturn_78 : decode cX2_overturn 78 = .ok (.iaload, 1) := by decide +kernel
theorem dX2_overturn_79 : decode cX2_overturn 79 = .ok (.aload_n 0, 1) := by decide +kernel
theorem dX2_overturn_80 : decode cX2_overturn 80 = .ok (.getfield 15, 3) := by decide +kernel
theorem dX2_overturn_83 : decode cX2_overturn 83 = .ok (.iload_n 1, 1) := by decide +kernel
theorem dX2_overturn_84 : decode cX2_overturn 84 = .ok (.iaload, 1) := by decide +kernel
theorem dX2_overturn_85 : decode cX2_overturn 85 = .ok (.iload_n 2, 1) := by decide +kernel
theorem dX2_overturn_86 : decode cX2_overturn 86 = .ok (.iload_n 3, 1) := by decide +kernel
theorem dX2_overturn_87 : decode cX2_overturn 87 = .ok (.ifCond .eq 8, 3) := by decide +kernel
theorem dX2_overturn_90 : decode cX2_overturn 90 = .ok (.bipush 121, 2) := by decide +kernel
theorem dX2_overturn_92 : decode cX2_overturn 92 = .ok (.goto 5, 3) := by decide +kernel
theorem dX2_overturn_95 : decode cX2_overturn 95 = .ok (.bipush 101, 2) := by decide +kernel
theorem dX2_overturn_97 : decode cX2_overturn 97 = .ok (.invokevirtual 101, 3) := by decide +kernel
theorem dX2_overturn_100 : decode cX2_overturn 100 = .ok (.istore 4, 2) := by decide +kernel
theorem dX2_overturn_102 : decode cX2_overturn 102 = .ok (.aload_n 0, 1) := by decide +kernel
theorem dX2_overturn_103 : decode cX2_overturn 103 = .ok (.iload 4, 2) := by decide +kernel
theorem dX2_overturn_105 : decode cX2_overturn 105 = .ok (.invokevirtual 106, 3) := by decide +kernel
theorem dX2_overturn_108 : decode cX2_overturn 108 = .ok (.ifCond .eq 11, 3) := by decide +kernel
theorem dX2_overturn_111 : decode cX2_overturn 111 = .ok (.aload_n 0, 1) := by decide +kernel
theorem dX2_overturn_112 : decode cX2_overturn 112 = .ok (.getfield 38, 3) := by decide +kernel
theorem dX2_overturn_115 : decode cX2_overturn 115 = .ok (.iload 4, 2) := by decide +kernel
theorem dX2_overturn_117 : decode cX2_overturn 117 = .ok (.iconst 1, 1) := by decide +kernel
theorem dX2_overturn_118 : decode cX2_overturn 118 = .ok (.bastore, 1) := by decide +kernel
theorem dX2_overturn_119 : decode cX2_overturn 119 = .ok (.iload 4, 2) := by decide +kernel
theorem dX2_overturn_121 : decode cX2_overturn 121 = .ok (.ireturn, 1) := by decide +kernel
theorem dX3_init_0 : decode cX3_init 0 = .ok (.aload_n 0, 1) := by decide +kernel
theorem dX3_init_1 : decode cX3_init 1 = .ok (.invokespecial 3, 3) := by decide +kernel
theorem dX3_init_4 : decode cX3_init 4 = .ok (.return_, 1) := by decide +kernel
set_option maxRecDepth 20000 in
theorem ggX3_clear_X3_clearOn : GoodIn wsX3_clear wsX3_clearOn := goodIn_r _ [13, 14, 15, 16, 17, 18, 19, 20, 21, 22, 23, 24, 25, 26, 27, 28, 29, 30, 31] (by decide +kernel) (by decide +kernel)
set_option maxRecDepth 20000 in
theorem gX3_clear_X3_clearOn : GoodIn wsX3_clear (wsV RX3 36 RX3 yX3_clearOn wsX3_clearOn) := goodIn_app (goodIn_of _ (by decide +kernel)) ggX3_clear_X3_clearOn
theorem dX3_clear_0 : decode cX3_clear 0 = .ok (.aload_n 0, 1) := by decide +kernel
theorem dX3_clear_1 : decode cX3_clear 1 = .ok (.iconst 0, 1) := by decide +kernel
theorem dX3_clear_2 : decode cX3_clear 2 = .ok (.putfield 9, 3) := by decide +kernel
theorem dX3_clear_5 : decode cX3_clear 5 = .ok (.aload_n 0, 1) := by decide +kernel
theorem dX3_clear_6 : decode cX3_clear 6 = .ok (.iconst 0, 1) := by decide +kernel
theorem dX3_clear_7 : decode cX3_clear 7 = .ok (.putfield 15, 3) := by decide +kernel
theorem dX3_clear_10 : decode cX3_clear 10 = .ok (.aload_n 0, 1) := by decide +kernel
theorem dX3_clear_11 : decode cX3_clear 11 = .ok (.iconst 0, 1) := by decide +kernel
theorem dX3_clear_12 : decode cX3_clear 12 = .ok (.putfield 18, 3) := by decide +kernel
theorem dX3_clear_15 : decode cX3_clear 15 = .ok (.aload_n 0, 1) := by decide +kernel
theorem dX3_clear_16 : decode cX3_clear 16 = .ok (.iconst 0, 1) := by decide +kernel
theorem dX3_clear_17 : decode cX3_clear 17 = .ok (.putfield 21, 3) := by decide +kernel
theorem dX3_clear_20 : decode cX3_clear 20 = .ok (.aload_n 0, 1) := by decide +kernel
theorem dX3_clear_21 : decode cX3_clear 21 = .ok (.iconst 0, 1) := by decide +kernel
theorem dX3_clear_22 : decode cX3_clear 22 = .ok (.putfield 24, 3) := by decide +kernel
theorem dX3_clear_25 : decode cX3_clear 25 = .ok (.aload_n 0, 1) := by decide +kernel
theorem dX3_clear_26 : decode cX3_clear 26 = .ok (.iconst 0, 1) := by decide +kernel
theorem dX3_clear_27 : decode cX3_clear 27 = .ok (.putfield 27, 3) := by decide +kernel
theorem dX3_clear_30 : decode cX3_clear 30 = .ok (.aload_n 0, 1) := by decide +kernel
theorem dX3_clear_31 : decode cX3_clear 31 = .ok (.iconst 0, 1) := by decide +kernel
theorem dX3_clear_32 : decode cX3_clear 32 = .ok (.putfield 30, 3) := by decide +kernel
theorem dX3_clear_35 : decode cX3_clear 35 = .ok (.aload_n 0, 1) := by decide +kernel
theorem dX3_clear_36 : decode cX3_clear 36 = .ok (.iconst 0, 1) := by decide +kernel
theorem dX3_clear_37 : decode cX3_clear 37 = .ok (.putfield 33, 3) := by decide +kernel
theorem dX3_clear_40 : decode cX3_clear 40 = .ok (.aload_n 0, 1) := by decide +kernel
theorem dX3_clear_41 : decode cX3_clear 41 = .ok (.invokevirtual 36, 3) := by decide +kernel
theorem dX3_clear_44 : decode cX3_clear 44 = .ok (.return_, 1) := by decide +kernel
theorem dX3_clearOn_0 : decode cX3_clearOn 0 = .ok (.aload_n 0, 1) := by decide +kernel
theorem dX3_clearOn_1 : decode cX3_clearOn 1 = .ok (.iconst 0, 1) := by decide +kernel
theorem dX3_clearOn_2 : decode cX3_clearOn 2 = .ok (.putfield 39, 3) := by decide +kernel
theorem dX3_clearOn_5 : decode cX3_clearOn 5 = .ok (.aload_n 0, 1) := by decide +kernel
theorem dX3_clearOn_6 : decode cX3_clearOn 6 = .ok (.iconst 0, 1) := by decide +kernel
theorem dX3_clearOn_7 : decode cX3_clearOn 7 = .ok (.putfield 42, 3) := by decide +kernel
theorem dX3_clearOn_10 : decode cX3_clearOn 10 = .ok (.aload_n 0, 1) := by decide +kernel
theorem dX3_clearOn_11 : decode cX3_clearOn 11 = .ok (.iconst 0, 1) := by decide +kernel
theorem dX3_clearOn_12 : decode cX3_clearOn 12 = .ok (.putfield 45, 3) := by decide +kernel
theorem dX3_clearOn_15 : decode cX3_clearOn 15 = .ok (.aload_n 0, 1) := by decide +kernel
theorem dX3_clearOn_16 : decode cX3_clearOn 16 = .ok (.iconst 0, 1) := by decide +kernel
theorem dX3_clearOn_17 : decode cX3_clearOn 17 = .ok (.putfield 48, 3) := by decide +kernel
theorem dX3_clearOn_20 : decode cX3_clearOn 20 = .ok (.aload_n 0, 1) := by decide +kernel
theorem dX3_clearOn_21 : decode cX3_clearOn 21 = .ok (.iconst 0, 1) := by decide +kernel
theorem dX3_clearOn_22 : decode cX3_clearOn 22 = .ok (.putfield 51, 3) := by decide +kernel
theorem dX3_clearOn_25 : decode cX3_clearOn 25 = .ok (.return_, 1) := by decide +kernel
theorem dX3_takeAsDrawn_0 : decode cX3_takeAsDrawn 0 = .ok (.aload_n 0, 1) := by decide +kernel
theorem dX3_takeAsDrawn_1 : decode cX3_takeAsDrawn 1 = .ok (.aload_n 1, 1) := by decide +kernel
theorem dX3_takeAsDrawn_2 : decode cX3_takeAsDrawn 2 = .ok (.getfield 9, 3) := by decide +kernel
theorem dX3_takeAsDrawn_5 : decode cX3_takeAsDrawn 5 = .ok (.putfield 9, 3) := by decide +kernel
theorem dX3_takeAsDrawn_8 : decode cX3_takeAsDrawn 8 = .ok (.aload_n 0, 1) := by decide +kernel
theorem dX3_takeAsDrawn_9 : decode cX3_takeAsDrawn 9 = .ok (.aload_n 1, 1) := by decide +kernel
theorem dX3_takeAsDrawn_10 : decode cX3_takeAsDrawn 10 = .ok (.getfield 15, 3) := by decide +kernel
theorem dX3_takeAsDrawn_13 : decode cX3_takeAsDrawn 13 = .ok (.putfield 15, 3) := by decide +kernel
theorem dX3_takeAsDrawn_16 : decode cX3_takeAsDrawn 16 = .ok (.aload_n 0, 1) := by decide +kernel
theorem dX3_takeAsDrawn_17 : decode cX3_takeAsDrawn 17 = .ok (.aload_n 1, 1) := by decide +kernel
theorem dX3_takeAsDrawn_18 : decode cX3_takeAsDrawn 18 = .ok (.getfield 18, 3) := by decide +kernel
theorem dX3_takeAsDrawn_21 : decode cX3_takeAsDrawn 21 = .ok (.putfield 18, 3) := by decide +kernel
theorem dX3_takeAsDrawn_24 : decode cX3_takeAsDrawn 24 = .ok (.aload_n 0, 1) := by decide +kernel
theorem dX3_takeAsDrawn_25 : decode cX3_takeAsDrawn 25 = .ok (.aload_n 1, 1) := by decide +kernel
theorem dX3_takeAsDrawn_26 : decode cX3_takeAsDrawn 26 = .ok (.getfield 21, 3) := by decide +kernel
theorem dX3_takeAsDrawn_29 : decode cX3_takeAsDrawn 29 = .ok (.bipush 16, 2) := by decide +kernel
theorem dX3_takeAsDrawn_31 : decode cX3_takeAsDrawn 31 = .ok (.if_icmp .ge 17, 3) := by decide +kernel
theorem dX3_takeAsDrawn_34 : decode cX3_takeAsDrawn 34 = .ok (.aload_n 1, 1) := by decide +kernel
theorem dX3_takeAsDrawn_35 : decode cX3_takeAsDrawn 35 = .ok (.getfield 33, 3) := by decide +kernel
theorem dX3_takeAsDrawn_38 : decode cX3_takeAsDrawn 38 = .ok (.ifCond .le 10, 3) := by decide +kernel
theorem dX3_takeAsDrawn_41 : decode cX3_takeAsDrawn 41 = .ok (.aload_n 1, 1) := by decide +kernel
theorem dX3_takeAsDrawn_42 : decode cX3_takeAsDrawn 42 = .ok (.getfield 33, 3) := by decide +kernel
theorem dX3_takeAsDrawn_45 : decode cX3_takeAsDrawn 45 = .ok (.goto 7, 3) := by decide +kernel
theorem dX3_takeAsDrawn_48 : decode cX3_takeAsDrawn 48 = .ok (.aload_n 1, 1) := by decide +kernel
theorem dX3_takeAsDrawn_49 : decode cX3_takeAsDrawn 49 = .ok (.getfield 21, 3) := by decide +kernel
theorem dX3_takeAsDrawn_52 : decode cX3_takeAsDrawn 52 = .ok (.putfield 21, 3) := by decide +kernel
theorem dX3_takeAsDrawn_55 : decode cX3_takeAsDrawn 55 = .ok (.aload_n 0, 1) := by decide +kernel
theorem dX3_takeAsDrawn_56 : decode cX3_takeAsDrawn 56 = .ok (.aload_n 1, 1) := by decide +kernel
theorem dX3_takeAsDrawn_57 : decode cX3_takeAsDrawn 57 = .ok (.getfield 24, 3) := by decide +kernel
theorem dX3_takeAsDrawn_60 : decode cX3_takeAsDrawn 60 = .ok (.putfield 24, 3) := by decide +kernel
theorem dX3_takeAsDrawn_63 : decode cX3_takeAsDrawn 63 = .ok (.aload_n 0, 1) := by decide +kernel
theorem dX3_takeAsDrawn_64 : decode cX3_takeAsDrawn 64 = .ok (.aload_n 1, 1) := by decide +kernel
theorem dX3_takeAsDrawn_65 : decode cX3_takeAsDrawn 65 = .ok (.getfield 27, 3) := by decide +kernel
theorem dX3_takeAsDrawn_68 : decode cX3_takeAsDrawn 68 = .ok (.putfield 27, 3) := by decide +kernel
theorem dX3_takeAsDrawn_71 : decode cX3_takeAsDrawn 71 = .ok (.aload_n 0, 1) := by decide +kernel
theorem dX3_takeAsDrawn_72 : decode cX3_takeAsDrawn 72 = .ok (.aload_n 1, 1) := by decide +kernel
theorem dX3_takeAsDrawn_73 : decode cX3_takeAsDrawn 73 = .ok (.getfield 30, 3) := by decide +kernel
theorem dX3_takeAsDrawn_76 : decode cX3_takeAsDrawn 76 = .ok (.putfield 30, 3) := by decide +kernel
theorem dX3_takeAsDrawn_79 : decode cX3_takeAsDrawn 79 = .ok (.aload_n 0, 1) := by decide +kernel
theorem dX3_takeAsDrawn_80 : decode cX3_takeAsDrawn 80 = .ok (.aload_n 1, 1) := by decide +kernel
theorem dX3_takeAsDrawn_81 : decode cX3_takeAsDrawn 81 = .ok (.getfield 51, 3) := by decide +kernel
theorem dX3_takeAsDrawn_84 : decode cX3_takeAsDrawn 84 = .ok (.ifCond .le 10, 3) := by decide +kernel
theorem dX3_takeAsDrawn_87 : decode cX3_takeAsDrawn 87 = .ok (.aload_n 1, 1) := by decide +kernel
theorem dX3_takeAsDrawn_88 : decode cX3_takeAsDrawn 88 = .ok (.getfield 51, 3) := by decide +kernel
theorem dX3_takeAsDrawn_91 : decode cX3_takeAsDrawn 91 = .ok (.goto 7, 3) := by decide +kernel
theorem dX3_takeAsDrawn_94 : decode cX3_takeAsDrawn 94 = .ok (.aload_n 1, 1) := by decide +kernel
theorem dX3_takeAsDrawn_95 : decode cX3_takeAsDrawn 95 = .ok (.getfield 39, 3) := by decide +kernel
theorem dX3_takeAsDrawn_98 : decode cX3_takeAsDrawn 98 = .ok (.putfield 39, 3) := by decide +kernel
theorem dX3_takeAsDrawn_101 : decode cX3_takeAsDrawn 101 = .ok (.aload_n 0, 1) := by decide +kernel
theorem dX3_takeAsDrawn_102 : decode cX3_takeAsDrawn 102 = .ok (.aload_n 1, 1) := by decide +kernel
theorem dX3_takeAsDrawn_103 : decode cX3_takeAsDrawn 103 = .ok (.getfield 42, 3) := by decide +kernel
theorem dX3_takeAsDrawn_106 : decode cX3_takeAsDrawn 106 = .ok (.putfield 42, 3) := by decide +kernel
theorem dX3_takeAsDrawn_109 : decode cX3_takeAsDrawn 109 = .ok (.aload_n 0, 1) := by decide +kernel
theorem dX3_takeAsDrawn_110 : decode cX3_takeAsDrawn 110 = .ok (.aload_n 1, 1) := by decide +kernel
theorem dX3_takeAsDrawn_111 : decode cX3_takeAsDrawn 111 = .ok (.getfield 45, 3) := by decide +kernel
theorem dX3_takeAsDrawn_114 : decode cX3_takeAsDrawn 114 = .ok (.putfield 45, 3) := by decide +kernel
theorem dX3_takeAsDrawn_117 : decode cX3_takeAsDrawn 117 = .ok (.aload_n 0, 1) := by decide +kernel
theorem dX3_takeAsDrawn_118 : decode cX3_takeAsDrawn 118 = .ok (.aload_n 1, 1) := by decide +kernel
theorem dX3_takeAsDrawn_119 : decode cX3_takeAsDrawn 119 = .ok (.getfield 48, 3) := by decide +kernel
theorem dX3_takeAsDrawn_122 : decode cX3_takeAsDrawn 122 = .ok (.putfield 48, 3) := by decide +kernel
theorem dX3_takeAsDrawn_125 : decode cX3_takeAsDrawn 125 = .ok (.return_, 1) := by decide +kernel
set_option maxRecDepth 20000 in
theorem ggX3_tellTo_X3_put : GoodIn wsX3_tellTo wsX3_put := goodIn_ca (goodIn_r _ [15] (by decide +kernel) (by decide +kernel)) (goodIn_sub (fun _ h => List.mem_cons_of_mem _ (List.mem_append_right _ h)) (by decide +kernel))
set_option maxRecDepth 20000 in
theorem gX3_tellTo_X3_put : GoodIn wsX3_tellTo (va_wsS RX3 54 yX3_put wsX3_put) := goodIn_app (goodIn_of _ (by decide +kernel)) ggX3_tellTo_X3_put
theorem dX3_tellTo_0 : decode cX3_tellTo 0 = .ok (.iload_n 2, 1) := by decide +kernel
theorem dX3_tellTo_1 : decode cX3_tellTo 1 = .ok (.istore_n 3, 1) := by decide +kernel
theorem dX3_tellTo_2 : decode cX3_tellTo 2 = .ok (.aload_n 0, 1) := by decide +kernel
theorem dX3_tellTo_3 : decode cX3_tellTo 3 = .ok (.getfield 9, 3) := by decide +kernel
theorem dX3_tellTo_6 : decode cX3_tellTo 6 = .ok (.ifCond .eq 93, 3) := by decide +kernel
theorem dX3_tellTo_9 : decode cX3_tellTo 9 = .ok (.aload_n 1, 1) := by decide +kernel
theorem dX3_tellTo_10 : decode cX3_tellTo 10 = .ok (.iload_n 3, 1) := by decide +kernel
theorem dX3_tellTo_11 : decode cX3_tellTo 11 = .ok (.aload_n 0, 1) := by decide +kernel
theorem dX3_tellTo_12 : decode cX3_tellTo 12 = .ok (.getfield 9, 3) := by decide +kernel
theorem dX3_tellTo_15 : decode cX3_tellTo 15 = .ok (.invokestatic 54, 3) := by decide +kernel
theorem dX3_tellTo_18 : decode cX3_tellTo 18 = .ok (.istore_n 3, 1) := by decide +kernel
theorem dX3_tellTo_19 : decode cX3_tellTo 19 = .ok (.aload_n 1, 1) := by decide +kernel
theorem dX3_tellTo_20 : decode cX3_tellTo 20 = .ok (.iload_n 3, 1) := by decide +kernel
theorem dX3_tellTo_21 : decode cX3_tellTo 21 = .ok (.aload_n 0, 1) := by decide +kernel
theorem dX3_tellTo_22 : decode cX3_tellTo 22 = .ok (.getfield 15, 3) := by decide +kernel
theorem dX3_tellTo_25 : decode cX3_tellTo 25 = .ok (.invokestatic 54, 3) := by decide +kernel
theorem dX3_tellTo_28 : decode cX3_tellTo 28 = .ok (.istore_n 3, 1) := by decide +kernel
theorem dX3_tellTo_29 : decode cX3_tellTo 29 = .ok (.aload_n 1, 1) := by decide +kernel
theorem dX3_tellTo_30 : decode cX3_tellTo 30 = .ok (.iload_n 3, 1) := by decide +kernel
theorem dX3_tellTo_31 : decode cX3_tellTo 31 = .ok (.aload_n 0, 1) := by decide +kernel
theorem dX3_tellTo_32 : decode cX3_tellTo 32 = .ok (.getfield 18, 3) := by decide +kernel
theorem dX3_tellTo_35 : decode cX3_tellTo 35 = .ok (.invokestatic 54, 3) := by decide +kernel
theorem dX3_tellTo_38 : decode cX3_tellTo 38 = .ok (.istore_n 3, 1) := by decide +kernel
theorem dX3_tellTo_39 : decode cX3_tellTo 39 = .ok (.aload_n 0, 1) := by decide +kernel
theorem dX3_tellTo_40 : decode cX3_tellTo 40 = .ok (.getfield 39, 3) := by decide +kernel
theorem dX3_tellTo_43 : decode cX3_tellTo 43 = .ok (.ifCond .eq 54, 3) := by decide +kernel
theorem dX3_tellTo_46 : decode cX3_tellTo 46 = .ok (.aload_n 1, 1) := by decide +kernel
theorem dX3_tellTo_47 : decode cX3_tellTo 47 = .ok (.iload_n 3, 1) := by decide +kernel
theorem dX3_tellTo_48 : decode cX3_tellTo 48 = .ok (.bipush 36, 2) := by decide +kernel
theorem dX3_tellTo_50 : decode cX3_tellTo 50 = .ok (.invokestatic 54, 3) := by decide +kernel
theorem dX3_tellTo_53 : decode cX3_tellTo 53 = .ok (.istore_n 3, 1) := by decide +kernel
theorem dX3_tellTo_54 : decode cX3_tellTo 54 = .ok (.aload_n 1, 1) := by decide +kernel
theorem dX3_tellTo_55 : decode cX3_tellTo 55 = .ok (.iload_n 3, 1) := by decide +kernel
theorem dX3_tellTo_56 : decode cX3_tellTo 56 = .ok (.bipush 60, 2) := by decide +kernel
theorem dX3_tellTo_58 : decode cX3_tellTo 58 = .ok (.aload_n 0, 1) := by decide +kernel
theorem dX3_tellTo_59 : decode cX3_tellTo 59 = .ok (.getfield 39, 3) := by decide +kernel
theorem dX3_tellTo_62 : decode cX3_tellTo 62 = .ok (.iadd, 1) := by decide +kernel
theorem dX3_tellTo_63 : decode cX3_tellTo 63 = .ok (.invokestatic 54, 3) := by decide +kernel
theorem dX3_tellTo_66 : decode cX3_tellTo 66 = .ok (.istore_n 3, 1) := by decide +kernel
theorem dX3_tellTo_67 : decode cX3_tellTo 67 = .ok (.aload_n 1, 1) := by decide +kernel
theorem dX3_tellTo_68 : decode cX3_tellTo 68 = .ok (.iload_n 3, 1) := by decide +kernel
theorem dX3_tellTo_69 : decode cX3_tellTo 69 = .ok (.aload_n 0, 1) := by decide +kernel
theorem dX3_tellTo_70 : decode cX3_tellTo 70 = .ok (.getfield 42, 3) := by decide +kernel
theorem dX3_tellTo_73 : decode cX3_tellTo 73 = .ok (.invokestatic 54, 3) := by decide +kernel
theorem dX3_tellTo_76 : decode cX3_tellTo 76 = .ok (.istore_n 3, 1) := by decide +kernel
theorem dX3_tellTo_77 : decode cX3_tellTo 77 = .ok (.aload_n 1, 1) := by decide +kernel
theorem dX3_tellTo_78 : decode cX3_tellTo 78 = .ok (.iload_n 3, 1) := by decide +kernel
theorem dX3_tellTo_79 : decode cX3_tellTo 79 = .ok (.aload_n 0, 1) := by decide +kernel
theorem dX3_tellTo_80 : decode cX3_tellTo 80 = .ok (.getfield 45, 3) := by decide +kernel
theorem dX3_tellTo_83 : decode cX3_tellTo 83 = .ok (.invokestatic 54, 3) := by decide +kernel
theorem dX3_tellTo_86 : decode cX3_tellTo 86 = .ok (.istore_n 3, 1) := by decide +kernel
theorem dX3_tellTo_87 : decode cX3_tellTo 87 = .ok (.aload_n 1, 1) := by decide +kernel
theorem dX3_tellTo_88 : decode cX3_tellTo 88 = .ok (.iload_n 3, 1) := by decide +kernel
theorem dX3_tellTo_89 : decode cX3_tellTo 89 = .ok (.aload_n 0, 1) := by decide +kernel
theorem dX3_tellTo_90 : decode cX3_tellTo 90 = .ok (.getfield 48, 3) := by decide +kernel
theorem dX3_tellTo_93 : decode cX3_tellTo 93 = .ok (.invokestatic 54, 3) := by decide +kernel
theorem dX3_tellTo_96 : decode cX3_tellTo 96 = .ok (.istore_n 3, 1) := by decide +kernel
theorem dX3_tellTo_97 : decode cX3_tellTo 97 = .ok (.iload_n 3, 1) := by decide +kernel
theorem dX3_tellTo_98 : decode cX3_tellTo 98 = .ok (.ireturn, 1) := by decide +kernel
theorem dX3_tellTo_99 : decode cX3_tellTo 99 = .ok (.aload_n 1, 1) := by decide +kernel
theorem dX3_tellTo_100 : decode cX3_tellTo 100 = .ok (.iload_n 3, 1) := by decide +kernel
theorem dX3_tellTo_101 : decode cX3_tellTo 101 = .ok (.aload_n 0, 1) := by decide +kernel
theorem dX3_tellTo_102 : decode cX3_tellTo 102 = .ok (.getfield 21, 3) := by decide +kernel
theorem dX3_tellTo_105 : decode cX3_tellTo 105 = .ok (.bipush 16, 2) := by decide +kernel
theorem dX3_tellTo_107 : decode cX3_tellTo 107 = .ok (.if_icmp .ne 8, 3) := by decide +kernel
theorem dX3_tellTo_110 : decode cX3_tellTo 110 = .ok (.bipush 39, 2) := by decide +kernel
theorem dX3_tellTo_112 : decode cX3_tellTo 112 = .ok (.goto 10, 3) := by decide +kernel
theorem dX3_tellTo_115 : decode cX3_tellTo 115 = .ok (.bipush 60, 2) := by decide +kernel
theorem dX3_tellTo_117 : decode cX3_tellTo 117 = .ok (.aload_n 0, 1) := by decide +kernel
theorem dX3_tellTo_118 : decode cX3_tellTo 118 = .ok (.getfield 21, 3) := by decide +kernel
theorem dX3_tellTo_121 : decode cX3_tellTo 121 = .ok (.iadd, 1) := by decide +kernel
theorem dX3_tellTo_122 : decode cX3_tellTo 122 = .ok (.invokestatic 54, 3) := by decide +kernel
theorem dX3_tellTo_125 : decode cX3_tellTo 125 = .ok (.istore_n 3, 1) := by decide +kernel
theorem dX3_tellTo_126 : decode cX3_tellTo 126 = .ok (.aload_n 1, 1) := by decide +kernel
theorem dX3_tellTo_127 : decode cX3_tellTo 127 = .ok (.iload_n 3, 1) := by decide +kernel
theorem dX3_tellTo_128 : decode cX3_tellTo 128 = .ok (.aload_n 0, 1) := by decide +kernel
theorem dX3_tellTo_129 : decode cX3_tellTo 129 = .ok (.getfield 24, 3) := by decide +kernel
theorem dX3_tellTo_132 : decode cX3_tellTo 132 = .ok (.invokestatic 54, 3) := by decide +kernel
theorem dX3_tellTo_135 : decode cX3_tellTo 135 = .ok (.istore_n 3, 1) := by decide +kernel
theorem dX3_tellTo_136 : decode cX3_tellTo 136 = .ok (.aload_n 1, 1) := by decide +kernel
theorem dX3_tellTo_137 : decode cX3_tellTo 137 = .ok (.iload_n 3, 1) := by decide +kernel
theorem dX3_tellTo_138 : decode cX3_tellTo 138 = .ok (.aload_n 0, 1) := by decide +kernel
theorem dX3_tellTo_139 : decode cX3_tellTo 139 = .ok (.getfield 27, 3) := by decide +kernel
theorem dX3_tellTo_142 : decode cX3_tellTo 142 = .ok (.invokestatic 54, 3) := by decide +kernel
theorem dX3_tellTo_145 : decode cX3_tellTo 145 = .ok (.istore_n 3, 1) := by decide +kernel
theorem dX3_tellTo_146 : decode cX3_tellTo 146 = .ok (.aload_n 1, 1) := by decide +kernel
theorem dX3_tellTo_147 : decode cX3_tellTo 147 = .ok (.iload_n 3, 1) := by decide +kernel
theorem dX3_tellTo_148 : decode cX3_tellTo 148 = .ok (.aload_n 0, 1) := by decide +kernel
theorem dX3_tellTo_149 : decode cX3_tellTo 149 = .ok (.getfield 30, 3) := by decide +kernel
theorem dX3_tellTo_152 : decode cX3_tellTo 152 = .ok (.invokestatic 54, 3) := by decide +kernel
theorem dX3_tellTo_155 : decode cX3_tellTo 155 = .ok (.istore_n 3, 1) := by decide +kernel
theorem dX3_tellTo_156 : decode cX3_tellTo 156 = .ok (.aload_n 1, 1) := by decide +kernel
theorem dX3_tellTo_157 : decode cX3_tellTo 157 = .ok (.iload_n 3, 1) := by decide +kernel
theorem dX3_tellTo_158 : decode cX3_tellTo 158 = .ok (.aload_n 0, 1) := by decide +kernel
theorem dX3_tellTo_159 : decode cX3_tellTo 159 = .ok (.getfield 18, 3) := by decide +kernel
theorem dX3_tellTo_162 : decode cX3_tellTo 162 = .ok (.invokestatic 54, 3) := by decide +kernel
theorem dX3_tellTo_165 : decode cX3_tellTo 165 = .ok (.ireturn, 1) := by decide +kernel
theorem dX3_put_0 : decode cX3_put 0 = .ok (.iload_n 2, 1) := by decide +kernel
theorem dX3_put_1 : decode cX3_put 1 = .ok (.ifCond .eq 13, 3) := by decide +kernel
theorem dX3_put_4 : decode cX3_put 4 = .ok (.iload_n 1, 1) := by decide +kernel
theorem dX3_put_5 : decode cX3_put 5 = .ok (.ifCond .lt 9, 3) := by decide +kernel
theorem dX3_put_8 : decode cX3_put 8 = .ok (.iload_n 1, 1) := by decide +kernel
theorem dX3_put_9 : decode cX3_put 9 = .ok (.aload_n 0, 1) := by decide +kernel
theorem dX3_put_10 : decode cX3_put 10 = .ok (.arraylength, 1) := by decide +kernel
theorem dX3_put_11 : decode cX3_put 11 = .ok (.if_icmp .lt 5, 3) := by decide +kernel
theorem dX3_put_14 : decode cX3_put 14 = .ok (.iload_n 1, 1) := by decide +kernel
theorem dX3_put_15 : decode cX3_put 15 = .ok (.ireturn, 1) := by decide +kernel
theorem dX3_put_16 : decode cX3_put 16 = .ok (.aload_n 0, 1) := by decide +kernel
theorem dX3_put_17 : decode cX3_put 17 = .ok (.iload_n 1, 1) := by decide +kernel
theorem dX3_put_18 : decode cX3_put 18 = .ok (.iload_n 2, 1) := by decide +kernel
theorem dX3_put_19 : decode cX3_put 19 = .ok (.iastore, 1) := by decide +kernel
theorem dX3_put_20 : decode cX3_put 20 = .ok (.iload_n 1, 1) := by decide +kernel
theorem dX3_put_21 : decode cX3_put 21 = .ok (.iconst 1, 1) := by decide +kernel
theorem dX3_put_22 : decode cX3_put 22 = .ok (.iadd, 1) := by decide +kernel
theorem dX3_put_23 : decode cX3_put 23 = .ok (.ireturn, 1) := by decide +kernel
theorem dX4_init_0 : decode cX4_init 0 = .ok (.aload_n 0, 1) := by decide +kernel
theorem dX4_init_1 : decode cX4_init 1 = .ok (.invokespecial 3, 3) := by decide +kernel
theorem dX4_init_4 : decode cX4_init 4 = .ok (.aload_n 0, 1) := by decide +kernel
theorem dX4_init_5 : decode cX4_init 5 = .ok (.bipush 40, 2) := by decide +kernel
theorem dX4_init_7 : decode cX4_init 7 = .ok (.newarray .int, 2) := by decide +kernel
theorem dX4_init_9 : decode cX4_init 9 = .ok (.putfield 9, 3) := by decide +kernel
theorem dX4_init_12 : decode cX4_init 12 = .ok (.aload_n 0, 1) := by decide +kernel
theorem dX4_init_13 : decode cX4_init 13 = .ok (.bipush 40, 2) := by decide +kernel
theorem dX4_init_15 : decode cX4_init 15 = .ok (.newarray .int, 2) := by decide +kernel
theorem dX4_init_17 : decode cX4_init 17 = .ok (.putfield 15, 3) := by decide +kernel
theorem dX4_init_20 : decode cX4_init 20 = .ok (.aload_n 0, 1) := by decide +kernel
theorem dX4_init_21 : decode cX4_init 21 = .ok (.bipush 40, 2) := by decide +kernel
theorem dX4_init_23 : decode cX4_init 23 = .ok (.newarray .int, 2) := by decide +kernel
theorem dX4_init_25 : decode cX4_init 25 = .ok (.putfield 18, 3) := by decide +kernel
theorem dX4_init_28 : decode cX4_init 28 = .ok (.aload_n 0, 1) := by decide +kernel
theorem dX4_init_29 : decode cX4_init 29 = .ok (.bipush 40, 2) := by decide +kernel
theorem dX4_init_31 : decode cX4_init 31 = .ok (.newarray .int, 2) := by decide +kernel
theorem dX4_init_33 : decode cX4_init 33 = .ok (.putfield 21, 3) := by decide +kernel
theorem dX4_init_36 : decode cX4_init 36 = .ok (.aload_n 0, 1) := by decide +kernel
theorem dX4_init_37 : decode cX4_init 37 = .ok (.bipush 40, 2) := by decide +kernel
theorem dX4_init_39 : decode cX4_init 39 = .ok (.newarray .boolean, 2) := by decide +kernel
theorem dX4_init_41 : decode cX4_init 41 = .ok (.putfield 24, 3) := by decide +kernel
theorem dX4_init_44 : decode cX4_init 44 = .ok (.aload_n 0, 1) := by decide +kernel
theorem dX4_init_45 : decode cX4_init 45 = .ok (.aload_n 1, 1) := by decide +kernel
theorem dX4_init_46 : decode cX4_init 46 = .ok (.putfield 28, 3) := by decide +kernel
theorem dX4_init_49 : decode cX4_init 49 = .ok (.aload_n 0, 1) := by decide +kernel
theorem dX4_init_50 : decode cX4_init 50 = .ok (.aload_n 2, 1) := by decide +kernel
theorem dX4_init_51 : decode cX4_init 51 = .ok (.putfield 32, 3) := by decide +kernel
theorem dX4_init_54 : decode cX4_init 54 = .ok (.return_, 1) := by decide +kernel
set_option maxRecDepth 20000 in
theorem ggX4_exchangeRank_X5_has : GoodIn wsX4_exchangeRank wsX5_has := goodIn_r _ [7, 8, 16, 17, 18, 19, 20, 21, 22, 23, 24] (by decide +kernel) (by decide +kernel)
set_option maxRecDepth 20000 in
theorem gX4_exchangeRank_X5_has : GoodIn wsX4_exchangeRank (wsV RX4 36 RX5 yX5_has wsX5_has) := goodIn_app (goodIn_of _ (by decide +kernel)) ggX4_exchangeRank_X5_has
theorem dX4_exchangeRank_0 : decode cX4_exchangeRank 0 = .ok (.aload_n 0, 1) := by decide +kernel
theorem dX4_exchangeRank_1 : decode cX4_exchangeRank 1 = .ok (.getfield 28, 3) := by decide +kernel
theorem dX4_exchangeRank_4 : decode cX4_exchangeRank 4 = .ok (.iload_n 1, 1) := by decide +kernel
theorem dX4_exchangeRank_5 : decode cX4_exchangeRank 5 = .ok (.invokevirtual 36, 3) := by decide +kernel
theorem dX4_exchangeRank_8 : decode cX4_exchangeRank 8 = .ok (.ifCond .ne 5, 3) := by decide +kernel
theorem dX4_exchangeRank_11 : decode cX4_exchangeRank 11 = .ok (.iconst 0, 1) := by decide +kernel
theorem dX4_exchangeRank_12 : decode cX4_exchangeRank 12 = .ok (.ireturn, 1) := by decide +kernel
theorem dX4_exchangeRank_13 : decode cX4_exchangeRank 13 = .ok (.aload_n 0, 1) := by decide +kernel
theorem dX4_exchangeRank_14 : decode cX4_exchangeRank 14 = .ok (.getfield 9, 3) := by decide +kernel
theorem dX4_exchangeRank_17 : decode cX4_exchangeRank 17 = .ok (.iload_n 1, 1) := by decide +kernel
theorem dX4_exchangeRank_18 : decode cX4_exchangeRank 18 = .ok (.iaload, 1) := by decide +kernel
theorem dX4_exchangeRank_19 : decode cX4_exchangeRank 19 = .ok (.istore_n 3, 1) := by decide +kernel
theorem dX4_exchangeRank_20 : decode cX4_exchangeRank 20 = .ok (.aload_n 0, 1) := by decide +kernel
theorem dX4_exchangeRank_21 : decode cX4_exchangeRank 21 = .ok (.getfield 9, 3) := by decide +kernel
theorem dX4_exchangeRank_24 : decode cX4_exchangeRank 24 = .ok (.iload_n 1, 1) := by decide +kernel
theorem dX4_exchangeRank_25 : decode cX4_exchangeRank 25 = .ok (.iload_n 2, 1) := by decide +kernel
theorem dX4_exchangeRank_26 : decode cX4_exchangeRank 26 = .ok (.iastore, 1) := by decide +kernel
theorem dX4_exchangeRank_27 : decode cX4_exchangeRank 27 = .ok (.iload_n 3, 1) := by decide +kernel
theorem dX4_exchangeRank_28 : decode cX4_exchangeRank 28 = .ok (.ireturn, 1) := by decide +kernel
set_option maxRecDepth 20000 in
theorem ggX4_exchangeCrest_X5_has : GoodIn wsX4_exchangeCrest wsX5_has := goodIn_r _ [7, 8, 16, 17, 18, 19, 20, 21, 22, 23, 24] (by decide +kernel) (by decide +kernel)
set_option maxRecDepth 20000 in
theorem gX4_exchangeCrest_X5_has : GoodIn wsX4_exchangeCrest (wsV RX4 36 RX5 yX5_has wsX5_has) := goodIn_app (goodIn_of _ (by decide +kernel)) ggX4_exchangeCrest_X5_has
theorem dX4_exchangeCrest_0 : decode cX4_exchangeCrest 0 = .ok (.aload_n 0, 1) := by decide +kernel
theorem dX4_exchangeCrest_1 : decode cX4_exchangeCrest 1 = .ok (.getfield 28, 3) := by decide +kernel
theorem dX4_exchangeCrest_4 : decode cX4_exchangeCrest 4 = .ok (.iload_n 1, 1) := by decide +kernel
theorem dX4_exchangeCrest_5 : decode cX4_exchangeCrest 5 = .ok (.invokevirtual 36, 3) := by decide +kernel
theorem dX4_exchangeCrest_8 : decode cX4_exchangeCrest 8 = .ok (.ifCond .ne 5, 3) := by decide +kernel
theorem dX4_exchangeCrest_11 : decode cX4_exchangeCrest 11 = .ok (.iconst 0, 1) := by decide +kernel
theorem dX4_exchangeCrest_12 : decode cX4_exchangeCrest 12 = .ok (.ireturn, 1) := by decide +kernel
theorem dX4_exchangeCrest_13 : decode cX4_exchangeCrest 13 = .ok (.aload_n 0, 1) := by decide +kernel
theorem dX4_exchangeCrest_14 : decode cX4_exchangeCrest 14 = .ok (.getfield 15, 3) := by decide +kernel
theorem dX4_exchangeCrest_17 : decode cX4_exchangeCrest 17 = .ok (.iload_n 1, 1) := by decide +kernel
theorem dX4_exchangeCrest_18 : decode cX4_exchangeCrest 18 = .ok (.iaload, 1) := by decide +kernel
theorem dX4_exchangeCrest_19 : decode cX4_exchangeCrest 19 = .ok (.istore_n 3, 1) := by decide +kernel
theorem dX4_exchangeCrest_20 : decode cX4_exchangeCrest 20 = .ok (.aload_n 0, 1) := by decide +kernel
theorem dX4_exchangeCrest_21 : decode cX4_exchangeCrest 21 = .ok (.getfield 15, 3) := by decide +kernel
theorem dX4_exchangeCrest_24 : decode cX4_exchangeCrest 24 = .ok (.iload_n 1, 1) := by decide +kernel
theorem dX4_exchangeCrest_25 : decode cX4_exchangeCrest 25 = .ok (.iload_n 2, 1) := by decide +kernel
theorem dX4_exchangeCrest_26 : decode cX4_exchangeCrest 26 = .ok (.iastore, 1) := by decide +kernel
theorem dX4_exchangeCrest_27 : decode cX4_exchangeCrest 27 = .ok (.iload_n 3, 1) := by decide +kernel
theorem dX4_exchangeCrest_28 : decode cX4_exchangeCrest 28 = .ok (.ireturn, 1) := by decide +kernel
set_option maxRecDepth 20000 in
theorem ggX4_exchangeSupporters_X5_has : GoodIn wsX4_exchangeSupporters wsX5_has := goodIn_r _ [8, 9, 17, 18, 19, 20, 21, 22, 23, 24, 25] (by decide +kernel) (by decide +kernel)
set_option maxRecDepth 20000 in
theorem gX4_exchangeSupporters_X5_has : GoodIn wsX4_exchangeSupporters (wsV RX4 36 RX5 yX5_has wsX5_has) := goodIn_app (goodIn_of _ (by decide +kernel)) ggX4_exchangeSupporters_X5_has
theorem dX4_exchangeSupporters_0 : decode cX4_exchangeSupporters 0 = .ok (.aload_n 0, 1) := by decide +kernel
theorem dX4_exchangeSupporters_1 : decode cX4_exchangeSupporters 1 = .ok (.getfield 28, 3) := by decide +kernel
theorem dX4_exchangeSupporters_4 : decode cX4_exchangeSupporters 4 = .ok (.iload_n 1, 1) := by decide +kernel
theorem dX4_exchangeSupporters_5 : decode cX4_exchangeSupporters 5 = .ok (.invokevirtual 36, 3) := by decide +kernel
theorem dX4_exchangeSupporters_8 : decode cX4_exchangeSupporters 8 = .ok (.ifCond .ne 5, 3) := by decide +kernel
theorem dX4_exchangeSupporters_11 : decode cX4_exchangeSupporters 11 = .ok (.iconst 0, 1) := by decide +kernel
theorem dX4_exchangeSupporters_12 : decode cX4_exchangeSupporters 12 = .ok (.ireturn, 1) := by decide +kernel
theorem dX4_exchangeSupporters_13 : decode cX4_exchangeSupporters 13 = .ok (.aload_n 0, 1) := by decide +kernel
theorem dX4_exchangeSupporters_14 : decode cX4_exchangeSupporters 14 = .ok (.getfield 18, 3) := by decide +kernel
theorem dX4_exchangeSupporters_17 : decode cX4_exchangeSupporters 17 = .ok (.iload_n 1, 1) := by decide +kernel
theorem dX4_exchangeSupporters_18 : decode cX4_exchangeSupporters 18 = .ok (.iaload, 1) := by decide +kernel
theorem dX4_exchangeSupporters_19 : decode cX4_exchangeSupporters 19 = .ok (.ifCond .eq 7, 3) := by decide +kernel
theorem dX4_exchangeSupporters_22 : decode cX4_exchangeSupporters 22 = .ok (.iconst 1, 1) := by decide +kernel
theorem dX4_exchangeSupporters_23 : decode cX4_exchangeSupporters 23 = .ok (.goto 4, 3) := by decide +kernel
theorem dX4_exchangeSupporters_26 : decode cX4_exchangeSupporters 26 = .ok (.iconst 0, 1) := by decide +kernel
theorem dX4_exchangeSupporters_27 : decode cX4_exchangeSupporters 27 = .ok (.istore 4, 2) := by decide +kernel
theorem dX4_exchangeSupporters_29 : decode cX4_exchangeSupporters 29 = .ok (.aload_n 0, 1) := by decide +kernel
theorem dX4_exchangeSupporters_30 : decode cX4_exchangeSupporters 30 = .ok (.getfield 18, 3) := by decide +kernel
theorem dX4_exchangeSupporters_33 : decode cX4_exchangeSupporters 33 = .ok (.iload_n 1, 1) := by decide +kernel
theorem dX4_exchangeSupporters_34 : decode cX4_exchangeSupporters 34 = .ok (.iload_n 2, 1) := by decide +kernel
theorem dX4_exchangeSupporters_35 : decode cX4_exchangeSupporters 35 = .ok (.iastore, 1) := by decide +kernel
theorem dX4_exchangeSupporters_36 : decode cX4_exchangeSupporters 36 = .ok (.aload_n 0, 1) := by decide +kernel
theorem dX4_exchangeSupporters_37 : decode cX4_exchangeSupporters 37 = .ok (.getfield 21, 3) := by decide +kernel
theorem dX4_exchangeSupporters_40 : decode cX4_exchangeSupporters 40 = .ok (.iload_n 1, 1) := by decide +kernel
theorem dX4_exchangeSupporters_41 : decode cX4_exchangeSupporters 41 = .ok (.iload_n 3, 1) := by decide +kernel
theorem dX4_exchangeSupporters_42 : decode cX4_exchangeSupporters 42 = .ok (.iastore, 1) := by decide +kernel
theorem dX4_exchangeSupporters_43 : decode cX4_exchangeSupporters 43 = .ok (.iload 4, 2) := by decide +kernel
theorem dX4_exchangeSupporters_45 : decode cX4_exchangeSupporters 45 = .ok (.ireturn, 1) := by decide +kernel
set_option maxRecDepth 20000 in
theorem ggX4_exchangeAbated_X5_has : GoodIn wsX4_exchangeAbated wsX5_has := goodIn_r _ [7, 8, 16, 17, 18, 19, 20, 21, 22, 23, 24] (by decide +kernel) (by decide +kernel)
set_option maxRecDepth 20000 in
theorem gX4_exchangeAbated_X5_has : GoodIn wsX4_exchangeAbated (wsV RX4 36 RX5 yX5_has wsX5_has) := goodIn_app (goodIn_of _ (by decide +kernel)) ggX4_exchangeAbated_X5_has
theorem dX4_exchangeAbated_0 : decode cX4_exchangeAbated 0 = .ok (.aload_n 0, 1) := by decide +kernel
theorem dX4_exchangeAbated_1 : decode cX4_exchangeAbated 1 = .ok (.getfield 28, 3) := by decide +kernel
theorem dX4_exchangeAbated_4 : decode cX4_exchangeAbated 4 = .ok (.iload_n 1, 1) := by decide +kernel
theorem dX4_exchangeAbated_5 : decode cX4_exchangeAbated 5 = .ok (.invokevirtual 36, 3) := by decide +kernel
theorem dX4_exchangeAbated_8 : decode cX4_exchangeAbated 8 = .ok (.ifCond .ne 5, 3) := by decide +kernel
theorem dX4_exchangeAbated_11 : decode cX4_exchangeAbated 11 = .ok (.iconst 0, 1) := by decide +kernel
theorem dX4_exchangeAbated_12 : decode cX4_exchangeAbated 12 = .ok (.ireturn, 1) := by decide +kernel
theorem dX4_exchangeAbated_13 : decode cX4_exchangeAbated 13 = .ok (.aload_n 0, 1) := by decide +kernel
theorem dX4_exchangeAbated_14 : decode cX4_exchangeAbated 14 = .ok (.getfield 24, 3) := by decide +kernel
theorem dX4_exchangeAbated_17 : decode cX4_exchangeAbated 17 = .ok (.iload_n 1, 1) := by decide +kernel
theorem dX4_exchangeAbated_18 : decode cX4_exchangeAbated 18 = .ok (.baload, 1) := by decide +kernel
theorem dX4_exchangeAbated_19 : decode cX4_exchangeAbated 19 = .ok (.istore_n 3, 1) := by decide +kernel
theorem dX4_exchangeAbated_20 : decode cX4_exchangeAbated 20 = .ok (.aload_n 0, 1) := by decide +kernel
theorem dX4_exchangeAbated_21 : decode cX4_exchangeAbated 21 = .ok (.getfield 24, 3) := by decide +kernel
theorem dX4_exchangeAbated_24 : decode cX4_exchangeAbated 24 = .ok (.iload_n 1, 1) := by decide +kernel
theorem dX4_exchangeAbated_25 : decode cX4_exchangeAbated 25 = .ok (.iload_n 2, 1) := by decide +kernel
theorem dX4_exchangeAbated_26 : decode cX4_exchangeAbated 26 = .ok (.bastore, 1) := by decide +kernel
theorem dX4_exchangeAbated_27 : decode cX4_exchangeAbated 27 = .ok (.iload_n 3, 1) := by decide +kernel
theorem dX4_exchangeAbated_28 : decode cX4_exchangeAbated 28 = .ok (.ireturn, 1) := by decide +kernel
set_option maxRecDepth 20000 in
theorem ggX4_isAbated_X5_isAlive : GoodIn wsX4_isAbated wsX5_isAlive := goodIn_ca (goodIn_r _ [7, 8, 9, 10, 11, 6, 12, 13, 21, 22, 23, 24, 25, 26, 27, 28, 29] (by decide +kernel) (by decide +kernel)) (goodIn_sub (fun _ h => List.mem_cons_of_mem _ (List.mem_append_right _ h)) (by decide +kernel))
set_option maxRecDepth 20000 in
theorem gX4_isAbated_X5_isAlive : GoodIn wsX4_isAbated (wsV RX4 42 RX5 yX5_isAlive wsX5_isAlive) := goodIn_app (goodIn_of _ (by decide +kernel)) ggX4_isAbated_X5_isAlive
theorem dX4_isAbated_0 : decode cX4_isAbated 0 = .ok (.aload_n 0, 1) := by decide +kernel
theorem dX4_isAbated_1 : decode cX4_isAbated 1 = .ok (.getfield 28, 3) := by decide +kernel
theorem dX4_isAbated_4 : decode cX4_isAbated 4 = .ok (.iload_n 1, 1) := by decide +kernel
theorem dX4_isAbated_5 : decode cX4_isAbated 5 = .ok (.invokevirtual 42, 3) := by decide +kernel
theorem dX4_isAbated_8 : decode cX4_isAbated 8 = .ok (.ifCond .eq 16, 3) := by decide +kernel
theorem dX4_isAbated_11 : decode cX4_isAbated 11 = .ok (.aload_n 0, 1) := by decide +kernel
theorem dX4_isAbated_12 : decode cX4_isAbated 12 = .ok (.getfield 24, 3) := by decide +kernel
theorem dX4_isAbated_15 : decode cX4_isAbated 15 = .ok (.iload_n 1, 1) := by decide +kernel
theorem dX4_isAbated_16 : decode cX4_isAbated 16 = .ok (.baload, 1) := by decide +kernel
theorem dX4_isAbated_17 : decode cX4_isAbated 17 = .ok (.ifCond .eq 7, 3) := by decide +kernel
theorem dX4_isAbated_20 : decode cX4_isAbated 20 = .ok (.iconst 1, 1) := by decide +kernel
theorem dX4_isAbated_21 : decode cX4_isAbated 21 = .ok (.goto 4, 3) := by decide +kernel
theorem dX4_isAbated_24 : decode cX4_isAbated 24 = .ok (.iconst 0, 1) := by decide +kernel
theorem dX4_isAbated_25 : decode cX4_isAbated 25 = .ok (.ireturn, 1) := by decide +kernel
set_option maxRecDepth 20000 in
theorem ggX4_shownCrest_X5_has : GoodIn wsX4_shownCrest wsX5_has := goodIn_r _ [9, 10, 53, 54, 55, 56, 57, 58, 59, 60, 61] (by decide +kernel) (by decide +kernel)
set_option maxRecDepth 20000 in
theorem gX4_shownCrest_X5_has : GoodIn wsX4_shownCrest (wsV RX4 36 RX5 yX5_has wsX5_has) := goodIn_app (goodIn_of _ (by decide +kernel)) ggX4_shownCrest_X5_has
set_option maxRecDepth 20000 in
theorem ggX4_shownCrest_X5_fatherOf : GoodIn wsX4_shownCrest wsX5_fatherOf := goodIn_ca (goodIn_r _ [14, 15, 16, 6, 7, 8, 9, 10, 53, 54, 55, 56, 57, 58, 59, 60, 61] (by decide +kernel) (by decide +kernel)) (goodIn_sub (fun _ h => List.mem_cons_of_mem _ (List.mem_append_right _ h)) (by decide +kernel))
set_option maxRecDepth 20000 in
theorem gX4_shownCrest_X5_fatherOf : GoodIn wsX4_shownCrest (wsV RX4 45 RX5 yX5_fatherOf wsX5_fatherOf) := goodIn_app (goodIn_of _ (by decide +kernel)) ggX4_shownCrest_X5_fatherOf
set_option maxRecDepth 20000 in
theorem ggX4_shownCrest_X0_bearsAsHeir : GoodIn wsX4_shownCrest wsX0_bearsAsHeir := goodIn_ca (goodIn_r _ [21, 22, 23, 24, 25, 26, 20, 27, 28, 29, 6, 7, 8, 9, 10, 30, 12, 13, 14, 15, 16, 31, 32, 33, 34, 35, 36, 37, 38, 39, 40, 41, 42, 43, 44, 45, 62, 63, 64, 65, 66, 67, 68, 69, 70, 71, 72, 53, 54, 55, 56, 57, 58, 59, 60, 61] (by decide +kernel) (by decide +kernel)) (goodIn_sub (fun _ h => List.mem_cons_of_mem _ (List.mem_append_right _ h)) (by decide +kernel))
set_option maxRecDepth 20000 in
theorem gX4_shownCrest_X0_bearsAsHeir : GoodIn wsX4_shownCrest (wsV RX4 49 RX0 yX0_bearsAsHeir wsX0_bearsAsHeir) := goodIn_app (goodIn_of _ (by decide +kernel)) ggX4_shownCrest_X0_bearsAsHeir
theorem dX4_shownCrest_0 : decode cX4_shownCrest 0 = .ok (.aload_n 0, 1) := by decide +kernel
theorem dX4_shownCrest_1 : decode cX4_shownCrest 1 = .ok (.getfield 28, 3) := by decide +kernel
theorem dX4_shownCrest_4 : decode cX4_shownCrest 4 = .ok (.iload_n 1, 1) := by decide +kernel
theorem dX4_shownCrest_5 : decode cX4_shownCrest 5 = .ok (.invokevirtual 36, 3) := by decide +kernel
theorem dX4_shownCrest_8 : decode cX4_shownCrest 8 = .ok (.ifCond .eq 13, 3) := by decide +kernel
theorem dX4_shownCrest_11 : decode cX4_shownCrest 11 = .ok (.aload_n 0, 1) := by decide +kernel
theorem dX4_shownCrest_12 : decode cX4_shownCrest 12 = .ok (.getfield 9, 3) := by decide +kernel
theorem dX4_shownCrest_15 : decode cX4_shownCrest 15 = .ok (.iload_n 1, 1) := by decide +kernel
theorem dX4_shownCrest_16 : decode cX4_shownCrest 16 = .ok (.iaload, 1) := by decide +kernel
theorem dX4_shownCrest_17 : decode cX4_shownCrest 17 = .ok (.iconst 1, 1) := by decide +kernel
theorem dX4_shownCrest_18 : decode cX4_shownCrest 18 = .ok (.if_icmp .ge 5, 3) := by decide +kernel
theorem dX4_shownCrest_21 : decode cX4_shownCrest 21 = .ok (.iconst 0, 1) := by decide +kernel
theorem dX4_shownCrest_22 : decode cX4_shownCrest 22 = .ok (.ireturn, 1) := by decide +kernel
theorem dX4_shownCrest_23 : decode cX4_shownCrest 23 = .ok (.iload_n 1, 1) := by decide +kernel
theorem dX4_shownCrest_24 : decode cX4_shownCrest 24 = .ok (.istore_n 2, 1) := by decide +kernel
theorem dX4_shownCrest_25 : decode cX4_shownCrest 25 = .ok (.iconst 0, 1) := by decide +kernel
theorem dX4_shownCrest_26 : decode cX4_shownCrest 26 = .ok (.istore_n 3, 1) := by decide +kernel
theorem dX4_shownCrest_27 : decode cX4_shownCrest 27 = .ok (.iload_n 3, 1) := by decide +kernel
theorem dX4_shownCrest_28 : decode cX4_shownCrest 28 = .ok (.bipush 40, 2) := by decide +kernel
theorem dX4_shownCrest_30 : decode cX4_shownCrest 30 = .ok (.if_icmp .ge 56, 3) := by decide +kernel
theorem dX4_shownCrest_33 : decode cX4_shownCrest 33 = .ok (.aload_n 0, 1) := by decide +kernel
theorem dX4_shownCrest_34 : decode cX4_shownCrest 34 = .ok (.getfield 15, 3) := by decide +kernel
theorem dX4_shownCrest_37 : decode cX4_shownCrest 37 = .ok (.iload_n 2, 1) := by decide +kernel
theorem dX4_shownCrest_38 : decode cX4_shownCrest 38 = .ok (.iaload, 1) := by decide +kernel
theorem dX4_shownCrest_39 : decode cX4_shownCrest 39 = .ok (.ifCond .ne 47, 3) := by decide +kernel
theorem dX4_shownCrest_42 : decode cX4_shownCrest 42 = .ok (.aload_n 0, 1) := by decide +kernel
theorem dX4_shownCrest_43 : decode cX4_shownCrest 43 = .ok (.getfield 28, 3) := by decide +kernel
theorem dX4_shownCrest_46 : decode cX4_shownCrest 46 = .ok (.iload_n 2, 1) := by decide +kernel
theorem dX4_shownCrest_47 : decode cX4_shownCrest 47 = .ok (.invokevirtual 45, 3) := by decide +kernel
theorem dX4_shownCrest_50 : decode cX4_shownCrest 50 = .ok (.istore 4, 2) := by decide +kernel
theorem dX4_shownCrest_52 : decode cX4_shownCrest 52 = .ok (.aload_n 0, 1) := by decide +kernel
theorem dX4_shownCrest_53 : decode cX4_shownCrest 53 = .ok (.getfield 32, 3) := by decide +kernel
theorem dX4_shownCrest_56 : decode cX4_shownCrest 56 = .ok (.iload_n 2, 1) := by decide +kernel
theorem dX4_shownCrest_57 : decode cX4_shownCrest 57 = .ok (.invokevirtual 49, 3) := by decide +kernel
theorem dX4_shownCrest_60 : decode cX4_shownCrest 60 = .ok (.ifCond .eq 15, 3) := by decide +kernel
theorem dX4_shownCrest_63 : decode cX4_shownCrest 63 = .ok (.aload_n 0, 1) := by decide +kernel
theorem dX4_shownCrest_64 : decode cX4_shownCrest 64 = .ok (.getfield 28, 3) := by decide +kernel
theorem dX4_shownCrest_67 : decode cX4_shownCrest 67 = .ok (.iload 4, 2) := by decide +kernel
theorem dX4_shownCrest_69 : decode cX4_shownCrest 69 = .ok (.invokevirtual 36, 3) := by decide +kernel
theorem dX4_shownCrest_72 : decode cX4_shownCrest 72 = .ok (.ifCond .ne 5, 3) := by decide +kernel
theorem dX4_shownCrest_75 : decode cX4_shownCrest 75 = .ok (.iconst 0, 1) := by decide +kernel
theorem dX4_shownCrest_76 : decode cX4_shownCrest 76 = .ok (.ireturn, 1) := by decide +kernel
theorem dX4_shownCrest_77 : decode cX4_shownCrest 77 = .ok (.iload 4, 2) := by decide +kernel
theorem dX4_shownCrest_79 : decode cX4_shownCrest 79 = .ok (.istore_n 2, 1) := by decide +kernel
theorem dX4_shownCrest_80 : decode cX4_shownCrest 80 = .ok (.iinc 3 1, 3) := by decide +kernel
theorem dX4_shownCrest_83 : decode cX4_shownCrest 83 = .ok (.goto (-56), 3) := by decide +kernel
theorem dX4_shownCrest_86 : decode cX4_shownCrest 86 = .ok (.aload_n 0, 1) := by decide +kernel
theorem dX4_shownCrest_87 : decode cX4_shownCrest 87 = .ok (.getfield 15, 3) := by decide +kernel
theorem dX4_shownCrest_90 : decode cX4_shownCrest 90 = .ok (.iload_n 2, 1) := by decide +kernel
theorem dX4_shownCrest_91 : decode cX4_shownCrest 91 = .ok (.iaload, 1) := by decide +kernel
theorem dX4_shownCrest_92 : decode cX4_shownCrest 92 = .ok (.ireturn, 1) := by decide +kernel
set_option maxRecDepth 20000 in
theorem ggX4_shownSupporter_X5_has : GoodIn wsX4_shownSupporter wsX5_has := goodIn_r _ [9, 10, 18, 19, 20, 21, 22, 23, 24, 25, 26] (by decide +kernel) (by decide +kernel)
set_option maxRecDepth 20000 in
theorem gX4_shownSupporter_X5_has : GoodIn wsX4_shownSupporter (wsV RX4 36 RX5 yX5_has wsX5_has) := goodIn_app (goodIn_of _ (by decide +kernel)) ggX4_shownSupporter_X5_has
theorem dX4_shownSupporter_0 : decode cX4_shownSupporter 0 = .ok (.aload_n 0, 1) := by decide +kernel
theorem dX4_shownSupporter_1 : decode cX4_shownSupporter 1 = .ok (.getfield 28, 3) := by decide +kernel
theorem dX4_shownSupporter_4 : decode cX4_shownSupporter 4 = .ok (.iload_n 1, 1) := by decide +kernel
theorem dX4_shownSupporter_5 : decode cX4_shownSupporter 5 = .ok (.invokevirtual 36, 3) := by decide +kernel
theorem dX4_shownSupporter_8 : decode cX4_shownSupporter 8 = .ok (.ifCond .eq 13, 3) := by decide +kernel
theorem dX4_shownSupporter_11 : decode cX4_shownSupporter 11 = .ok (.aload_n 0, 1) := by decide +kernel
theorem dX4_shownSupporter_12 : decode cX4_shownSupporter 12 = .ok (.getfield 9, 3) := by decide +kernel
theorem dX4_shownSupporter_15 : decode cX4_shownSupporter 15 = .ok (.iload_n 1, 1) := by decide +kernel
theorem dX4_shownSupporter_16 : decode cX4_shownSupporter 16 = .ok (.iaload, 1) := by decide +kernel
theorem dX4_shownSupporter_17 : decode cX4_shownSupporter 17 = .ok (.iconst 3, 1) := by decide +kernel
theorem dX4_shownSupporter_18 : decode cX4_shownSupporter 18 = .ok (.if_icmp .ge 5, 3) := by decide +kernel
theorem dX4_shownSupporter_21 : decode cX4_shownSupporter 21 = .ok (.iconst 0, 1) := by decide +kernel
theorem dX4_shownSupporter_22 : decode cX4_shownSupporter 22 = .ok (.ireturn, 1) := by decide +kernel
theorem dX4_shownSupporter_23 : decode cX4_shownSupporter 23 = .ok (.iload_n 2, 1) := by decide +kernel
theorem dX4_shownSupporter_24 : decode cX4_shownSupporter 24 = .ok (.ifCond .eq 12, 3) := by decide +kernel
theorem dX4_shownSupporter_27 : decode cX4_shownSupporter 27 = .ok (.aload_n 0, 1) := by decide +kernel
theorem dX4_shownSupporter_28 : decode cX4_shownSupporter 28 = .ok (.getfield 18, 3) := by decide +kernel
theorem dX4_shownSupporter_31 : decode cX4_shownSupporter 31 = .ok (.iload_n 1, 1) := by decide +kernel
theorem dX4_shownSupporter_32 : decode cX4_shownSupporter 32 = .ok (.iaload, 1) := by decide +kernel
theorem dX4_shownSupporter_33 : decode cX4_shownSupporter 33 = .ok (.goto 9, 3) := by decide +kernel
theorem dX4_shownSupporter_36 : decode cX4_shownSupporter 36 = .ok (.aload_n 0, 1) := by decide +kernel
theorem dX4_shownSupporter_37 : decode cX4_shownSupporter 37 = .ok (.getfield 21, 3) := by decide +kernel
theorem dX4_shownSupporter_40 : decode cX4_shownSupporter 40 = .ok (.iload_n 1, 1) := by decide +kernel
theorem dX4_shownSupporter_41 : decode cX4_shownSupporter 41 = .ok (.iaload, 1) := by decide +kernel
theorem dX4_shownSupporter_42 : decode cX4_shownSupporter 42 = .ok (.ireturn, 1) := by decide +kernel
theorem dX5_init_0 : decode cX5_init 0 = .ok (.aload_n 0, 1) := by decide +kernel
theorem dX5_init_1 : decode cX5_init 1 = .ok (.invokespecial 3, 3) := by decide +kernel
theorem dX5_init_4 : decode cX5_init 4 = .ok (.aload_n 0, 1) := by decide +kernel
theorem dX5_init_5 : decode cX5_init 5 = .ok (.bipush 40, 2) := by decide +kernel
theorem dX5_init_7 : decode cX5_init 7 = .ok (.newarray .int, 2) := by decide +kernel
theorem dX5_init_9 : decode cX5_init 9 = .ok (.putfield 9, 3) := by decide +kernel
theorem dX5_init_12 : decode cX5_init 12 = .ok (.aload_n 0, 1) := by decide +kernel
theorem dX5_init_13 : decode cX5_init 13 = .ok (.bipush 40, 2) := by decide +kernel
theorem dX5_init_15 : decode cX5_init 15 = .ok (.newarray .int, 2) := by decide +kernel
theorem dX5_init_17 : decode cX5_init 17 = .ok (.putfield 15, 3) := by decide +kernel
theorem dX5_init_20 : decode cX5_init 20 = .ok (.aload_n 0, 1) := by decide +kernel
theorem dX5_init_21 : decode cX5_init 21 = .ok (.bipush 40, 2) := by decide +kernel
theorem dX5_init_23 : decode cX5_init 23 = .ok (.newarray .int, 2) := by decide +kernel
theorem dX5_init_25 : decode cX5_init 25 = .ok (.putfield 18, 3) := by decide +kernel
theorem dX5_init_28 : decode cX5_init 28 = .ok (.aload_n 0, 1) := by decide +kernel
theorem dX5_init_29 : decode cX5_init 29 = .ok (.bipush 40, 2) := by decide +kernel
theorem dX5_init_31 : decode cX5_init 31 = .ok (.newarray .int, 2) := by decide +kernel
theorem dX5_init_33 : decode cX5_init 33 = .ok (.putfield 21, 3) := by decide +kernel
theorem dX5_init_36 : decode cX5_init 36 = .ok (.aload_n 0, 1) := by decide +kernel
theorem dX5_init_37 : decode cX5_init 37 = .ok (.bipush 40, 2) := by decide +kernel
theorem dX5_init_39 : decode cX5_init 39 = .ok (.newarray .int, 2) := by decide +kernel
theorem dX5_init_41 : decode cX5_init 41 = .ok (.putfield 24, 3) := by decide +kernel
theorem dX5_init_44 : decode cX5_init 44 = .ok (.aload_n 0, 1) := by decide +kernel
theorem dX5_init_45 : decode cX5_init 45 = .ok (.bipush 40, 2) := by decide +kernel
theorem dX5_init_47 : decode cX5_init 47 = .ok (.newarray .boolean, 2) := by decide +kernel
theorem dX5_init_49 : decode cX5_init 49 = .ok (.putfield 27, 3) := by decide +kernel
theorem dX5_init_52 : decode cX5_init 52 = .ok (.aload_n 0, 1) := by decide +kernel
theorem dX5_init_53 : decode cX5_init 53 = .ok (.bipush 40, 2) := by decide +kernel
theorem dX5_init_55 : decode cX5_init 55 = .ok (.newarray .boolean, 2) := by decide +kernel
theorem dX5_init_57 : decode cX5_init 57 = .ok (.putfield 31, 3) := by decide +kernel
theorem dX5_init_60 : decode cX5_init 60 = .ok (.return_, 1) := by decide +kernel
set_option maxRecDepth 20000 in
theorem ggX5_add_X5_countInLines : GoodIn wsX5_add wsX5_countInLines := goodIn_ca (goodIn_r _ [11, 12, 2, 13, 14, 15, 10, 16, 6, 17, 18, 19, 20, 1, 21, 22, 23, 24, 25, 26, 27, 28, 29, 30, 31, 32, 33] (by decide +kernel) (by decide +kernel)) (goodIn_sub (fun _ h => List.mem_cons_of_mem _ (List.mem_append_right _ h)) (by decide +kernel))
set_option maxRecDepth 20000 in
theorem gX5_add_X5_countInLines : GoodIn wsX5_add (wsV RX5 38 RX5 yX5_countInLines wsX5_countInLines) := goodIn_app (goodIn_of _ (by decide +kernel)) ggX5_add_X5_countInLines
theorem dX5_add_0 : decode cX5_add 0 = .ok (.aload_n 0, 1) := by decide +kernel
theorem dX5_add_1 : decode cX5_add 1 = .ok (.getfield 34, 3) := by decide +kernel
theorem dX5_add_4 : decode cX5_add 4 = .ok (.ifCond .lt 12, 3) := by decide +kernel
theorem dX5_add_7 : decode cX5_add 7 = .ok (.aload_n 0, 1) := by decide +kernel
theorem dX5_add_8 : decode cX5_add 8 = .ok (.getfield 34, 3) := by decide +kernel
theorem dX5_add_11 : decode cX5_add 11 = .ok (.bipush 40, 2) := by decide +kernel
theorem dX5_add_13 : decode cX5_add 13 = .ok (.if_icmp .lt 5, 3) := by decide +kernel
theorem dX5_add_16 : decode cX5_add 16 = .ok (.iconst (-1), 1) := by decide +kernel
theorem dX5_add_17 : decode cX5_add 17 = .ok (.ireturn, 1) := by decide +kernel
theorem dX5_add_18 : decode cX5_add 18 = .ok (.aload_n 0, 1) := by decide +kernel
theorem dX5_add_19 : decode cX5_add 19 = .ok (.getfield 34, 3) := by decide +kernel
theorem dX5_add_22 : decode cX5_add 22 = .ok (.istore 4, 2) := by decide +kernel
theorem dX5_add_24 : decode cX5_add 24 = .ok (.aload_n 0, 1) := by decide +kernel
theorem dX5_add_25 : decode cX5_add 25 = .ok (.dup, 1) := by decide +kernel
theorem dX5_add_26 : decode cX5_add 26 = .ok (.getfield 34, 3) := by decide +kernel
theorem dX5_add_29 : decode cX5_add 29 = .ok (.iconst 1, 1) := by decide +kernel
theorem dX5_add_30 : decode cX5_add 30 = .ok (.iadd, 1) := by decide +kernel
theorem dX5_add_31 : decode cX5_add 31 = .ok (.putfield 34, 3) := by decide +kernel
theorem dX5_add_34 : decode cX5_add 34 = .ok (.aload_n 0, 1) := by decide +kernel
theorem dX5_add_35 : decode cX5_add 35 = .ok (.getfield 9, 3) := by decide +kernel
theorem dX5_add_38 : decode cX5_add 38 = .ok (.iload 4, 2) := by decide +kernel
theorem dX5_add_40 : decode cX5_add 40 = .ok (.iload_n 1, 1) := by decide +kernel
theorem dX5_add_41 : decode cX5_add 41 = .ok (.iastore, 1) := by decide +kernel
theorem dX5_add_42 : decode cX5_add 42 = .ok (.aload_n 0, 1) := by decide +kernel
theorem dX5_add_43 : decode cX5_add 43 = .ok (.getfield 15, 3) := by decide +kernel
theorem dX5_add_46 : decode cX5_add 46 = .ok (.iload 4, 2) := by decide +kernel
theorem dX5_add_48 : decode cX5_add 48 = .ok (.iload_n 2, 1) := by decide +kernel
theorem dX5_add_49 : decode cX5_add 49 = .ok (.iastore, 1) := by decide +kernel
theorem dX5_add_50 : decode cX5_add 50 = .ok (.aload_n 0, 1) := by decide +kernel
theorem dX5_add_51 : decode cX5_add 51 = .ok (.getfield 18, 3) := by decide +kernel
theorem dX5_add_54 : decode cX5_add 54 = .ok (.iload 4, 2) := by decide +kernel
theorem dX5_add_56 : decode cX5_add 56 = .ok (.iconst (-1), 1) := by decide +kernel
theorem dX5_add_57 : decode cX5_add 57 = .ok (.iastore, 1) := by decide +kernel
theorem dX5_add_58 : decode cX5_add 58 = .ok (.aload_n 0, 1) := by decide +kernel
theorem dX5_add_59 : decode cX5_add 59 = .ok (.getfield 21, 3) := by decide +kernel
theorem dX5_add_62 : decode cX5_add 62 = .ok (.iload 4, 2) := by decide +kernel
theorem dX5_add_64 : decode cX5_add 64 = .ok (.iconst 0, 1) := by decide +kernel
theorem dX5_add_65 : decode cX5_add 65 = .ok (.iastore, 1) := by decide +kernel
theorem dX5_add_66 : decode cX5_add 66 = .ok (.aload_n 0, 1) := by decide +kernel
theorem dX5_add_67 : decode cX5_add 67 = .ok (.getfield 27, 3) := by decide +kernel
theorem dX5_add_70 : decode cX5_add 70 = .ok (.iload 4, 2) := by decide +kernel
theorem dX5_add_72 : decode cX5_add 72 = .ok (.iload_n 3, 1) := by decide +kernel
theorem dX5_add_73 : decode cX5_add 73 = .ok (.bastore, 1) := by decide +kernel
theorem dX5_add_74 : decode cX5_add 74 = .ok (.aload_n 0, 1) := by decide +kernel
theorem dX5_add_75 : decode cX5_add 75 = .ok (.iload 4, 2) := by decide +kernel
theorem dX5_add_77 : decode cX5_add 77 = .ok (.iconst 1, 1) := by decide +kernel
theorem dX5_add_78 : decode cX5_add 78 = .ok (.invokevirtual 38, 3) := by decide +kernel
theorem dX5_add_81 : decode cX5_add 81 = .ok (.iload 4, 2) := by decide +kernel
theorem dX5_add_83 : decode cX5_add 83 = .ok (.ireturn, 1) := by decide +kernel
set_option maxRecDepth 20000 in
theorem ggX5_end_X5_isAlive : GoodIn wsX5_end wsX5_isAlive := goodIn_ca (goodIn_r _ [8, 2, 9, 10, 11, 7, 12, 13, 29, 30, 31, 32, 33, 34, 35, 36, 37] (by decide +kernel) (by decide +kernel)) (goodIn_sub (fun _ h => List.mem_cons_of_mem _ (List.mem_append_right _ h)) (by decide +kernel))
set_option maxRecDepth 20000 in
theorem gX5_end_X5_isAlive : GoodIn wsX5_end (wsV RX5 42 RX5 yX5_isAlive wsX5_isAlive) := goodIn_app (goodIn_of _ (by decide +kernel)) ggX5_end_X5_isAlive
set_option maxRecDepth 20000 in
theorem ggX5_end_X5_countInLines : GoodIn wsX5_end wsX5_countInLines := goodIn_ca (goodIn_r _ [17, 18, 19, 20, 21, 22, 7, 23, 24, 9, 10, 11, 12, 13, 25, 26, 27, 28, 29, 30, 31, 32, 33, 34, 35, 36, 37] (by decide +kernel) (by decide +kernel)) (goodIn_sub (fun _ h => List.mem_cons_of_mem _ (List.mem_append_right _ h)) (by decide +kernel))
set_option maxRecDepth 20000 in
theorem gX5_end_X5_countInLines : GoodIn wsX5_end (wsV RX5 38 RX5 yX5_countInLines wsX5_countInLines) := goodIn_app (goodIn_of _ (by decide +kernel)) ggX5_end_X5_countInLines
set_option maxRecDepth 20000 in
theorem ggX5_end_X5_has : GoodIn wsX5_end wsX5_has := goodIn_r _ [12, 13, 29, 30, 31, 32, 33, 34, 35, 36, 37] (by decide +kernel) (by decide +kernel)
set_option maxRecDepth 20000 in
theorem gX5_end_X5_has : GoodIn wsX5_end (wsV RX5 49 RX5 yX5_has wsX5_has) := goodIn_app (goodIn_of _ (by decide +kernel)) ggX5_end_X5_has
theorem dX5_end_0 : decode cX5_end 0 = .ok (.aload_n 0, 1) := by decide +kernel
theorem dX5_end_1 : decode cX5_end 1 = .ok (.iload_n 1, 1) := by decide +kernel
theorem dX5_end_2 : decode cX5_end 2 = .ok (.invokevirtual 42, 3) := by decide +kernel
theorem dX5_end_5 : decode cX5_end 5 = .ok (.ifCond .ne 4, 3) := by decide +kernel
theorem dX5_end_8 : decode cX5_end 8 = .ok (.return_, 1) := by decide +kernel
theorem dX5_end_9 : decode cX5_end 9 = .ok (.aload_n 0, 1) := by decide +kernel
theorem dX5_end_10 : decode cX5_end 10 = .ok (.dup, 1) := by decide +kernel
theorem dX5_end_11 : decode cX5_end 11 = .ok (.getfield 46, 3) := by decide +kernel
theorem dX5_end_14 : decode cX5_end 14 = .ok (.iconst 1, 1) := by decide +kernel
theorem dX5_end_15 : decode cX5_end 15 = .ok (.iadd, 1) := by decide +kernel
theorem dX5_end_16 : decode cX5_end 16 = .ok (.putfield 46, 3) := by decide +kernel
theorem dX5_end_19 : decode cX5_end 19 = .ok (.aload_n 0, 1) := by decide +kernel
theorem dX5_end_20 : decode cX5_end 20 = .ok (.getfield 21, 3) := by decide +kernel
theorem dX5_end_23 : decode cX5_end 23 = .ok (.iload_n 1, 1) := by decide +kernel
theorem dX5_end_24 : decode cX5_end 24 = .ok (.aload_n 0, 1) := by decide +kernel
theorem dX5_end_25 : decode cX5_end 25 = .ok (.getfield 46, 3) := by decide +kernel
theorem dX5_end_28 : decode cX5_end 28 = .ok (.iastore, 1) := by decide +kernel
theorem dX5_end_29 : decode cX5_end 29 = .ok (.aload_n 0, 1) := by decide +kernel
theorem dX5_end_30 : decode cX5_end 30 = .ok (.iload_n 1, 1) := by decide +kernel
theorem dX5_end_31 : decode cX5_end 31 = .ok (.iconst (-1), 1) := by decide +kernel
theorem dX5_end_32 : decode cX5_end 32 = .ok (.invokevirtual 38, 3) := by decide +kernel
theorem dX5_end_35 : decode cX5_end 35 = .ok (.aload_n 0, 1) := by decide +kernel
theorem dX5_end_36 : decode cX5_end 36 = .ok (.getfield 18, 3) := by decide +kernel
theorem dX5_end_39 : decode cX5_end 39 = .ok (.iload_n 1, 1) := by decide +kernel
theorem dX5_end_40 : decode cX5_end 40 = .ok (.iaload, 1) := by decide +kernel
theorem dX5_end_41 : decode cX5_end 41 = .ok (.istore_n 2, 1) := by decide +kernel
theorem dX5_end_42 : decode cX5_end 42 = .ok (.aload_n 0, 1) := by decide +kernel
theorem dX5_end_43 : decode cX5_end 43 = .ok (.iload_n 2, 1) := by decide +kernel
theorem dX5_end_44 : decode cX5_end 44 = .ok (.invokevirtual 49, 3) := by decide +kernel
theorem dX5_end_47 : decode cX5_end 47 = .ok (.ifCond .eq 10, 3) := by decide +kernel
theorem dX5_end_50 : decode cX5_end 50 = .ok (.aload_n 0, 1) := by decide +kernel
theorem dX5_end_51 : decode cX5_end 51 = .ok (.getfield 18, 3) := by decide +kernel
theorem dX5_end_54 : decode cX5_end 54 = .ok (.iload_n 2, 1) := by decide +kernel
theorem dX5_end_55 : decode cX5_end 55 = .ok (.iconst (-1), 1) := by decide +kernel
theorem dX5_end_56 : decode cX5_end 56 = .ok (.iastore, 1) := by decide +kernel
theorem dX5_end_57 : decode cX5_end 57 = .ok (.aload_n 0, 1) := by decide +kernel
theorem dX5_end_58 : decode cX5_end 58 = .ok (.getfield 18, 3) := by decide +kernel
theorem dX5_end_61 : decode cX5_end 61 = .ok (.iload_n 1, 1) := by decide +kernel
theorem dX5_end_62 : decode cX5_end 62 = .ok (.iconst (-1), 1) := by decide +kernel
theorem dX5_end_63 : decode cX5_end 63 = .ok (.iastore, 1) := by decide +kernel
theorem dX5_end_64 : decode cX5_end 64 = .ok (.return_, 1) := by decide +kernel
set_option maxRecDepth 20000 in
theorem ggX5_join_X5_has : GoodIn wsX5_join wsX5_has := goodIn_r _ [6, 7, 8, 9, 10, 11, 12, 13, 14, 15, 16] (by decide +kernel) (by decide +kernel)
set_option maxRecDepth 20000 in
theorem gX5_join_X5_has : GoodIn wsX5_join (wsV RX5 49 RX5 yX5_has wsX5_has) := goodIn_app (goodIn_of _ (by decide +kernel)) ggX5_join_X5_has
theorem dX5_join_0 : decode cX5_join 0 = .ok (.aload_n 0, 1) := by decide +kernel
theorem dX5_join_1 : decode cX5_join 1 = .ok (.iload_n 1, 1) := by decide +kernel
theorem dX5_join_2 : decode cX5_join 2 = .ok (.invokevirtual 49, 3) := by decide +kernel
theorem dX5_join_5 : decode cX5_join 5 = .ok (.ifCond .eq 25, 3) := by decide +kernel
theorem dX5_join_8 : decode cX5_join 8 = .ok (.aload_n 0, 1) := by decide +kernel
theorem dX5_join_9 : decode cX5_join 9 = .ok (.iload_n 2, 1) := by decide +kernel
theorem dX5_join_10 : decode cX5_join 10 = .ok (.invokevirtual 49, 3) := by decide +kernel
theorem dX5_join_13 : decode cX5_join 13 = .ok (.ifCond .eq 17, 3) := by decide +kernel
theorem dX5_join_16 : decode cX5_join 16 = .ok (.aload_n 0, 1) := by decide +kernel
theorem dX5_join_17 : decode cX5_join 17 = .ok (.getfield 18, 3) := by decide +kernel
theorem dX5_join_20 : decode cX5_join 20 = .ok (.iload_n 1, 1) := by decide +kernel
theorem dX5_join_21 : decode cX5_join 21 = .ok (.iload_n 2, 1) := by decide +kernel
theorem dX5_join_22 : decode cX5_join 22 = .ok (.iastore, 1) := by decide +kernel
theorem dX5_join_23 : decode cX5_join 23 = .ok (.aload_n 0, 1) := by decide +kernel
theorem dX5_join_24 : decode cX5_join 24 = .ok (.getfield 18, 3) := by decide +kernel
theorem dX5_join_27 : decode cX5_join 27 = .ok (.iload_n 2, 1) := by decide +kernel
theorem dX5_join_28 : decode cX5_join 28 = .ok (.iload_n 1, 1) := by decide +kernel
theorem dX5_join_29 : decode cX5_join 29 = .ok (.iastore, 1) := by decide +kernel
theorem dX5_join_30 : decode cX5_join 30 = .ok (.return_, 1) := by decide +kernel
set_option maxRecDepth 20000 in
theorem ggX5_countInLines_X5_isMan : GoodIn wsX5_countInLines wsX5_isMan := goodIn_ca (goodIn_r _ [7, 8, 9, 10, 11, 6, 12, 13, 18, 19, 20, 21, 22, 23, 24, 25, 26] (by decide +kernel) (by decide +kernel)) (goodIn_sub (fun _ h => List.mem_cons_of_mem _ (List.mem_append_right _ h)) (by decide +kernel))
set_option maxRecDepth 20000 in
theorem gX5_countInLines_X5_isMan : GoodIn wsX5_countInLines (wsV RX5 52 RX5 yX5_isMan wsX5_isMan) := goodIn_app (goodIn_of _ (by decide +kernel)) ggX5_countInLines_X5_isMan
set_option maxRecDepth 20000 in
theorem ggX5_countInLines_X5_fatherOf : GoodIn wsX5_countInLines wsX5_fatherOf := goodIn_ca (goodIn_r _ [17, 2, 9, 10, 11, 6, 12, 13, 18, 19, 20, 21, 22, 23, 24, 25, 26] (by decide +kernel) (by decide +kernel)) (goodIn_sub (fun _ h => List.mem_cons_of_mem _ (List.mem_append_right _ h)) (by decide +kernel))
set_option maxRecDepth 20000 in
theorem gX5_countInLines_X5_fatherOf : GoodIn wsX5_countInLines (wsV RX5 55 RX5 yX5_fatherOf wsX5_fatherOf) := goodIn_app (goodIn_of _ (by decide +kernel)) ggX5_countInLines_X5_fatherOf
set_option maxRecDepth 20000 in
theorem ggX5_countInLines_X5_has : GoodIn wsX5_countInLines wsX5_has := goodIn_r _ [12, 13, 18, 19, 20, 21, 22, 23, 24, 25, 26] (by decide +kernel) (by decide +kernel)
set_option maxRecDepth 20000 in
theorem gX5_countInLines_X5_has : GoodIn wsX5_countInLines (wsV RX5 49 RX5 yX5_has wsX5_has) := goodIn_app (goodIn_of _ (by decide +kernel)) ggX5_countInLines_X5_has
theorem dX5_countInLines_0 : decode cX5_countInLines 0 = .ok (.aload_n 0, 1) := by decide +kernel
theorem dX5_countInLines_1 : decode cX5_countInLines 1 = .ok (.iload_n 1, 1) := by decide +kernel
theorem dX5_countInLines_2 : decode cX5_countInLines 2 = .ok (.invokevirtual 52, 3) := by decide +kernel
theorem dX5_countInLines_5 : decode cX5_countInLines 5 = .ok (.ifCond .ne 4, 3) := by decide +kernel
theorem dX5_countInLines_8 : decode cX5_countInLines 8 = .ok (.return_, 1) := by decide +kernel
theorem dX5_countInLines_9 : decode cX5_countInLines 9 = .ok (.aload_n 0, 1) := by decide +kernel
theorem dX5_countInLines_10 : decode cX5_countInLines 10 = .ok (.iload_n 1, 1) := by decide +kernel
theorem dX5_countInLines_11 : decode cX5_countInLines 11 = .ok (.invokevirtual 55, 3) := by decide +kernel
theorem dX5_countInLines_14 : decode cX5_countInLines 14 = .ok (.istore_n 3, 1) := by decide +kernel
theorem dX5_countInLines_15 : decode cX5_countInLines 15 = .ok (.iconst 0, 1) := by decide +kernel
theorem dX5_countInLines_16 : decode cX5_countInLines 16 = .ok (.istore 4, 2) := by decide +kernel
theorem dX5_countInLines_18 : decode cX5_countInLines 18 = .ok (.iload 4, 2) := by decide +kernel
theorem dX5_countInLines_20 : decode cX5_countInLines 20 = .ok (.bipush 40, 2) := by decide +kernel
theorem dX5_countInLines_22 : decode cX5_countInLines 22 = .ok (.if_icmp .ge 34, 3) := by decide +kernel
theorem dX5_countInLines_25 : decode cX5_countInLines 25 = .ok (.aload_n 0, 1) := by decide +kernel
theorem dX5_countInLines_26 : decode cX5_countInLines 26 = .ok (.iload_n 3, 1) := by decide +kernel
theorem dX5_countInLines_27 : decode cX5_countInLines 27 = .ok (.invokevirtual 49, 3) := by decide +kernel
theorem dX5_countInLines_30 : decode cX5_countInLines 30 = .ok (.ifCond .eq 26, 3) := by decide +kernel
theorem dX5_countInLines_33 : decode cX5_countInLines 33 = .ok (.aload_n 0, 1) := by decide +kernel
theorem dX5_countInLines_34 : decode cX5_countInLines 34 = .ok (.getfield 24, 3) := by decide +kernel
theorem dX5_countInLines_37 : decode cX5_countInLines 37 = .ok (.iload_n 3, 1) := by decide +kernel
theorem dX5_countInLines_38 : decode cX5_countInLines 38 = .ok (.dup2, 1) := by decide +kernel
theorem dX5_countInLines_39 : decode cX5_countInLines 39 = .ok (.iaload, 1) := by decide +kernel
theorem dX5_countInLines_40 : decode cX5_countInLines 40 = .ok (.iload_n 2, 1) := by decide +kernel
theorem dX5_countInLines_41 : decode cX5_countInLines 41 = .ok (.iadd, 1) := by decide +kernel
theorem dX5_countInLines_42 : decode cX5_countInLines 42 = .ok (.iastore, 1) := by decide +kernel
theorem dX5_countInLines_43 : decode cX5_countInLines 43 = .ok (.aload_n 0, 1) := by decide +kernel
theorem dX5_countInLines_44 : decode cX5_countInLines 44 = .ok (.getfield 9, 3) := by decide +kernel
theorem dX5_countInLines_47 : decode cX5_countInLines 47 = .ok (.iload_n 3, 1) := by decide +kernel
theorem dX5_countInLines_48 : decode cX5_countInLines 48 = .ok (.iaload, 1) := by decide +kernel
theorem dX5_countInLines_49 : decode cX5_countInLines 49 = .ok (.istore_n 3, 1) := by decide +kernel
theorem dX5_countInLines_50 : decode cX5_countInLines 50 = .ok (.iinc 4 1, 3) := by decide +kernel
theorem dX5_countInLines_53 : decode cX5_countInLines 53 = .ok (.goto (-35), 3) := by decide +kernel
theorem dX5_countInLines_56 : decode cX5_countInLines 56 = .ok (.return_, 1) := by decide +kernel
theorem dX5_has_0 : decode cX5_has 0 = .ok (.iload_n 1, 1) := by decide +kernel
theorem dX5_has_1 : decode cX5_has 1 = .ok (.ifCond .lt 21, 3) := by decide +kernel
theorem dX5_has_4 : decode cX5_has 4 = .ok (.iload_n 1, 1) := by decide +kernel
theorem dX5_has_5 : decode cX5_has 5 = .ok (.aload_n 0, 1) := by decide +kernel
theorem dX5_has_6 : decode cX5_has 6 = .ok (.getfield 34, 3) := by decide +kernel
theorem dX5_has_9 : decode cX5_has 9 = .ok (.if_icmp .ge 13, 3) := by decide +kernel
theorem dX5_has_12 : decode cX5_has 12 = .ok (.iload_n 1, 1) := by decide +kernel
theorem dX5_has_13 : decode cX5_has 13 = .ok (.bipush 40, 2) := by decide +kernel
theorem dX5_has_15 : decode cX5_has 15 = .ok (.if_icmp .ge 7, 3) := by decide +kernel
theorem dX5_has_18 : decode cX5_has 18 = .ok (.iconst 1, 1) := by decide +kernel
theorem dX5_has_19 : decode cX5_has 19 = .ok (.goto 4, 3) := by decide +kernel
theorem dX5_has_22 : decode cX5_has 22 = .ok (.iconst 0, 1) := by decide +kernel
theorem dX5_has_23 : decode cX5_has 23 = .ok (.ireturn, 1) := by decide +kernel
set_option maxRecDepth 20000 in
theorem ggX5_isMan_X5_has : GoodIn wsX5_isMan wsX5_has := goodIn_r _ [6, 7, 8, 9, 10, 11, 12, 13, 14, 15, 16] (by decide +kernel) (by decide +kernel)
set_option maxRecDepth 20000 in
theorem gX5_isMan_X5_has : GoodIn wsX5_isMan (wsV RX5 49 RX5 yX5_has wsX5_has) := goodIn_app (goodIn_of _ (by decide +kernel)) ggX5_isMan_X5_has
theorem dX5_isMan_0 : decode cX5_isMan 0 = .ok (.aload_n 0, 1) := by decide +kernel
theorem dX5_isMan_1 : decode cX5_isMan 1 = .ok (.iload_n 1, 1) := by decide +kernel
theorem dX5_isMan_2 : decode cX5_isMan 2 = .ok (.invokevirtual 49, 3) := by decide +kernel
theorem dX5_isMan_5 : decode cX5_isMan 5 = .ok (.ifCond .eq 16, 3) := by decide +kernel
theorem dX5_isMan_8 : decode cX5_isMan 8 = .ok (.aload_n 0, 1) := by decide +kernel
theorem dX5_isMan_9 : decode cX5_isMan 9 = .ok (.getfield 27, 3) := by decide +kernel
theorem dX5_isMan_12 : decode cX5_isMan 12 = .ok (.iload_n 1, 1) := by decide +kernel
theorem dX5_isMan_13 : decode cX5_isMan 13 = .ok (.baload, 1) := by decide +kernel
theorem dX5_isMan_14 : decode cX5_isMan 14 = .ok (.ifCond .eq 7, 3) := by decide +kernel
theorem dX5_isMan_17 : decode cX5_isMan 17 = .ok (.iconst 1, 1) := by decide +kernel
theorem dX5_isMan_18 : decode cX5_isMan 18 = .ok (.goto 4, 3) := by decide +kernel
theorem dX5_isMan_21 : decode cX5_isMan 21 = .ok (.iconst 0, 1) := by decide +kernel
theorem dX5_isMan_22 : decode cX5_isMan 22 = .ok (.ireturn, 1) := by decide +kernel
set_option maxRecDepth 20000 in
theorem ggX5_isAlive_X5_has : GoodIn wsX5_isAlive wsX5_has := goodIn_r _ [6, 7, 8, 9, 10, 11, 12, 13, 14, 15, 16] (by decide +kernel) (by decide +kernel)
set_option maxRecDepth 20000 in
theorem gX5_isAlive_X5_has : GoodIn wsX5_isAlive (wsV RX5 49 RX5 yX5_has wsX5_has) := goodIn_app (goodIn_of _ (by decide +kernel)) ggX5_isAlive_X5_has
theorem dX5_isAlive_0 : decode cX5_isAlive 0 = .ok (.aload_n 0, 1) := by decide +kernel
theorem dX5_isAlive_1 : decode cX5_isAlive 1 = .ok (.iload_n 1, 1) := by decide +kernel
theorem dX5_isAlive_2 : decode cX5_isAlive 2 = .ok (.invokevirtual 49, 3) := by decide +kernel
theorem dX5_isAlive_5 : decode cX5_isAlive 5 = .ok (.ifCond .eq 16, 3) := by decide +kernel
theorem dX5_isAlive_8 : decode cX5_isAlive 8 = .ok (.aload_n 0, 1) := by decide +kernel
theorem dX5_isAlive_9 : decode cX5_isAlive 9 = .ok (.getfield 21, 3) := by decide +kernel
theorem dX5_isAlive_12 : decode cX5_isAlive 12 = .ok (.iload_n 1, 1) := by decide +kernel
theorem dX5_isAlive_13 : decode cX5_isAlive 13 = .ok (.iaload, 1) := by decide +kernel
theorem dX5_isAlive_14 : decode cX5_isAlive 14 = .ok (.ifCond .ne 7, 3) := by decide +kernel
theorem dX5_isAlive_17 : decode cX5_isAlive 17 = .ok (.iconst 1, 1) := by decide +kernel
theorem dX5_isAlive_18 : decode cX5_isAlive 18 = .ok (.goto 4, 3) := by decide +kernel
theorem dX5_isAlive_21 : decode cX5_isAlive 21 = .ok (.iconst 0, 1) := by decide +kernel
theorem dX5_isAlive_22 : decode cX5_isAlive 22 = .ok (.ireturn, 1) := by decide +kernel
set_option maxRecDepth 20000 in
theorem ggX5_deathOrder_X5_has : GoodIn wsX5_deathOrder wsX5_has := goodIn_r _ [6, 7, 8, 9, 10, 11, 12, 13, 14, 15, 16] (by decide +kernel) (by decide +kernel)
set_option maxRecDepth 20000 in
theorem gX5_deathOrder_X5_has : GoodIn wsX5_deathOrder (wsV RX5 49 RX5 yX5_has wsX5_has) := goodIn_app (goodIn_of _ (by decide +kernel)) ggX5_deathOrder_X5_has
theorem dX5_deathOrder_0 : decode cX5_deathOrder 0 = .ok (.aload_n 0, 1) := by decide +kernel
theorem dX5_deathOrder_1 : decode cX5_deathOrder 1 = .ok (.iload_n 1, 1) := by decide +kernel
theorem dX5_deathOrder_2 : decode cX5_deathOrder 2 = .ok (.invokevirtual 49, 3) := by decide +kernel
theorem dX5_deathOrder_5 : decode cX5_deathOrder 5 = .ok (.ifCond .eq 12, 3) := by decide +kernel
theorem dX5_deathOrder_8 : decode cX5_deathOrder 8 = .ok (.aload_n 0, 1) := by decide +kernel
theorem dX5_deathOrder_9 : decode cX5_deathOrder 9 = .ok (.getfield 21, 3) := by decide +kernel
theorem dX5_deathOrder_12 : decode cX5_deathOrder 12 = .ok (.iload_n 1, 1) := by decide +kernel
theorem dX5_deathOrder_13 : decode cX5_deathOrder 13 = .ok (.iaload, 1) := by decide +kernel
theorem dX5_deathOrder_14 : decode cX5_deathOrder 14 = .ok (.goto 4, 3) := by decide +kernel
theorem dX5_deathOrder_17 : decode cX5_deathOrder 17 = .ok (.iconst 0, 1) := by decide +kernel
theorem dX5_deathOrder_18 : decode cX5_deathOrder 18 = .ok (.ireturn, 1) := by decide +kernel
set_option maxRecDepth 20000 in
theorem ggX5_fatherOf_X5_has : GoodIn wsX5_fatherOf wsX5_has := goodIn_r _ [6, 7, 8, 9, 10, 11, 12, 13, 14, 15, 16] (by decide +kernel) (by decide +kernel)
set_option maxRecDepth 20000 in
theorem gX5_fatherOf_X5_has : GoodIn wsX5_fatherOf (wsV RX5 49 RX5 yX5_has wsX5_has) := goodIn_app (goodIn_of _ (by decide +kernel)) ggX5_fatherOf_X5_has
theorem dX5_fatherOf_0 : decode cX5_fatherOf 0 = .ok (.aload_n 0, 1) := by decide +kernel
theorem dX5_fatherOf_1 : decode cX5_fatherOf 1 = .ok (.iload_n 1, 1) := by decide +kernel
theorem dX5_fatherOf_2 : decode cX5_fatherOf 2 = .ok (.invokevirtual 49, 3) := by decide +kernel
theorem dX5_fatherOf_5 : decode cX5_fatherOf 5 = .ok (.ifCond .eq 12, 3) := by decide +kernel
theorem dX5_fatherOf_8 : decode cX5_fatherOf 8 = .ok (.aload_n 0, 1) := by decide +kernel
theorem dX5_fatherOf_9 : decode cX5_fatherOf 9 = .ok (.getfield 9, 3) := by decide +kernel
theorem dX5_fatherOf_12 : decode cX5_fatherOf 12 = .ok (.iload_n 1, 1) := by decide +kernel
theorem dX5_fatherOf_13 : decode cX5_fatherOf 13 = .ok (.iaload, 1) := by decide +kernel
theorem dX5_fatherOf_14 : decode cX5_fatherOf 14 = .ok (.goto 4, 3) := by decide +kernel
theorem dX5_fatherOf_17 : decode cX5_fatherOf 17 = .ok (.iconst (-1), 1) := by decide +kernel
theorem dX5_fatherOf_18 : decode cX5_fatherOf 18 = .ok (.ireturn, 1) := by decide +kernel
set_option maxRecDepth 20000 in
theorem ggX5_motherOf_X5_has : GoodIn wsX5_motherOf wsX5_has := goodIn_r _ [6, 7, 8, 9, 10, 11, 12, 13, 14, 15, 16] (by decide +kernel) (by decide +kernel)
set_option maxRecDepth 20000 in
theorem gX5_motherOf_X5_has : GoodIn wsX5_motherOf (wsV RX5 49 RX5 yX5_has wsX5_has) := goodIn_app (goodIn_of _ (by decide +kernel)) ggX5_motherOf_X5_has
theorem dX5_motherOf_0 : decode cX5_motherOf 0 = .ok (.aload_n 0, 1) := by decide +kernel
theorem dX5_motherOf_1 : decode cX5_motherOf 1 = .ok (.iload_n 1, 1) := by decide +kernel
theorem dX5_motherOf_2 : decode cX5_motherOf 2 = .ok (.invokevirtual 49, 3) := by decide +kernel
theorem dX5_motherOf_5 : decode cX5_motherOf 5 = .ok (.ifCond .eq 12, 3) := by decide +kernel
theorem dX5_motherOf_8 : decode cX5_motherOf 8 = .ok (.aload_n 0, 1) := by decide +kernel
theorem dX5_motherOf_9 : decode cX5_motherOf 9 = .ok (.getfield 15, 3) := by decide +kernel
theorem dX5_motherOf_12 : decode cX5_motherOf 12 = .ok (.iload_n 1, 1) := by decide +kernel
theorem dX5_motherOf_13 : decode cX5_motherOf 13 = .ok (.iaload, 1) := by decide +kernel
theorem dX5_motherOf_14 : decode cX5_motherOf 14 = .ok (.goto 4, 3) := by decide +kernel
theorem dX5_motherOf_17 : decode cX5_motherOf 17 = .ok (.iconst (-1), 1) := by decide +kernel
theorem dX5_motherOf_18 : decode cX5_motherOf 18 = .ok (.ireturn, 1) := by decide +kernel
set_option maxRecDepth 20000 in
theorem ggX5_spouseOf_X5_has : GoodIn wsX5_spouseOf wsX5_has := goodIn_r _ [6, 7, 8, 9, 10, 11, 12, 13, 14, 15, 16] (by decide +kernel) (by decide +kernel)
set_option maxRecDepth 20000 in
theorem gX5_spouseOf_X5_has : GoodIn wsX5_spouseOf (wsV RX5 49 RX5 yX5_has wsX5_has) := goodIn_app (goodIn_of _ (by decide +kernel)) ggX5_spouseOf_X5_has
theorem dX5_spouseOf_0 : decode cX5_spouseOf 0 = .ok (.aload_n 0, 1) := by decide +kernel
theorem dX5_spouseOf_1 : decode cX5_spouseOf 1 = .ok (.iload_n 1, 1) := by decide +kernel
theorem dX5_spouseOf_2 : decode cX5_spouseOf 2 = .ok (.invokevirtual 49, 3) := by decide +kernel
theorem dX5_spouseOf_5 : decode cX5_spouseOf 5 = .ok (.ifCond .eq 12, 3) := by decide +kernel
theorem dX5_spouseOf_8 : decode cX5_spouseOf 8 = .ok (.aload_n 0, 1) := by decide +kernel
theorem dX5_spouseOf_9 : decode cX5_spouseOf 9 = .ok (.getfield 18, 3) := by decide +kernel
theorem dX5_spouseOf_12 : decode cX5_spouseOf 12 = .ok (.iload_n 1, 1) := by decide +kernel
theorem dX5_spouseOf_13 : decode cX5_spouseOf 13 = .ok (.iaload, 1) := by decide +kernel
theorem dX5_spouseOf_14 : decode cX5_spouseOf 14 = .ok (.goto 4, 3) := by decide +kernel
theorem dX5_spouseOf_17 : decode cX5_spouseOf 17 = .ok (.iconst (-1), 1) := by decide +kernel
theorem dX5_spouseOf_18 : decode cX5_spouseOf 18 = .ok (.ireturn, 1) := by decide +kernel
set_option maxRecDepth 20000 in
theorem ggX5_livingLine_X5_has : GoodIn wsX5_livingLine wsX5_has := goodIn_r _ [6, 7, 8, 9, 10, 11, 12, 13, 14, 15, 16] (by decide +kernel) (by decide +kernel)
set_option maxRecDepth 20000 in
theorem gX5_livingLine_X5_has : GoodIn wsX5_livingLine (wsV RX5 49 RX5 yX5_has wsX5_has) := goodIn_app (goodIn_of _ (by decide +kernel)) ggX5_livingLine_X5_has
theorem dX5_livingLine_0 : decode cX5_livingLine 0 = .ok (.aload_n 0, 1) := by decide +kernel
theorem dX5_livingLine_1 : decode cX5_livingLine 1 = .ok (.iload_n 1, 1) := by decide +kernel
theorem dX5_livingLine_2 : decode cX5_livingLine 2 = .ok (.invokevirtual 49, 3) := by decide +kernel
theorem dX5_livingLine_5 : decode cX5_livingLine 5 = .ok (.ifCond .eq 12, 3) := by decide +kernel
theorem dX5_livingLine_8 : decode cX5_livingLine 8 = .ok (.aload_n 0, 1) := by decide +kernel
theorem dX5_livingLine_9 : decode cX5_livingLine 9 = .ok (.getfield 24, 3) := by decide +kernel
theorem dX5_livingLine_12 : decode cX5_livingLine 12 = .ok (.iload_n 1, 1) := by decide +kernel
theorem dX5_livingLine_13 : decode cX5_livingLine 13 = .ok (.iaload, 1) := by decide +kernel
theorem dX5_livingLine_14 : decode cX5_livingLine 14 = .ok (.goto 4, 3) := by decide +kernel
theorem dX5_livingLine_17 : decode cX5_livingLine 17 = .ok (.iconst 0, 1) := by decide +kernel
theorem dX5_livingLine_18 : decode cX5_livingLine 18 = .ok (.ireturn, 1) := by decide +kernel
set_option maxRecDepth 20000 in
theorem ggX5_isLastOfLine_X5_has : GoodIn wsX5_isLastOfLine wsX5_has := goodIn_r _ [9, 10, 11, 12, 13, 14, 15, 16, 17, 18, 19] (by decide +kernel) (by decide +kernel)
set_option maxRecDepth 20000 in
theorem gX5_isLastOfLine_X5_has : GoodIn wsX5_isLastOfLine (wsV RX5 49 RX5 yX5_has wsX5_has) := goodIn_app (goodIn_of _ (by decide +kernel)) ggX5_isLastOfLine_X5_has
theorem dX5_isLastOfLine_0 : decode cX5_isLastOfLine 0 = .ok (.aload_n 0, 1) := by decide +kernel
theorem dX5_isLastOfLine_1 : decode cX5_isLastOfLine 1 = .ok (.iload_n 1, 1) := by decide +kernel
theorem dX5_isLastOfLine_2 : decode cX5_isLastOfLine 2 = .ok (.invokevirtual 49, 3) := by decide +kernel
theorem dX5_isLastOfLine_5 : decode cX5_isLastOfLine 5 = .ok (.ifCond .eq 25, 3) := by decide +kernel
theorem dX5_isLastOfLine_8 : decode cX5_isLastOfLine 8 = .ok (.aload_n 0, 1) := by decide +kernel
theorem dX5_isLastOfLine_9 : decode cX5_isLastOfLine 9 = .ok (.getfield 27, 3) := by decide +kernel
theorem dX5_isLastOfLine_12 : decode cX5_isLastOfLine 12 = .ok (.iload_n 1, 1) := by decide +kernel
theorem dX5_isLastOfLine_13 : decode cX5_isLastOfLine 13 = .ok (.baload, 1) := by decide +kernel
theorem dX5_isLastOfLine_14 : decode cX5_isLastOfLine 14 = .ok (.ifCond .ne 16, 3) := by decide +kernel
theorem dX5_isLastOfLine_17 : decode cX5_isLastOfLine 17 = .ok (.aload_n 0, 1) := by decide +kernel
theorem dX5_isLastOfLine_18 : decode cX5_isLastOfLine 18 = .ok (.aload_n 0, 1) := by decide +kernel
theorem dX5_isLastOfLine_19 : decode cX5_isLastOfLine 19 = .ok (.getfield 9, 3) := by decide +kernel
theorem dX5_isLastOfLine_22 : decode cX5_isLastOfLine 22 = .ok (.iload_n 1, 1) := by decide +kernel
theorem dX5_isLastOfLine_23 : decode cX5_isLastOfLine 23 = .ok (.iaload, 1) := by decide +kernel
theorem dX5_isLastOfLine_24 : decode cX5_isLastOfLine 24 = .ok (.invokevirtual 49, 3) := by decide +kernel
theorem dX5_isLastOfLine_27 : decode cX5_isLastOfLine 27 = .ok (.ifCond .ne 5, 3) := by decide +kernel
theorem dX5_isLastOfLine_30 : decode cX5_isLastOfLine 30 = .ok (.iconst 0, 1) := by decide +kernel
theorem dX5_isLastOfLine_31 : decode cX5_isLastOfLine 31 = .ok (.ireturn, 1) := by decide +kernel
theorem dX5_isLastOfLine_32 : decode cX5_isLastOfLine 32 = .ok (.aload_n 0, 1) := by decide +kernel
theorem dX5_isLastOfLine_33 : decode cX5_isLastOfLine 33 = .ok (.getfield 9, 3) := by decide +kernel
theorem dX5_isLastOfLine_36 : decode cX5_isLastOfLine 36 = .ok (.iload_n 1, 1) := by decide +kernel
theorem dX5_isLastOfLine_37 : decode cX5_isLastOfLine 37 = .ok (.iaload, 1) := by decide +kernel
theorem dX5_isLastOfLine_38 : decode cX5_isLastOfLine 38 = .ok (.istore_n 2, 1) := by decide +kernel
theorem dX5_isLastOfLine_39 : decode cX5_isLastOfLine 39 = .ok (.aload_n 0, 1) := by decide +kernel
theorem dX5_isLastOfLine_40 : decode cX5_isLastOfLine 40 = .ok (.getfield 21, 3) := by decide +kernel
theorem dX5_isLastOfLine_43 : decode cX5_isLastOfLine 43 = .ok (.iload_n 2, 1) := by decide +kernel
theorem dX5_isLastOfLine_44 : decode cX5_isLastOfLine 44 = .ok (.iaload, 1) := by decide +kernel
theorem dX5_isLastOfLine_45 : decode cX5_isLastOfLine 45 = .ok (.ifCond .le 16, 3) := by decide +kernel
theorem dX5_isLastOfLine_48 : decode cX5_isLastOfLine 48 = .ok (.aload_n 0, 1) := by decide +kernel
theorem dX5_isLastOfLine_49 : decode cX5_isLastOfLine 49 = .ok (.getfield 24, 3) := by decide +kernel
theorem dX5_isLastOfLine_52 : decode cX5_isLastOfLine 52 = .ok (.iload_n 2, 1) := by decide +kernel
theorem dX5_isLastOfLine_53 : decode cX5_isLastOfLine 53 = .ok (.iaload, 1) := by decide +kernel
theorem dX5_isLastOfLine_54 : decode cX5_isLastOfLine 54 = .ok (.ifCond .ne 7, 3) := by decide +kernel
theorem dX5_isLastOfLine_57 : decode cX5_isLastOfLine 57 = .ok (.iconst 1, 1) := by decide +kernel
theorem dX5_isLastOfLine_58 : decode cX5_isLastOfLine 58 = .ok (.goto 4, 3) := by decide +kernel
theorem dX5_isLastOfLine_61 : decode cX5_isLastOfLine 61 = .ok (.iconst 0, 1) := by decide +kernel
theorem dX5_isLastOfLine_62 : decode cX5_isLastOfLine 62 = .ok (.ireturn, 1) := by decide +kernel
set_option maxRecDepth 20000 in
theorem ggX5_isSonOf_X5_has : GoodIn wsX5_isSonOf wsX5_has := goodIn_r _ [7, 8, 9, 10, 11, 12, 13, 14, 15, 16, 17] (by decide +kernel) (by decide +kernel)
set_option maxRecDepth 20000 in
theorem gX5_isSonOf_X5_has : GoodIn wsX5_isSonOf (wsV RX5 49 RX5 yX5_has wsX5_has) := goodIn_app (goodIn_of _ (by decide +kernel)) ggX5_isSonOf_X5_has
theorem dX5_isSonOf_0 : decode cX5_isSonOf 0 = .ok (.aload_n 0, 1) := by decide +kernel
theorem dX5_isSonOf_1 : decode cX5_isSonOf 1 = .ok (.iload_n 1, 1) := by decide +kernel
theorem dX5_isSonOf_2 : decode cX5_isSonOf 2 = .ok (.invokevirtual 49, 3) := by decide +kernel
theorem dX5_isSonOf_5 : decode cX5_isSonOf 5 = .ok (.ifCond .eq 26, 3) := by decide +kernel
theorem dX5_isSonOf_8 : decode cX5_isSonOf 8 = .ok (.aload_n 0, 1) := by decide +kernel
theorem dX5_isSonOf_9 : decode cX5_isSonOf 9 = .ok (.getfield 27, 3) := by decide +kernel
theorem dX5_isSonOf_12 : decode cX5_isSonOf 12 = .ok (.iload_n 1, 1) := by decide +kernel
theorem dX5_isSonOf_13 : decode cX5_isSonOf 13 = .ok (.baload, 1) := by decide +kernel
theorem dX5_isSonOf_14 : decode cX5_isSonOf 14 = .ok (.ifCond .eq 17, 3) := by decide +kernel
theorem dX5_isSonOf_17 : decode cX5_isSonOf 17 = .ok (.aload_n 0, 1) := by decide +kernel
theorem dX5_isSonOf_18 : decode cX5_isSonOf 18 = .ok (.getfield 9, 3) := by decide +kernel
theorem dX5_isSonOf_21 : decode cX5_isSonOf 21 = .ok (.iload_n 1, 1) := by decide +kernel
theorem dX5_isSonOf_22 : decode cX5_isSonOf 22 = .ok (.iaload, 1) := by decide +kernel
theorem dX5_isSonOf_23 : decode cX5_isSonOf 23 = .ok (.iload_n 2, 1) := by decide +kernel
theorem dX5_isSonOf_24 : decode cX5_isSonOf 24 = .ok (.if_icmp .ne 7, 3) := by decide +kernel
theorem dX5_isSonOf_27 : decode cX5_isSonOf 27 = .ok (.iconst 1, 1) := by decide +kernel
theorem dX5_isSonOf_28 : decode cX5_isSonOf 28 = .ok (.goto 4, 3) := by decide +kernel
theorem dX5_isSonOf_31 : decode cX5_isSonOf 31 = .ok (.iconst 0, 1) := by decide +kernel
theorem dX5_isSonOf_32 : decode cX5_isSonOf 32 = .ok (.ireturn, 1) := by decide +kernel
set_option maxRecDepth 20000 in
theorem ggX5_isDaughterOf_X5_has : GoodIn wsX5_isDaughterOf wsX5_has := goodIn_r _ [7, 8, 9, 10, 11, 12, 13, 14, 15, 16, 17] (by decide +kernel) (by decide +kernel)
set_option maxRecDepth 20000 in
theorem gX5_isDaughterOf_X5_has : GoodIn wsX5_isDaughterOf (wsV RX5 49 RX5 yX5_has wsX5_has) := goodIn_app (goodIn_of _ (by decide +kernel)) ggX5_isDaughterOf_X5_has
theorem dX5_isDaughterOf_0 : decode cX5_isDaughterOf 0 = .ok (.aload_n 0, 1) := by decide +kernel
theorem dX5_isDaughterOf_1 : decode cX5_isDaughterOf 1 = .ok (.iload_n 1, 1) := by decide +kernel
theorem dX5_isDaughterOf_2 : decode cX5_isDaughterOf 2 = .ok (.invokevirtual 49, 3) := by decide +kernel
theorem dX5_isDaughterOf_5 : decode cX5_isDaughterOf 5 = .ok (.ifCond .eq 26, 3) := by decide +kernel
theorem dX5_isDaughterOf_8 : decode cX5_isDaughterOf 8 = .ok (.aload_n 0, 1) := by decide +kernel
theorem dX5_isDaughterOf_9 : decode cX5_isDaughterOf 9 = .ok (.getfield 27, 3) := by decide +kernel
theorem dX5_isDaughterOf_12 : decode cX5_isDaughterOf 12 = .ok (.iload_n 1, 1) := by decide +kernel
theorem dX5_isDaughterOf_13 : decode cX5_isDaughterOf 13 = .ok (.baload, 1) := by decide +kernel
theorem dX5_isDaughterOf_14 : decode cX5_isDaughterOf 14 = .ok (.ifCond .ne 17, 3) := by decide +kernel
theorem dX5_isDaughterOf_17 : decode cX5_isDaughterOf 17 = .ok (.aload_n 0, 1) := by decide +kernel
theorem dX5_isDaughterOf_18 : decode cX5_isDaughterOf 18 = .ok (.getfield 9, 3) := by decide +kernel
theorem dX5_isDaughterOf_21 : decode cX5_isDaughterOf 21 = .ok (.iload_n 1, 1) := by decide +kernel
theorem dX5_isDaughterOf_22 : decode cX5_isDaughterOf 22 = .ok (.iaload, 1) := by decide +kernel
theorem dX5_isDaughterOf_23 : decode cX5_isDaughterOf 23 = .ok (.iload_n 2, 1) := by decide +kernel
theorem dX5_isDaughterOf_24 : decode cX5_isDaughterOf 24 = .ok (.if_icmp .ne 7, 3) := by decide +kernel
theorem dX5_isDaughterOf_27 : decode cX5_isDaughterOf 27 = .ok (.iconst 1, 1) := by decide +kernel
theorem dX5_isDaughterOf_28 : decode cX5_isDaughterOf 28 = .ok (.goto 4, 3) := by decide +kernel
theorem dX5_isDaughterOf_31 : decode cX5_isDaughterOf 31 = .ok (.iconst 0, 1) := by decide +kernel
theorem dX5_isDaughterOf_32 : decode cX5_isDaughterOf 32 = .ok (.ireturn, 1) := by decide +kernel
set_option maxRecDepth 20000 in
theorem ggX5_sonRank_X5_fatherOf : GoodIn wsX5_sonRank wsX5_fatherOf := goodIn_ca (goodIn_r _ [5, 6, 7, 8, 9, 4, 10, 11, 17, 18, 19, 20, 21, 22, 23, 24, 25] (by decide +kernel) (by decide +kernel)) (goodIn_sub (fun _ h => List.mem_cons_of_mem _ (List.mem_append_right _ h)) (by decide +kernel))
set_option maxRecDepth 20000 in
theorem gX5_sonRank_X5_fatherOf : GoodIn wsX5_sonRank (wsV RX5 55 RX5 yX5_fatherOf wsX5_fatherOf) := goodIn_app (goodIn_of _ (by decide +kernel)) ggX5_sonRank_X5_fatherOf
set_option maxRecDepth 20000 in
theorem ggX5_sonRank_X5_has : GoodIn wsX5_sonRank wsX5_has := goodIn_r _ [10, 11, 17, 18, 19, 20, 21, 22, 23, 24, 25] (by decide +kernel) (by decide +kernel)
set_option maxRecDepth 20000 in
theorem gX5_sonRank_X5_has : GoodIn wsX5_sonRank (wsV RX5 49 RX5 yX5_has wsX5_has) := goodIn_app (goodIn_of _ (by decide +kernel)) ggX5_sonRank_X5_has
set_option maxRecDepth 20000 in
theorem ggX5_sonRank_X5_isSonOf : GoodIn wsX5_sonRank wsX5_isSonOf := goodIn_ca (goodIn_r _ [15, 16, 6, 7, 8, 9, 4, 10, 11, 17, 18, 19, 20, 21, 22, 23, 24, 25] (by decide +kernel) (by decide +kernel)) (goodIn_sub (fun _ h => List.mem_cons_of_mem _ (List.mem_append_right _ h)) (by decide +kernel))
set_option maxRecDepth 20000 in
theorem gX5_sonRank_X5_isSonOf : GoodIn wsX5_sonRank (wsV RX5 59 RX5 yX5_isSonOf wsX5_isSonOf) := goodIn_app (goodIn_of _ (by decide +kernel)) ggX5_sonRank_X5_isSonOf
theorem dX5_sonRank_0 : decode cX5_sonRank 0 = .ok (.iconst 1, 1) := by decide +kernel
theorem dX5_sonRank_1 : decode cX5_sonRank 1 = .ok (.istore_n 2, 1) := by decide +kernel
theorem dX5_sonRank_2 : decode cX5_sonRank 2 = .ok (.aload_n 0, 1) := by decide +kernel
theorem dX5_sonRank_3 : decode cX5_sonRank 3 = .ok (.iload_n 1, 1) := by decide +kernel
theorem dX5_sonRank_4 : decode cX5_sonRank 4 = .ok (.invokevirtual 55, 3) := by decide +kernel
theorem dX5_sonRank_7 : decode cX5_sonRank 7 = .ok (.istore_n 3, 1) := by decide +kernel
theorem dX5_sonRank_8 : decode cX5_sonRank 8 = .ok (.iconst 0, 1) := by decide +kernel
theorem dX5_sonRank_9 : decode cX5_sonRank 9 = .ok (.istore 4, 2) := by decide +kernel
theorem dX5_sonRank_11 : decode cX5_sonRank 11 = .ok (.iload 4, 2) := by decide +kernel
theorem dX5_sonRank_13 : decode cX5_sonRank 13 = .ok (.iload_n 1, 1) := by decide +kernel
theorem dX5_sonRank_14 : decode cX5_sonRank 14 = .ok (.if_icmp .ge 31, 3) := by decide +kernel
theorem dX5_sonRank_17 : decode cX5_sonRank 17 = .ok (.aload_n 0, 1) := by decide +kernel
theorem dX5_sonRank_18 : decode cX5_sonRank 18 = .ok (.iload 4, 2) := by decide +kernel
theorem dX5_sonRank_20 : decode cX5_sonRank 20 = .ok (.invokevirtual 49, 3) := by decide +kernel
theorem dX5_sonRank_23 : decode cX5_sonRank 23 = .ok (.ifCond .eq 22, 3) := by decide +kernel
theorem dX5_sonRank_26 : decode cX5_sonRank 26 = .ok (.aload_n 0, 1) := by decide +kernel
theorem dX5_sonRank_27 : decode cX5_sonRank 27 = .ok (.iload 4, 2) := by decide +kernel
theorem dX5_sonRank_29 : decode cX5_sonRank 29 = .ok (.iload_n 3, 1) := by decide +kernel
theorem dX5_sonRank_30 : decode cX5_sonRank 30 = .ok (.invokevirtual 59, 3) := by decide +kernel
theorem dX5_sonRank_33 : decode cX5_sonRank 33 = .ok (.ifCond .eq 6, 3) := by decide +kernel
theorem dX5_sonRank_36 : decode cX5_sonRank 36 = .ok (.iinc 2 1, 3) := by decide +kernel
theorem dX5_sonRank_39 : decode cX5_sonRank 39 = .ok (.iinc 4 1, 3) := by decide +kernel
theorem dX5_sonRank_42 : decode cX5_sonRank 42 = .ok (.goto (-31), 3) := by decide +kernel
theorem dX5_sonRank_45 : decode cX5_sonRank 45 = .ok (.iload_n 2, 1) := by decide +kernel
theorem dX5_sonRank_46 : decode cX5_sonRank 46 = .ok (.ireturn, 1) := by decide +kernel
set_option maxRecDepth 20000 in
theorem ggX5_isHeir_X5_has : GoodIn wsX5_isHeir wsX5_has := goodIn_r _ [9, 10, 15, 16, 17, 18, 19, 20, 21, 22, 23] (by decide +kernel) (by decide +kernel)
set_option maxRecDepth 20000 in
theorem gX5_isHeir_X5_has : GoodIn wsX5_isHeir (wsV RX5 49 RX5 yX5_has wsX5_has) := goodIn_app (goodIn_of _ (by decide +kernel)) ggX5_isHeir_X5_has
set_option maxRecDepth 20000 in
theorem ggX5_isHeir_X5_isSonOf : GoodIn wsX5_isHeir wsX5_isSonOf := goodIn_ca (goodIn_r _ [14, 1, 3, 5, 6, 7, 8, 9, 10, 15, 16, 17, 18, 19, 20, 21, 22, 23] (by decide +kernel) (by decide +kernel)) (goodIn_sub (fun _ h => List.mem_cons_of_mem _ (List.mem_append_right _ h)) (by decide +kernel))
set_option maxRecDepth 20000 in
theorem gX5_isHeir_X5_isSonOf : GoodIn wsX5_isHeir (wsV RX5 59 RX5 yX5_isSonOf wsX5_isSonOf) := goodIn_app (goodIn_of _ (by decide +kernel)) ggX5_isHeir_X5_isSonOf
theorem dX5_isHeir_0 : decode cX5_isHeir 0 = .ok (.aload_n 0, 1) := by decide +kernel
theorem dX5_isHeir_1 : decode cX5_isHeir 1 = .ok (.iload_n 1, 1) := by decide +kernel
theorem dX5_isHeir_2 : decode cX5_isHeir 2 = .ok (.invokevirtual 49, 3) := by decide +kernel
theorem dX5_isHeir_5 : decode cX5_isHeir 5 = .ok (.ifCond .eq 34, 3) := by decide +kernel
theorem dX5_isHeir_8 : decode cX5_isHeir 8 = .ok (.aload_n 0, 1) := by decide +kernel
theorem dX5_isHeir_9 : decode cX5_isHeir 9 = .ok (.getfield 27, 3) := by decide +kernel
theorem dX5_isHeir_12 : decode cX5_isHeir 12 = .ok (.iload_n 1, 1) := by decide +kernel
theorem dX5_isHeir_13 : decode cX5_isHeir 13 = .ok (.baload, 1) := by decide +kernel
theorem dX5_isHeir_14 : decode cX5_isHeir 14 = .ok (.ifCond .eq 25, 3) := by decide +kernel
theorem dX5_isHeir_17 : decode cX5_isHeir 17 = .ok (.aload_n 0, 1) := by decide +kernel
theorem dX5_isHeir_18 : decode cX5_isHeir 18 = .ok (.getfield 21, 3) := by decide +kernel
theorem dX5_isHeir_21 : decode cX5_isHeir 21 = .ok (.iload_n 1, 1) := by decide +kernel
theorem dX5_isHeir_22 : decode cX5_isHeir 22 = .ok (.iaload, 1) := by decide +kernel
theorem dX5_isHeir_23 : decode cX5_isHeir 23 = .ok (.ifCond .gt 16, 3) := by decide +kernel
theorem dX5_isHeir_26 : decode cX5_isHeir 26 = .ok (.aload_n 0, 1) := by decide +kernel
theorem dX5_isHeir_27 : decode cX5_isHeir 27 = .ok (.aload_n 0, 1) := by decide +kernel
theorem dX5_isHeir_28 : decode cX5_isHeir 28 = .ok (.getfield 9, 3) := by decide +kernel
theorem dX5_isHeir_31 : decode cX5_isHeir 31 = .ok (.iload_n 1, 1) := by decide +kernel
theorem dX5_isHeir_32 : decode cX5_isHeir 32 = .ok (.iaload, 1) := by decide +kernel
theorem dX5_isHeir_33 : decode cX5_isHeir 33 = .ok (.invokevirtual 49, 3) := by decide +kernel
theorem dX5_isHeir_36 : decode cX5_isHeir 36 = .ok (.ifCond .ne 5, 3) := by decide +kernel
theorem dX5_isHeir_39 : decode cX5_isHeir 39 = .ok (.iconst 0, 1) := by decide +kernel
theorem dX5_isHeir_40 : decode cX5_isHeir 40 = .ok (.ireturn, 1) := by decide +kernel
theorem dX5_isHeir_41 : decode cX5_isHeir 41 = .ok (.aload_n 0, 1) := by decide +kernel
theorem dX5_isHeir_42 : decode cX5_isHeir 42 = .ok (.getfield 9, 3) := by decide +kernel
theorem dX5_isHeir_45 : decode cX5_isHeir 45 = .ok (.iload_n 1, 1) := by decide +kernel
theorem dX5_isHeir_46 : decode cX5_isHeir 46 = .ok (.iaload, 1) := by decide +kernel
theorem dX5_isHeir_47 : decode cX5_isHeir 47 = .ok (.istore_n 2, 1) := by decide +kernel
theorem dX5_isHeir_48 : decode cX5_isHeir 48 = .ok (.aload_n 0, 1) := by decide +kernel
theorem dX5_isHeir_49 : decode cX5_isHeir 49 = .ok (.getfield 21, 3) := by decide +kernel
theorem dX5_isHeir_52 : decode cX5_isHeir 52 = .ok (.iload_n 2, 1) := by decide +kernel
theorem dX5_isHeir_53 : decode cX5_isHeir 53 = .ok (.iaload, 1) := by decide +kernel
theorem dX5_isHeir_54 : decode cX5_isHeir 54 = .ok (.ifCond .ne 5, 3) := by decide +kernel
theorem dX5_isHeir_57 : decode cX5_isHeir 57 = .ok (.iconst 0, 1) := by decide +kernel
theorem dX5_isHeir_58 : decode cX5_isHeir 58 = .ok (.ireturn, 1) := by decide +kernel
theorem dX5_isHeir_59 : decode cX5_isHeir 59 = .ok (.iconst 0, 1) := by decide +kernel
theorem dX5_isHeir_60 : decode cX5_isHeir 60 = .ok (.istore_n 3, 1) := by decide +kernel
theorem dX5_isHeir_61 : decode cX5_isHeir 61 = .ok (.iload_n 3, 1) := by decide +kernel
theorem dX5_isHeir_62 : decode cX5_isHeir 62 = .ok (.iload_n 1, 1) := by decide +kernel
theorem dX5_isHeir_63 : decode cX5_isHeir 63 = .ok (.if_icmp .ge 46, 3) := by decide +kernel
theorem dX5_isHeir_66 : decode cX5_isHeir 66 = .ok (.aload_n 0, 1) := by decide +kernel
theorem dX5_isHeir_67 : decode cX5_isHeir 67 = .ok (.iload_n 3, 1) := by decide +kernel
theorem dX5_isHeir_68 : decode cX5_isHeir 68 = .ok (.invokevirtual 49, 3) := by decide +kernel
theorem dX5_isHeir_71 : decode cX5_isHeir 71 = .ok (.ifCond .eq 38, 3) := by decide +kernel
theorem dX5_isHeir_74 : decode cX5_isHeir 74 = .ok (.aload_n 0, 1) := by decide +kernel
theorem dX5_isHeir_75 : decode cX5_isHeir 75 = .ok (.iload_n 3, 1) := by decide +kernel
theorem dX5_isHeir_76 : decode cX5_isHeir 76 = .ok (.iload_n 2, 1) := by decide +kernel
theorem dX5_isHeir_77 : decode cX5_isHeir 77 = .ok (.invokevirtual 59, 3) := by decide +kernel
theorem dX5_isHeir_80 : decode cX5_isHeir 80 = .ok (.ifCond .eq 23, 3) := by decide +kernel
theorem dX5_isHeir_83 : decode cX5_isHeir 83 = .ok (.aload_n 0, 1) := by decide +kernel
theorem dX5_isHeir_84 : decode cX5_isHeir 84 = .ok (.getfield 21, 3) := by decide +kernel
theorem dX5_isHeir_87 : decode cX5_isHeir 87 = .ok (.iload_n 3, 1) := by decide +kernel
theorem dX5_isHeir_88 : decode cX5_isHeir 88 = .ok (.iaload, 1) := by decide +kernel
theorem dX5_isHeir_89 : decode cX5_isHeir 89 = .ok (.ifCond .eq 12, 3) := by decide +kernel
theorem dX5_isHeir_92 : decode cX5_isHeir 92 = .ok (.aload_n 0, 1) := by decide +kernel
theorem dX5_isHeir_93 : decode cX5_isHeir 93 = .ok (.getfield 24, 3) := by decide +kernel
theorem dX5_isHeir_96 : decode cX5_isHeir 96 = .ok (.iload_n 3, 1) := by decide +kernel
theorem dX5_isHeir_97 : decode cX5_isHeir 97 = .ok (.iaload, 1) := by decide +kernel
theorem dX5_isHeir_98 : decode cX5_isHeir 98 = .ok (.ifCond .le 5, 3) := by decide +kernel
theorem dX5_isHeir_101 : decode cX5_isHeir 101 = .ok (.iconst 0, 1) := by decide +kernel
theorem dX5_isHeir_102 : decode cX5_isHeir 102 = .ok (.ireturn, 1) := by decide +kernel
theorem dX5_isHeir_103 : decode cX5_isHeir 103 = .ok (.iinc 3 1, 3) := by decide +kernel
theorem dX5_isHeir_106 : decode cX5_isHeir 106 = .ok (.goto (-45), 3) := by decide +kernel
theorem dX5_isHeir_109 : decode cX5_isHeir 109 = .ok (.iconst 1, 1) := by decide +kernel
theorem dX5_isHeir_110 : decode cX5_isHeir 110 = .ok (.ireturn, 1) := by decide +kernel
set_option maxRecDepth 20000 in
theorem ggX5_isOfLine_X5_has : GoodIn wsX5_isOfLine wsX5_has := goodIn_r _ [7, 8, 9, 10, 11, 12, 13, 14, 15, 16, 17] (by decide +kernel) (by decide +kernel)
set_option maxRecDepth 20000 in
theorem gX5_isOfLine_X5_has : GoodIn wsX5_isOfLine (wsV RX5 49 RX5 yX5_has wsX5_has) := goodIn_app (goodIn_of _ (by decide +kernel)) ggX5_isOfLine_X5_has
theorem dX5_isOfLine_0 : decode cX5_isOfLine 0 = .ok (.aload_n 0, 1) := by decide +kernel
theorem dX5_isOfLine_1 : decode cX5_isOfLine 1 = .ok (.iload_n 1, 1) := by decide +kernel
theorem dX5_isOfLine_2 : decode cX5_isOfLine 2 = .ok (.invokevirtual 49, 3) := by decide +kernel
theorem dX5_isOfLine_5 : decode cX5_isOfLine 5 = .ok (.ifCond .eq 16, 3) := by decide +kernel
theorem dX5_isOfLine_8 : decode cX5_isOfLine 8 = .ok (.aload_n 0, 1) := by decide +kernel
theorem dX5_isOfLine_9 : decode cX5_isOfLine 9 = .ok (.getfield 27, 3) := by decide +kernel
theorem dX5_isOfLine_12 : decode cX5_isOfLine 12 = .ok (.iload_n 1, 1) := by decide +kernel
theorem dX5_isOfLine_13 : decode cX5_isOfLine 13 = .ok (.baload, 1) := by decide +kernel
theorem dX5_isOfLine_14 : decode cX5_isOfLine 14 = .ok (.ifCond .eq 7, 3) := by decide +kernel
theorem dX5_isOfLine_17 : decode cX5_isOfLine 17 = .ok (.iload_n 1, 1) := by decide +kernel
theorem dX5_isOfLine_18 : decode cX5_isOfLine 18 = .ok (.goto 4, 3) := by decide +kernel
theorem dX5_isOfLine_21 : decode cX5_isOfLine 21 = .ok (.iconst (-1), 1) := by decide +kernel
theorem dX5_isOfLine_22 : decode cX5_isOfLine 22 = .ok (.istore_n 3, 1) := by decide +kernel
theorem dX5_isOfLine_23 : decode cX5_isOfLine 23 = .ok (.iconst 0, 1) := by decide +kernel
theorem dX5_isOfLine_24 : decode cX5_isOfLine 24 = .ok (.istore 4, 2) := by decide +kernel
theorem dX5_isOfLine_26 : decode cX5_isOfLine 26 = .ok (.iload 4, 2) := by decide +kernel
theorem dX5_isOfLine_28 : decode cX5_isOfLine 28 = .ok (.bipush 40, 2) := by decide +kernel
theorem dX5_isOfLine_30 : decode cX5_isOfLine 30 = .ok (.if_icmp .ge 31, 3) := by decide +kernel
theorem dX5_isOfLine_33 : decode cX5_isOfLine 33 = .ok (.aload_n 0, 1) := by decide +kernel
theorem dX5_isOfLine_34 : decode cX5_isOfLine 34 = .ok (.iload_n 3, 1) := by decide +kernel
theorem dX5_isOfLine_35 : decode cX5_isOfLine 35 = .ok (.invokevirtual 49, 3) := by decide +kernel
theorem dX5_isOfLine_38 : decode cX5_isOfLine 38 = .ok (.ifCond .eq 23, 3) := by decide +kernel
theorem dX5_isOfLine_41 : decode cX5_isOfLine 41 = .ok (.iload_n 3, 1) := by decide +kernel
theorem dX5_isOfLine_42 : decode cX5_isOfLine 42 = .ok (.iload_n 2, 1) := by decide +kernel
theorem dX5_isOfLine_43 : decode cX5_isOfLine 43 = .ok (.if_icmp .ne 5, 3) := by decide +kernel
theorem dX5_isOfLine_46 : decode cX5_isOfLine 46 = .ok (.iconst 1, 1) := by decide +kernel
theorem dX5_isOfLine_47 : decode cX5_isOfLine 47 = .ok (.ireturn, 1) := by decide +kernel
theorem dX5_isOfLine_48 : decode cX5_isOfLine 48 = .ok (.aload_n 0, 1) := by decide +kernel
theorem dX5_isOfLine_49 : decode cX5_isOfLine 49 = .ok (.getfield 9, 3) := by decide +kernel
theorem dX5_isOfLine_52 : decode cX5_isOfLine 52 = .ok (.iload_n 3, 1) := by decide +kernel
theorem dX5_isOfLine_53 : decode cX5_isOfLine 53 = .ok (.iaload, 1) := by decide +kernel
theorem dX5_isOfLine_54 : decode cX5_isOfLine 54 = .ok (.istore_n 3, 1) := by decide +kernel
theorem dX5_isOfLine_55 : decode cX5_isOfLine 55 = .ok (.iinc 4 1, 3) := by decide +kernel
theorem dX5_isOfLine_58 : decode cX5_isOfLine 58 = .ok (.goto (-32), 3) := by decide +kernel
theorem dX5_isOfLine_61 : decode cX5_isOfLine 61 = .ok (.iconst 0, 1) := by decide +kernel
theorem dX5_isOfLine_62 : decode cX5_isOfLine 62 = .ok (.ireturn, 1) := by decide +kernel
set_option maxRecDepth 20000 in
theorem ggX5_isForebear_X5_has : GoodIn wsX5_isForebear wsX5_has := goodIn_r _ [8, 9, 14, 15, 16, 17, 18, 19, 20, 21, 22] (by decide +kernel) (by decide +kernel)
set_option maxRecDepth 20000 in
theorem gX5_isForebear_X5_has : GoodIn wsX5_isForebear (wsV RX5 49 RX5 yX5_has wsX5_has) := goodIn_app (goodIn_of _ (by decide +kernel)) ggX5_isForebear_X5_has
set_option maxRecDepth 20000 in
theorem ggX5_isForebear_X5_reach : GoodIn wsX5_isForebear wsX5_reach := goodIn_ca (goodIn_r _ [13, 1, 4, 5, 6, 7, 8, 9, 14, 15, 16, 17, 18, 19, 20, 21, 22] (by decide +kernel) (by decide +kernel)) (goodIn_sub (fun _ h => List.mem_cons_of_mem _ (List.mem_append_right _ h)) (by decide +kernel))
set_option maxRecDepth 20000 in
theorem gX5_isForebear_X5_reach : GoodIn wsX5_isForebear (wsV RX5 63 RX5 yX5_reach wsX5_reach) := goodIn_app (goodIn_of _ (by decide +kernel)) ggX5_isForebear_X5_reach
theorem dX5_isForebear_0 : decode cX5_isForebear 0 = .ok (.aload_n 0, 1) := by decide +kernel
theorem dX5_isForebear_1 : decode cX5_isForebear 1 = .ok (.iload_n 1, 1) := by decide +kernel
theorem dX5_isForebear_2 : decode cX5_isForebear 2 = .ok (.invokevirtual 49, 3) := by decide +kernel
theorem dX5_isForebear_5 : decode cX5_isForebear 5 = .ok (.ifCond .eq 11, 3) := by decide +kernel
theorem dX5_isForebear_8 : decode cX5_isForebear 8 = .ok (.aload_n 0, 1) := by decide +kernel
theorem dX5_isForebear_9 : decode cX5_isForebear 9 = .ok (.iload_n 2, 1) := by decide +kernel
theorem dX5_isForebear_10 : decode cX5_isForebear 10 = .ok (.invokevirtual 49, 3) := by decide +kernel
theorem dX5_isForebear_13 : decode cX5_isForebear 13 = .ok (.ifCond .ne 5, 3) := by decide +kernel
theorem dX5_isForebear_16 : decode cX5_isForebear 16 = .ok (.iconst 0, 1) := by decide +kernel
theorem dX5_isForebear_17 : decode cX5_isForebear 17 = .ok (.ireturn, 1) := by decide +kernel
theorem dX5_isForebear_18 : decode cX5_isForebear 18 = .ok (.iconst 0, 1) := by decide +kernel
theorem dX5_isForebear_19 : decode cX5_isForebear 19 = .ok (.istore_n 3, 1) := by decide +kernel
theorem dX5_isForebear_20 : decode cX5_isForebear 20 = .ok (.iload_n 3, 1) := by decide +kernel
theorem dX5_isForebear_21 : decode cX5_isForebear 21 = .ok (.bipush 40, 2) := by decide +kernel
theorem dX5_isForebear_23 : decode cX5_isForebear 23 = .ok (.if_icmp .ge 25, 3) := by decide +kernel
theorem dX5_isForebear_26 : decode cX5_isForebear 26 = .ok (.aload_n 0, 1) := by decide +kernel
theorem dX5_isForebear_27 : decode cX5_isForebear 27 = .ok (.getfield 31, 3) := by decide +kernel
theorem dX5_isForebear_30 : decode cX5_isForebear 30 = .ok (.iload_n 3, 1) := by decide +kernel
theorem dX5_isForebear_31 : decode cX5_isForebear 31 = .ok (.iload_n 3, 1) := by decide +kernel
theorem dX5_isForebear_32 : decode cX5_isForebear 32 = .ok (.iload_n 2, 1) := by decide +kernel
theorem dX5_isForebear_33 : decode cX5_isForebear 33 = .ok (.if_icmp .ne 7, 3) := by decide +kernel
theorem dX5_isForebear_36 : decode cX5_isForebear 36 = .ok (.iconst 1, 1) := by decide +kernel
theorem dX5_isForebear_37 : decode cX5_isForebear 37 = .ok (.goto 4, 3) := by decide +kernel
theorem dX5_isForebear_40 : decode cX5_isForebear 40 = .ok (.iconst 0, 1) := by decide +kernel
theorem dX5_isForebear_41 : decode cX5_isForebear 41 = .ok (.bastore, 1) := by decide +kernel
theorem dX5_isForebear_42 : decode cX5_isForebear 42 = .ok (.iinc 3 1, 3) := by decide +kernel
theorem dX5_isForebear_45 : decode cX5_isForebear 45 = .ok (.goto (-25), 3) := by decide +kernel
theorem dX5_isForebear_48 : decode cX5_isForebear 48 = .ok (.iload_n 2, 1) := by decide +kernel
theorem dX5_isForebear_49 : decode cX5_isForebear 49 = .ok (.istore_n 3, 1) := by decide +kernel
theorem dX5_isForebear_50 : decode cX5_isForebear 50 = .ok (.iload_n 3, 1) := by decide +kernel
theorem dX5_isForebear_51 : decode cX5_isForebear 51 = .ok (.iload_n 1, 1) := by decide +kernel
theorem dX5_isForebear_52 : decode cX5_isForebear 52 = .ok (.if_icmp .le 44, 3) := by decide +kernel
theorem dX5_isForebear_55 : decode cX5_isForebear 55 = .ok (.iload_n 3, 1) := by decide +kernel
theorem dX5_isForebear_56 : decode cX5_isForebear 56 = .ok (.bipush 40, 2) := by decide +kernel
theorem dX5_isForebear_58 : decode cX5_isForebear 58 = .ok (.if_icmp .ge 38, 3) := by decide +kernel
theorem dX5_isForebear_61 : decode cX5_isForebear 61 = .ok (.aload_n 0, 1) := by decide +kernel
theorem dX5_isForebear_62 : decode cX5_isForebear 62 = .ok (.getfield 31, 3) := by decide +kernel
theorem dX5_isForebear_65 : decode cX5_isForebear 65 = .ok (.iload_n 3, 1) := by decide +kernel
theorem dX5_isForebear_66 : decode cX5_isForebear 66 = .ok (.baload, 1) := by decide +kernel
theorem dX5_isForebear_67 : decode cX5_isForebear 67 = .ok (.ifCond .eq 23, 3) := by decide +kernel
theorem dX5_isForebear_70 : decode cX5_isForebear 70 = .ok (.aload_n 0, 1) := by decide +kernel
theorem dX5_isForebear_71 : decode cX5_isForebear 71 = .ok (.aload_n 0, 1) := by decide +kernel
theorem dX5_isForebear_72 : decode cX5_isForebear 72 = .ok (.getfield 9, 3) := by decide +kernel
theorem dX5_isForebear_75 : decode cX5_isForebear 75 = .ok (.iload_n 3, 1) := by decide +kernel
theorem dX5_isForebear_76 : decode cX5_isForebear 76 = .ok (.iaload, 1) := by decide +kernel
theorem dX5_isForebear_77 : decode cX5_isForebear 77 = .ok (.invokevirtual 63, 3) := by decide +kernel
theorem dX5_isForebear_80 : decode cX5_isForebear 80 = .ok (.aload_n 0, 1) := by decide +kernel
theorem dX5_isForebear_81 : decode cX5_isForebear 81 = .ok (.aload_n 0, 1) := by decide +kernel
theorem dX5_isForebear_82 : decode cX5_isForebear 82 = .ok (.getfield 15, 3) := by decide +kernel
theorem dX5_isForebear_85 : decode cX5_isForebear 85 = .ok (.iload_n 3, 1) := by decide +kernel
theorem dX5_isForebear_86 : decode cX5_isForebear 86 = .ok (.iaload, 1) := by decide +kernel
theorem dX5_isForebear_87 : decode cX5_isForebear 87 = .ok (.invokevirtual 63, 3) := by decide +kernel
theorem dX5_isForebear_90 : decode cX5_isForebear 90 = .ok (.iinc 3 (-1), 3) := by decide +kernel
theorem dX5_isForebear_93 : decode cX5_isForebear 93 = .ok (.goto (-43), 3) := by decide +kernel
theorem dX5_isForebear_96 : decode cX5_isForebear 96 = .ok (.aload_n 0, 1) := by decide +kernel
theorem dX5_isForebear_97 : decode cX5_isForebear 97 = .ok (.getfield 31, 3) := by decide +kernel
theorem dX5_isForebear_100 : decode cX5_isForebear 100 = .ok (.iload_n 1, 1) := by decide +kernel
theorem dX5_isForebear_101 : decode cX5_isForebear 101 = .ok (.baload, 1) := by decide +kernel
theorem dX5_isForebear_102 : decode cX5_isForebear 102 = .ok (.ireturn, 1) := by decide +kernel
set_option maxRecDepth 20000 in
theorem ggX5_reach_X5_has : GoodIn wsX5_reach wsX5_has := goodIn_r _ [6, 7, 8, 9, 10, 11, 12, 13, 14, 15, 16] (by decide +kernel) (by decide +kernel)
set_option maxRecDepth 20000 in
theorem gX5_reach_X5_has : GoodIn wsX5_reach (wsV RX5 49 RX5 yX5_has wsX5_has) := goodIn_app (goodIn_of _ (by decide +kernel)) ggX5_reach_X5_has
theorem dX5_reach_0 : decode cX5_reach 0 = .ok (.aload_n 0, 1) := by decide +kernel
theorem dX5_reach_1 : decode cX5_reach 1 = .ok (.iload_n 1, 1) := by decide +kernel
theorem dX5_reach_2 : decode cX5_reach 2 = .ok (.invokevirtual 49, 3) := by decide +kernel
theorem dX5_reach_5 : decode cX5_reach 5 = .ok (.ifCond .eq 10, 3) := by decide +kernel
theorem dX5_reach_8 : decode cX5_reach 8 = .ok (.aload_n 0, 1) := by decide +kernel
theorem dX5_reach_9 : decode cX5_reach 9 = .ok (.getfield 31, 3) := by decide +kernel
theorem dX5_reach_12 : decode cX5_reach 12 = .ok (.iload_n 1, 1) := by decide +kernel
theorem dX5_reach_13 : decode cX5_reach 13 = .ok (.iconst 1, 1) := by decide +kernel
theorem dX5_reach_14 : decode cX5_reach 14 = .ok (.bastore, 1) := by decide +kernel
theorem dX5_reach_15 : decode cX5_reach 15 = .ok (.return_, 1) := by decide +kernel
theorem dX5_countLiving_0 : decode cX5_countLiving 0 = .ok (.aload_n 0, 1) := by decide +kernel
theorem dX5_countLiving_1 : decode cX5_countLiving 1 = .ok (.getfield 34, 3) := by decide +kernel
theorem dX5_countLiving_4 : decode cX5_countLiving 4 = .ok (.aload_n 0, 1) := by decide +kernel
theorem dX5_countLiving_5 : decode cX5_countLiving 5 = .ok (.getfield 46, 3) := by decide +kernel
theorem dX5_countLiving_8 : decode cX5_countLiving 8 = .ok (.isub, 1) := by decide +kernel
theorem dX5_countLiving_9 : decode cX5_countLiving 9 = .ok (.ireturn, 1) := by decide +kernel
set_option maxRecDepth 20000 in
theorem ggX6_init_X8_init : GoodIn wsX6_init wsX8_init := goodIn_r _ [20, 21, 2, 3, 22, 23, 5, 24, 25, 36, 37, 38, 39, 40] (by decide +kernel) (by decide +kernel)
set_option maxRecDepth 20000 in
theorem gX6_init_X8_init_n25 : GoodIn wsX6_init (wsX8_init) := ggX6_init_X8_init
theorem dX6_init_0 : decode cX6_init 0 = .ok (.aload_n 0, 1) := by decide +kernel
theorem dX6_init_1 : decode cX6_init 1 = .ok (.invokespecial 3, 3) := by decide +kernel
theorem dX6_init_4 : decode cX6_init 4 = .ok (.aload_n 0, 1) := by decide +kernel
theorem dX6_init_5 : decode cX6_init 5 = .ok (.bipush 40, 2) := by decide +kernel
theorem dX6_init_7 : decode cX6_init 7 = .ok (.bipush 8, 2) := by decide +kernel
theorem dX6_init_9 : decode cX6_init 9 = .ok (.multianewarray 9 2, 4) := by decide +kernel
theorem dX6_init_13 : decode cX6_init 13 = .ok (.putfield 11, 3) := by decide +kernel
theorem dX6_init_16 : decode cX6_init 16 = .ok (.aload_n 0, 1) := by decide +kernel
theorem dX6_init_17 : decode cX6_init 17 = .ok (.bipush 40, 2) := by decide +kernel
theorem dX6_init_19 : decode cX6_init 19 = .ok (.bipush 8, 2) := by decide +kernel
theorem dX6_init_21 : decode cX6_init 21 = .ok (.multianewarray 9 2, 4) := by decide +kernel
theorem dX6_init_25 : decode cX6_init 25 = .ok (.putfield 16, 3) := by decide +kernel
theorem dX6_init_28 : decode cX6_init 28 = .ok (.aload_n 0, 1) := by decide +kernel
theorem dX6_init_29 : decode cX6_init 29 = .ok (.bipush 40, 2) := by decide +kernel
theorem dX6_init_31 : decode cX6_init 31 = .ok (.newarray .int, 2) := by decide +kernel
theorem dX6_init_33 : decode cX6_init 33 = .ok (.putfield 19, 3) := by decide +kernel
theorem dX6_init_36 : decode cX6_init 36 = .ok (.aload_n 0, 1) := by decide +kernel
theorem dX6_init_37 : decode cX6_init 37 = .ok (.new 23, 3) := by decide +kernel
theorem dX6_init_40 : decode cX6_init 40 = .ok (.dup, 1) := by decide +kernel
theorem dX6_init_41 : decode cX6_init 41 = .ok (.invokespecial 25, 3) := by decide +kernel
theorem dX6_init_44 : decode cX6_init 44 = .ok (.putfield 26, 3) := by decide +kernel
theorem dX6_init_47 : decode cX6_init 47 = .ok (.aload_n 0, 1) := by decide +kernel
theorem dX6_init_48 : decode cX6_init 48 = .ok (.new 23, 3) := by decide +kernel
theorem dX6_init_51 : decode cX6_init 51 = .ok (.dup, 1) := by decide +kernel
theorem dX6_init_52 : decode cX6_init 52 = .ok (.invokespecial 25, 3) := by decide +kernel
theorem dX6_init_55 : decode cX6_init 55 = .ok (.putfield 30, 3) := by decide +kernel
theorem dX6_init_58 : decode cX6_init 58 = .ok (.aload_n 0, 1) := by decide +kernel
theorem dX6_init_59 : decode cX6_init 59 = .ok (.aload_n 1, 1) := by decide +kernel
theorem dX6_init_60 : decode cX6_init 60 = .ok (.putfield 33, 3) := by decide +kernel
theorem dX6_init_63 : decode cX6_init 63 = .ok (.aload_n 0, 1) := by decide +kernel
theorem dX6_init_64 : decode cX6_init 64 = .ok (.aload_n 2, 1) := by decide +kernel
theorem dX6_init_65 : decode cX6_init 65 = .ok (.putfield 37, 3) := by decide +kernel
theorem dX6_init_68 : decode cX6_init 68 = .ok (.aload_n 0, 1) := by decide +kernel
theorem dX6_init_69 : decode cX6_init 69 = .ok (.aload_n 3, 1) := by decide +kernel
theorem dX6_init_70 : decode cX6_init 70 = .ok (.putfield 41, 3) := by decide +kernel
theorem dX6_init_73 : decode cX6_init 73 = .ok (.aload_n 0, 1) := by decide +kernel
theorem dX6_init_74 : decode cX6_init 74 = .ok (.aload 4, 2) := by decide +kernel
theorem dX6_init_76 : decode cX6_init 76 = .ok (.putfield 45, 3) := by decide +kernel
theorem dX6_init_79 : decode cX6_init 79 = .ok (.aload_n 0, 1) := by decide +kernel
theorem dX6_init_80 : decode cX6_init 80 = .ok (.aload 5, 2) := by decide +kernel
theorem dX6_init_82 : decode cX6_init 82 = .ok (.putfield 49, 3) := by decide +kernel
theorem dX6_init_85 : decode cX6_init 85 = .ok (.return_, 1) := by decide +kernel
set_option maxRecDepth 20000 in
theorem ggX6_settle_X0_armsOf : GoodIn wsX6_settle wsX0_armsOf := goodIn_ca (goodIn_r _ [9, 10, 11, 12, 13, 14, 15, 16, 17, 76, 77, 78, 79, 80, 81, 82, 83, 84, 85, 86, 67, 68, 69, 70, 71, 72, 73, 74, 75] (by decide +kernel) (by decide +kernel)) (goodIn_sub (fun _ h => List.mem_cons_of_mem _ (List.mem_append_right _ h)) (by decide +kernel))
set_option maxRecDepth 20000 in
theorem gX6_settle_X0_armsOf : GoodIn wsX6_settle (wsV RX6 59 RX0 yX0_armsOf wsX0_armsOf) := goodIn_app (goodIn_of _ (by decide +kernel)) ggX6_settle_X0_armsOf
set_option maxRecDepth 20000 in
theorem ggX6_settle_X6_add : GoodIn wsX6_settle wsX6_add := goodIn_ca (goodIn_r _ [22, 1, 3, 23, 24, 25, 13, 14, 15, 16, 17, 57, 58, 59, 60, 61, 62, 63, 64, 65, 66, 67, 68, 69, 70, 71, 72, 73, 74, 75] (by decide +kernel) (by decide +kernel)) (goodIn_sub (fun _ h => List.mem_cons_of_mem _ (List.mem_append_right _ h)) (by decide +kernel))
set_option maxRecDepth 20000 in
theorem gX6_settle_X6_add : GoodIn wsX6_settle (wsV RX6 65 RX6 yX6_add wsX6_add) := goodIn_app (goodIn_of _ (by decide +kernel)) ggX6_settle_X6_add
set_option maxRecDepth 20000 in
theorem ggX6_settle_X5_fatherOf : GoodIn wsX6_settle wsX5_fatherOf := goodIn_ca (goodIn_r _ [29, 30, 31, 13, 14, 15, 16, 17, 67, 68, 69, 70, 71, 72, 73, 74, 75] (by decide +kernel) (by decide +kernel)) (goodIn_sub (fun _ h => List.mem_cons_of_mem _ (List.mem_append_right _ h)) (by decide +kernel))
set_option maxRecDepth 20000 in
theorem gX6_settle_X5_fatherOf : GoodIn wsX6_settle (wsV RX6 69 RX5 yX5_fatherOf wsX5_fatherOf) := goodIn_app (goodIn_of _ (by decide +kernel)) ggX6_settle_X5_fatherOf
set_option maxRecDepth 20000 in
theorem ggX6_settle_X6_addAll : GoodIn wsX6_settle wsX6_addAll := goodIn_ca (goodIn_r _ [35, 1, 3, 23, 24, 25, 13, 14, 15, 16, 17, 18, 19, 20, 21, 22, 57, 58, 59, 60, 61, 62, 63, 64, 65, 66, 67, 68, 69, 70, 71, 72, 73, 74, 75] (by decide +kernel) (by decide +kernel)) (goodIn_sub (fun _ h => List.mem_cons_of_mem _ (List.mem_append_right _ h)) (by decide +kernel))
set_option maxRecDepth 20000 in
theorem gX6_settle_X6_addAll : GoodIn wsX6_settle (wsV RX6 72 RX6 yX6_addAll wsX6_addAll) := goodIn_app (goodIn_of _ (by decide +kernel)) ggX6_settle_X6_addAll
set_option maxRecDepth 20000 in
theorem ggX6_settle_X5_motherOf : GoodIn wsX6_settle wsX5_motherOf := goodIn_ca (goodIn_r _ [39, 40, 31, 13, 14, 15, 16, 17, 67, 68, 69, 70, 71, 72, 73, 74, 75] (by decide +kernel) (by decide +kernel)) (goodIn_sub (fun _ h => List.mem_cons_of_mem _ (List.mem_append_right _ h)) (by decide +kernel))
set_option maxRecDepth 20000 in
theorem gX6_settle_X5_motherOf : GoodIn wsX6_settle (wsV RX6 76 RX5 yX5_motherOf wsX5_motherOf) := goodIn_app (goodIn_of _ (by decide +kernel)) ggX6_settle_X5_motherOf
set_option maxRecDepth 20000 in
theorem ggX6_settle_X0_bringsQuarters : GoodIn wsX6_settle wsX0_bringsQuarters := goodIn_ca (goodIn_r _ [44, 10, 45, 46, 47, 48, 15, 49, 50, 30, 51, 52, 31, 13, 14, 16, 17, 12, 53, 54, 55, 56, 76, 77, 78, 79, 80, 81, 82, 83, 84, 85, 86, 67, 68, 69, 70, 71, 72, 73, 74, 75] (by decide +kernel) (by decide +kernel)) (goodIn_sub (fun _ h => List.mem_cons_of_mem _ (List.mem_append_right _ h)) (by decide +kernel))
set_option maxRecDepth 20000 in
theorem gX6_settle_X0_bringsQuarters : GoodIn wsX6_settle (wsV RX6 79 RX0 yX0_bringsQuarters wsX0_bringsQuarters) := goodIn_app (goodIn_of _ (by decide +kernel)) ggX6_settle_X0_bringsQuarters
theorem dX6_settle_0 : decode cX6_settle 0 = .ok (.iconst 0, 1) := by decide +kernel
theorem dX6_settle_1 : decode cX6_settle 1 = .ok (.istore_n 1, 1) := by decide +kernel
theorem dX6_settle_2 : decode cX6_settle 2 = .ok (.iload_n 1, 1) := by decide +kernel
theorem dX6_settle_3 : decode cX6_settle 3 = .ok (.aload_n 0, 1) := by decide +kernel
theorem dX6_settle_4 : decode cX6_settle 4 = .ok (.getfield 33, 3) := by decide +kernel
theorem dX6_settle_7 : decode cX6_settle 7 = .ok (.getfield 53, 3) := by decide +kernel
theorem dX6_settle_10 : decode cX6_settle 10 = .ok (.if_icmp .ge 86, 3) := by decide +kernel
theorem dX6_settle_13 : decode cX6_settle 13 = .ok (.iload_n 1, 1) := by decide +kernel
theorem dX6_settle_14 : decode cX6_settle 14 = .ok (.bipush 40, 2) := by decide +kernel
theorem dX6_settle_16 : decode cX6_settle 16 = .ok (.if_icmp .ge 80, 3) := by decide +kernel
theorem dX6_settle_19 : decode cX6_settle 19 = .ok (.aload_n 0, 1) := by decide +kernel
theorem dX6_settle_20 : decode cX6_settle 20 = .ok (.getfield 19, 3) := by decide +kernel
theorem dX6_settle_23 : decode cX6_settle 23 = .ok (.iload_n 1, 1) := by decide +kernel
theorem dX6_settle_24 : decode cX6_settle 24 = .ok (.iconst 0, 1) := by decide +kernel
theorem dX6_settle_25 : decode cX6_settle 25 = .ok (.iastore, 1) := by decide +kernel
theorem dX6_settle_26 : decode cX6_settle 26 = .ok (.aload_n 0, 1) := by decide +kernel
theorem dX6_settle_27 : decode cX6_settle 27 = .ok (.getfield 41, 3) := by decide +kernel
theorem dX6_settle_30 : decode cX6_settle 30 = .ok (.iload_n 1, 1) := by decide +kernel
theorem dX6_settle_31 : decode cX6_settle 31 = .ok (.invokevirtual 59, 3) := by decide +kernel
theorem dX6_settle_34 : decode cX6_settle 34 = .ok (.istore_n 2, 1) := by decide +kernel
theorem dX6_settle_35 : decode cX6_settle 35 = .ok (.iload_n 2, 1) := by decide +kernel
theorem dX6_settle_36 : decode cX6_settle 36 = .ok (.ifCond .lt 54, 3) := by decide +kernel
theorem dX6_settle_39 : decode cX6_settle 39 = .ok (.aload_n 0, 1) := by decide +kernel
theorem dX6_settle_40 : decode cX6_settle 40 = .ok (.iload_n 1, 1) := by decide +kernel
theorem dX6_settle_41 : decode cX6_settle 41 = .ok (.iload_n 2, 1) := by decide +kernel
theorem dX6_settle_42 : decode cX6_settle 42 = .ok (.iload_n 1, 1) := by decide +kernel
theorem dX6_settle_43 : decode cX6_settle 43 = .ok (.invokevirtual 65, 3) := by decide +kernel
theorem dX6_settle_46 : decode cX6_settle 46 = .ok (.aload_n 0, 1) := by decide +kernel
theorem dX6_settle_47 : decode cX6_settle 47 = .ok (.iload_n 1, 1) := by decide +kernel
theorem dX6_settle_48 : decode cX6_settle 48 = .ok (.aload_n 0, 1) := by decide +kernel
theorem dX6_settle_49 : decode cX6_settle 49 = .ok (.getfield 33, 3) := by decide +kernel
theorem dX6_settle_52 : decode cX6_settle 52 = .ok (.iload_n 1, 1) := by decide +kernel
theorem dX6_settle_53 : decode cX6_settle 53 = .ok (.invokevirtual 69, 3) := by decide +kernel
theorem dX6_settle_56 : decode cX6_settle 56 = .ok (.invokevirtual 72, 3) := by decide +kernel
theorem dX6_settle_59 : decode cX6_settle 59 = .ok (.aload_n 0, 1) := by decide +kernel
theorem dX6_settle_60 : decode cX6_settle 60 = .ok (.getfield 41, 3) := by decide +kernel
theorem dX6_settle_63 : decode cX6_settle 63 = .ok (.aload_n 0, 1) := by decide +kernel
theorem dX6_settle_64 : decode cX6_settle 64 = .ok (.getfield 33, 3) := by decide +kernel
theorem dX6_settle_67 : decode cX6_settle 67 = .ok (.iload_n 1, 1) := by decide +kernel
theorem dX6_settle_68 : decode cX6_settle 68 = .ok (.invokevirtual 76, 3) := by decide +kernel
theorem dX6_settle_71 : decode cX6_settle 71 = .ok (.invokevirtual 79, 3) := by decide +kernel
theorem dX6_settle_74 : decode cX6_settle 74 = .ok (.ifCond .eq 16, 3) := by decide +kernel
theorem dX6_settle_77 : decode cX6_settle 77 = .ok (.aload_n 0, 1) := by decide +kernel
theorem dX6_settle_78 : decode cX6_settle 78 = .ok (.iload_n 1, 1) := by decide +kernel
theorem dX6_settle_79 : decode cX6_settle 79 = .ok (.aload_n 0, 1) := by decide +kernel
theorem dX6_settle_80 : decode cX6_settle 80 = .ok (.getfield 33, 3) := by decide +kernel
theorem dX6_settle_83 : decode cX6_settle 83 = .ok (.iload_n 1, 1) := by decide +kernel
theorem dX6_settle_84 : decode cX6_settle 84 = .ok (.invokevirtual 76, 3) := by decide +kernel
theorem dX6_settle_87 : decode cX6_settle 87 = .ok (.invokevirtual 72, 3) := by decide +kernel
theorem dX6_settle_90 : decode cX6_settle 90 = .ok (.iinc 1 1, 3) := by decide +kernel
theorem dX6_settle_93 : decode cX6_settle 93 = .ok (.goto (-91), 3) := by decide +kernel
theorem dX6_settle_96 : decode cX6_settle 96 = .ok (.return_, 1) := by decide +kernel
set_option maxRecDepth 20000 in
theorem ggX6_addAll_X5_has : GoodIn wsX6_addAll wsX5_has := goodIn_r _ [9, 10, 26, 27, 28, 29, 30, 31, 32, 33, 34] (by decide +kernel) (by decide +kernel)
set_option maxRecDepth 20000 in
theorem gX6_addAll_X5_has : GoodIn wsX6_addAll (wsV RX6 83 RX5 yX5_has wsX5_has) := goodIn_app (goodIn_of _ (by decide +kernel)) ggX6_addAll_X5_has
set_option maxRecDepth 20000 in
theorem ggX6_addAll_X6_add : GoodIn wsX6_addAll wsX6_add := goodIn_ca (goodIn_r _ [15, 1, 2, 3, 4, 5, 6, 7, 8, 9, 10, 16, 17, 18, 19, 20, 21, 22, 23, 24, 25, 26, 27, 28, 29, 30, 31, 32, 33, 34] (by decide +kernel) (by decide +kernel)) (goodIn_sub (fun _ h => List.mem_cons_of_mem _ (List.mem_append_right _ h)) (by decide +kernel))
set_option maxRecDepth 20000 in
theorem gX6_addAll_X6_add : GoodIn wsX6_addAll (wsV RX6 65 RX6 yX6_add wsX6_add) := goodIn_app (goodIn_of _ (by decide +kernel)) ggX6_addAll_X6_add
theorem dX6_addAll_0 : decode cX6_addAll 0 = .ok (.aload_n 0, 1) := by decide +kernel
theorem dX6_addAll_1 : decode cX6_addAll 1 = .ok (.getfield 33, 3) := by decide +kernel
theorem dX6_addAll_4 : decode cX6_addAll 4 = .ok (.iload_n 2, 1) := by decide +kernel
theorem dX6_addAll_5 : decode cX6_addAll 5 = .ok (.invokevirtual 83, 3) := by decide +kernel
theorem dX6_addAll_8 : decode cX6_addAll 8 = .ok (.ifCond .eq 48, 3) := by decide +kernel
theorem dX6_addAll_11 : decode cX6_addAll 11 = .ok (.iconst 0, 1) := by decide +kernel
theorem dX6_addAll_12 : decode cX6_addAll 12 = .ok (.istore_n 3, 1) := by decide +kernel
theorem dX6_addAll_13 : decode cX6_addAll 13 = .ok (.iload_n 3, 1) := by decide +kernel
theorem dX6_addAll_14 : decode cX6_addAll 14 = .ok (.aload_n 0, 1) := by decide +kernel
theorem dX6_addAll_15 : decode cX6_addAll 15 = .ok (.getfield 19, 3) := by decide +kernel
theorem dX6_addAll_18 : decode cX6_addAll 18 = .ok (.iload_n 2, 1) := by decide +kernel
theorem dX6_addAll_19 : decode cX6_addAll 19 = .ok (.iaload, 1) := by decide +kernel
theorem dX6_addAll_20 : decode cX6_addAll 20 = .ok (.if_icmp .ge 36, 3) := by decide +kernel
theorem dX6_addAll_23 : decode cX6_addAll 23 = .ok (.iload_n 3, 1) := by decide +kernel
theorem dX6_addAll_24 : decode cX6_addAll 24 = .ok (.bipush 8, 2) := by decide +kernel
theorem dX6_addAll_26 : decode cX6_addAll 26 = .ok (.if_icmp .ge 30, 3) := by decide +kernel
theorem dX6_addAll_29 : decode cX6_addAll 29 = .ok (.aload_n 0, 1) := by decide +kernel
theorem dX6_addAll_30 : decode cX6_addAll 30 = .ok (.iload_n 1, 1) := by decide +kernel
theorem dX6_addAll_31 : decode cX6_addAll 31 = .ok (.aload_n 0, 1) := by decide +kernel
theorem dX6_addAll_32 : decode cX6_addAll 32 = .ok (.getfield 11, 3) := by decide +kernel
theorem dX6_addAll_35 : decode cX6_addAll 35 = .ok (.iload_n 2, 1) := by decide +kernel
theorem dX6_addAll_36 : decode cX6_addAll 36 = .ok (.aaload, 1) := by decide +kernel
theorem dX6_addAll_37 : decode cX6_addAll 37 = .ok (.iload_n 3, 1) := by decide +kernel
theorem dX6_addAll_38 : decode cX6_addAll 38 = .ok (.iaload, 1) := by decide +kernel
theorem dX6_addAll_39 : decode cX6_addAll 39 = .ok (.aload_n 0, 1) := by decide +kernel
theorem dX6_addAll_40 : decode cX6_addAll 40 = .ok (.getfield 16, 3) := by decide +kernel
theorem dX6_addAll_43 : decode cX6_addAll 43 = .ok (.iload_n 2, 1) := by decide +kernel
theorem dX6_addAll_44 : decode cX6_addAll 44 = .ok (.aaload, 1) := by decide +kernel
theorem dX6_addAll_45 : decode cX6_addAll 45 = .ok (.iload_n 3, 1) := by decide +kernel
theorem dX6_addAll_46 : decode cX6_addAll 46 = .ok (.iaload, 1) := by decide +kernel
theorem dX6_addAll_47 : decode cX6_addAll 47 = .ok (.invokevirtual 65, 3) := by decide +kernel
theorem dX6_addAll_50 : decode cX6_addAll 50 = .ok (.iinc 3 1, 3) := by decide +kernel
theorem dX6_addAll_53 : decode cX6_addAll 53 = .ok (.goto (-40), 3) := by decide +kernel
theorem dX6_addAll_56 : decode cX6_addAll 56 = .ok (.return_, 1) := by decide +kernel
set_option maxRecDepth 20000 in
theorem ggX6_add_X5_has : GoodIn wsX6_add wsX5_has := goodIn_r _ [9, 10, 21, 22, 23, 24, 25, 26, 27, 28, 29] (by decide +kernel) (by decide +kernel)
set_option maxRecDepth 20000 in
theorem gX6_add_X5_has : GoodIn wsX6_add (wsV RX6 83 RX5 yX5_has wsX5_has) := goodIn_app (goodIn_of _ (by decide +kernel)) ggX6_add_X5_has
theorem dX6_add_0 : decode cX6_add 0 = .ok (.aload_n 0, 1) := by decide +kernel
theorem dX6_add_1 : decode cX6_add 1 = .ok (.getfield 33, 3) := by decide +kernel
theorem dX6_add_4 : decode cX6_add 4 = .ok (.iload_n 1, 1) := by decide +kernel
theorem dX6_add_5 : decode cX6_add 5 = .ok (.invokevirtual 83, 3) := by decide +kernel
theorem dX6_add_8 : decode cX6_add 8 = .ok (.ifCond .eq 23, 3) := by decide +kernel
theorem dX6_add_11 : decode cX6_add 11 = .ok (.aload_n 0, 1) := by decide +kernel
theorem dX6_add_12 : decode cX6_add 12 = .ok (.getfield 19, 3) := by decide +kernel
theorem dX6_add_15 : decode cX6_add 15 = .ok (.iload_n 1, 1) := by decide +kernel
theorem dX6_add_16 : decode cX6_add 16 = .ok (.iaload, 1) := by decide +kernel
theorem dX6_add_17 : decode cX6_add 17 = .ok (.ifCond .lt 14, 3) := by decide +kernel
theorem dX6_add_20 : decode cX6_add 20 = .ok (.aload_n 0, 1) := by decide +kernel
theorem dX6_add_21 : decode cX6_add 21 = .ok (.getfield 19, 3) := by decide +kernel
theorem dX6_add_24 : decode cX6_add 24 = .ok (.iload_n 1, 1) := by decide +kernel
theorem dX6_add_25 : decode cX6_add 25 = .ok (.iaload, 1) := by decide +kernel
theorem dX6_add_26 : decode cX6_add 26 = .ok (.bipush 8, 2) := by decide +kernel
theorem dX6_add_28 : decode cX6_add 28 = .ok (.if_icmp .lt 4, 3) := by decide +kernel
theorem dX6_add_31 : decode cX6_add 31 = .ok (.return_, 1) := by decide +kernel
theorem dX6_add_32 : decode cX6_add 32 = .ok (.aload_n 0, 1) := by decide +kernel
theorem dX6_add_33 : decode cX6_add 33 = .ok (.getfield 19, 3) := by decide +kernel
theorem dX6_add_36 : decode cX6_add 36 = .ok (.iload_n 1, 1) := by decide +kernel
theorem dX6_add_37 : decode cX6_add 37 = .ok (.iaload, 1) := by decide +kernel
theorem dX6_add_38 : decode cX6_add 38 = .ok (.istore 4, 2) := by decide +kernel
theorem dX6_add_40 : decode cX6_add 40 = .ok (.iconst 0, 1) := by decide +kernel
theorem dX6_add_41 : decode cX6_add 41 = .ok (.istore 5, 2) := by decide +kernel
theorem dX6_add_43 : decode cX6_add 43 = .ok (.iload 5, 2) := by decide +kernel
theorem dX6_add_45 : decode cX6_add 45 = .ok (.iload 4, 2) := by decide +kernel
theorem dX6_add_47 : decode cX6_add 47 = .ok (.if_icmp .ge 23, 3) := by decide +kernel
theorem dX6_add_50 : decode cX6_add 50 = .ok (.aload_n 0, 1) := by decide +kernel
theorem dX6_add_51 : decode cX6_add 51 = .ok (.getfield 11, 3) := by decide +kernel
theorem dX6_add_54 : decode cX6_add 54 = .ok (.iload_n 1, 1) := by decide +kernel
theorem dX6_add_55 : decode cX6_add 55 = .ok (.aaload, 1) := by decide +kernel
theorem dX6_add_56 : decode cX6_add 56 = .ok (.iload 5, 2) := by decide +kernel
theorem dX6_add_58 : decode cX6_add 58 = .ok (.iaload, 1) := by decide +kernel
theorem dX6_add_59 : decode cX6_add 59 = .ok (.iload_n 2, 1) := by decide +kernel
theorem dX6_add_60 : decode cX6_add 60 = .ok (.if_icmp .ne 4, 3) := by decide +kernel
theorem dX6_add_63 : decode cX6_add 63 = .ok (.return_, 1) := by decide +kernel
theorem dX6_add_64 : decode cX6_add 64 = .ok (.iinc 5 1, 3) := by decide +kernel
theorem dX6_add_67 : decode cX6_add 67 = .ok (.goto (-24), 3) := by decide +kernel
theorem dX6_add_70 : decode cX6_add 70 = .ok (.aload_n 0, 1) := by decide +kernel
theorem dX6_add_71 : decode cX6_add 71 = .ok (.getfield 11, 3) := by decide +kernel
theorem dX6_add_74 : decode cX6_add 74 = .ok (.iload_n 1, 1) := by decide +kernel
theorem dX6_add_75 : decode cX6_add 75 = .ok (.aaload, 1) := by decide +kernel
theorem dX6_add_76 : decode cX6_add 76 = .ok (.iload 4, 2) := by decide +kernel
theorem dX6_add_78 : decode cX6_add 78 = .ok (.iload_n 2, 1) := by decide +kernel
theorem dX6_add_79 : decode cX6_add 79 = .ok (.iastore, 1) := by decide +kernel
theorem dX6_add_80 : decode cX6_add 80 = .ok (.aload_n 0, 1) := by decide +kernel
theorem dX6_add_81 : decode cX6_add 81 = .ok (.getfield 16, 3) := by decide +kernel
theorem dX6_add_84 : decode cX6_add 84 = .ok (.iload_n 1, 1) := by decide +kernel
theorem dX6_add_85 : decode cX6_add 85 = .ok (.aaload, 1) := by decide +kernel
theorem dX6_add_86 : decode cX6_add 86 = .ok (.iload 4, 2) := by decide +kernel
theorem dX6_add_88 : decode cX6_add 88 = .ok (.iload_n 3, 1) := by decide +kernel
theorem dX6_add_89 : decode cX6_add 89 = .ok (.iastore, 1) := by decide +kernel
theorem dX6_add_90 : decode cX6_add 90 = .ok (.aload_n 0, 1) := by decide +kernel
theorem dX6_add_91 : decode cX6_add 91 = .ok (.getfield 19, 3) := by decide +kernel
theorem dX6_add_94 : decode cX6_add 94 = .ok (.iload_n 1, 1) := by decide +kernel
theorem dX6_add_95 : decode cX6_add 95 = .ok (.iload 4, 2) := by decide +kernel
theorem dX6_add_97 : decode cX6_add 97 = .ok (.iconst 1, 1) := by decide +kernel
theorem dX6_add_98 : decode cX6_add 98 = .ok (.iadd, 1) := by decide +kernel
theorem dX6_add_99 : decode cX6_add 99 = .ok (.iastore, 1) := by decide +kernel
theorem dX6_add_100 : decode cX6_add 100 = .ok (.return_, 1) := by decide +kernel
set_option maxRecDepth 20000 in
theorem ggX6_quarterCount_X5_has : GoodIn wsX6_quarterCount wsX5_has := goodIn_r _ [7, 8, 19, 20, 21, 22, 23, 24, 25, 26, 27] (by decide +kernel) (by decide +kernel)
set_option maxRecDepth 20000 in
theorem gX6_quarterCount_X5_has : GoodIn wsX6_quarterCount (wsV RX6 83 RX5 yX5_has wsX5_has) := goodIn_app (goodIn_of _ (by decide +kernel)) ggX6_quarterCount_X5_has
theorem dX6_quarterCount_0 : decode cX6_quarterCount 0 = .ok (.aload_n 0, 1) := by decide +kernel
theorem dX6_quarterCount_1 : decode cX6_quarterCount 1 = .ok (.getfield 33, 3) := by decide +kernel
theorem dX6_quarterCount_4 : decode cX6_quarterCount 4 = .ok (.iload_n 1, 1) := by decide +kernel
theorem dX6_quarterCount_5 : decode cX6_quarterCount 5 = .ok (.invokevirtual 83, 3) := by decide +kernel
theorem dX6_quarterCount_8 : decode cX6_quarterCount 8 = .ok (.ifCond .eq 12, 3) := by decide +kernel
theorem dX6_quarterCount_11 : decode cX6_quarterCount 11 = .ok (.aload_n 0, 1) := by decide +kernel
theorem dX6_quarterCount_12 : decode cX6_quarterCount 12 = .ok (.getfield 19, 3) := by decide +kernel
theorem dX6_quarterCount_15 : decode cX6_quarterCount 15 = .ok (.iload_n 1, 1) := by decide +kernel
theorem dX6_quarterCount_16 : decode cX6_quarterCount 16 = .ok (.iaload, 1) := by decide +kernel
theorem dX6_quarterCount_17 : decode cX6_quarterCount 17 = .ok (.goto 4, 3) := by decide +kernel
theorem dX6_quarterCount_20 : decode cX6_quarterCount 20 = .ok (.iconst 0, 1) := by decide +kernel
theorem dX6_quarterCount_21 : decode cX6_quarterCount 21 = .ok (.ireturn, 1) := by decide +kernel
set_option maxRecDepth 20000 in
theorem ggX6_armsAt_X5_has : GoodIn wsX6_armsAt wsX5_has := goodIn_r _ [7, 8, 19, 20, 21, 22, 23, 24, 25, 26, 27] (by decide +kernel) (by decide +kernel)
set_option maxRecDepth 20000 in
theorem gX6_armsAt_X5_has : GoodIn wsX6_armsAt (wsV RX6 83 RX5 yX5_has wsX5_has) := goodIn_app (goodIn_of _ (by decide +kernel)) ggX6_armsAt_X5_has
theorem dX6_armsAt_0 : decode cX6_armsAt 0 = .ok (.aload_n 0, 1) := by decide +kernel
theorem dX6_armsAt_1 : decode cX6_armsAt 1 = .ok (.getfield 33, 3) := by decide +kernel
theorem dX6_armsAt_4 : decode cX6_armsAt 4 = .ok (.iload_n 1, 1) := by decide +kernel
theorem dX6_armsAt_5 : decode cX6_armsAt 5 = .ok (.invokevirtual 83, 3) := by decide +kernel
theorem dX6_armsAt_8 : decode cX6_armsAt 8 = .ok (.ifCond .eq 24, 3) := by decide +kernel
theorem dX6_armsAt_11 : decode cX6_armsAt 11 = .ok (.iload_n 2, 1) := by decide +kernel
theorem dX6_armsAt_12 : decode cX6_armsAt 12 = .ok (.ifCond .lt 20, 3) := by decide +kernel
theorem dX6_armsAt_15 : decode cX6_armsAt 15 = .ok (.iload_n 2, 1) := by decide +kernel
theorem dX6_armsAt_16 : decode cX6_armsAt 16 = .ok (.bipush 8, 2) := by decide +kernel
theorem dX6_armsAt_18 : decode cX6_armsAt 18 = .ok (.if_icmp .ge 14, 3) := by decide +kernel
theorem dX6_armsAt_21 : decode cX6_armsAt 21 = .ok (.aload_n 0, 1) := by decide +kernel
theorem dX6_armsAt_22 : decode cX6_armsAt 22 = .ok (.getfield 11, 3) := by decide +kernel
theorem dX6_armsAt_25 : decode cX6_armsAt 25 = .ok (.iload_n 1, 1) := by decide +kernel
theorem dX6_armsAt_26 : decode cX6_armsAt 26 = .ok (.aaload, 1) := by decide +kernel
theorem dX6_armsAt_27 : decode cX6_armsAt 27 = .ok (.iload_n 2, 1) := by decide +kernel
theorem dX6_armsAt_28 : decode cX6_armsAt 28 = .ok (.iaload, 1) := by decide +kernel
theorem dX6_armsAt_29 : decode cX6_armsAt 29 = .ok (.goto 4, 3) := by decide +kernel
theorem dX6_armsAt_32 : decode cX6_armsAt 32 = .ok (.iconst (-1), 1) := by decide +kernel
theorem dX6_armsAt_33 : decode cX6_armsAt 33 = .ok (.ireturn, 1) := by decide +kernel
set_option maxRecDepth 20000 in
theorem ggX6_bearerAt_X5_has : GoodIn wsX6_bearerAt wsX5_has := goodIn_r _ [7, 8, 19, 20, 21, 22, 23, 24, 25, 26, 27] (by decide +kernel) (by decide +kernel)
set_option maxRecDepth 20000 in
theorem gX6_bearerAt_X5_has : GoodIn wsX6_bearerAt (wsV RX6 83 RX5 yX5_has wsX5_has) := goodIn_app (goodIn_of _ (by decide +kernel)) ggX6_bearerAt_X5_has
theorem dX6_bearerAt_0 : decode cX6_bearerAt 0 = .ok (.aload_n 0, 1) := by decide +kernel
theorem dX6_bearerAt_1 : decode cX6_bearerAt 1 = .ok (.getfield 33, 3) := by decide +kernel
theorem dX6_bearerAt_4 : decode cX6_bearerAt 4 = .ok (.iload_n 1, 1) := by decide +kernel
theorem dX6_bearerAt_5 : decode cX6_bearerAt 5 = .ok (.invokevirtual 83, 3) := by decide +kernel
theorem dX6_bearerAt_8 : decode cX6_bearerAt 8 = .ok (.ifCond .eq 24, 3) := by decide +kernel
theorem dX6_bearerAt_11 : decode cX6_bearerAt 11 = .ok (.iload_n 2, 1) := by decide +kernel
theorem dX6_bearerAt_12 : decode cX6_bearerAt 12 = .ok (.ifCond .lt 20, 3) := by decide +kernel
theorem dX6_bearerAt_15 : decode cX6_bearerAt 15 = .ok (.iload_n 2, 1) := by decide +kernel
theorem dX6_bearerAt_16 : decode cX6_bearerAt 16 = .ok (.bipush 8, 2) := by decide +kernel
theorem dX6_bearerAt_18 : decode cX6_bearerAt 18 = .ok (.if_icmp .ge 14, 3) := by decide +kernel
theorem dX6_bearerAt_21 : decode cX6_bearerAt 21 = .ok (.aload_n 0, 1) := by decide +kernel
theorem dX6_bearerAt_22 : decode cX6_bearerAt 22 = .ok (.getfield 16, 3) := by decide +kernel
theorem dX6_bearerAt_25 : decode cX6_bearerAt 25 = .ok (.iload_n 1, 1) := by decide +kernel
theorem dX6_bearerAt_26 : decode cX6_bearerAt 26 = .ok (.aaload, 1) := by decide +kernel
theorem dX6_bearerAt_27 : decode cX6_bearerAt 27 = .ok (.iload_n 2, 1) := by decide +kernel
theorem dX6_bearerAt_28 : decode cX6_bearerAt 28 = .ok (.iaload, 1) := by decide +kernel
theorem dX6_bearerAt_29 : decode cX6_bearerAt 29 = .ok (.goto 4, 3) := by decide +kernel
theorem dX6_bearerAt_32 : decode cX6_bearerAt 32 = .ok (.iconst (-1), 1) := by decide +kernel
theorem dX6_bearerAt_33 : decode cX6_bearerAt 33 = .ok (.ireturn, 1) := by decide +kernel
set_option maxRecDepth 20000 in
theorem ggX6_areProved_X5_isForebear : GoodIn wsX6_areProved wsX5_isForebear := goodIn_ca (goodIn_r _ [11, 12, 13, 14, 15, 16, 17, 10, 18, 19, 20, 21, 22, 23, 42, 43, 44, 45, 46, 47, 48, 49, 50] (by decide +kernel) (by decide +kernel)) (goodIn_sub (fun _ h => List.mem_cons_of_mem _ (List.mem_append_right _ h)) (by decide +kernel))
set_option maxRecDepth 20000 in
theorem gX6_areProved_X5_isForebear : GoodIn wsX6_areProved (wsV RX6 86 RX5 yX5_isForebear wsX5_isForebear) := goodIn_app (goodIn_of _ (by decide +kernel)) ggX6_areProved_X5_isForebear
set_option maxRecDepth 20000 in
theorem ggX6_areProved_X0_armsOf : GoodIn wsX6_areProved wsX0_armsOf := goodIn_ca (goodIn_r _ [28, 29, 30, 31, 16, 17, 10, 18, 19, 51, 52, 53, 54, 55, 56, 57, 58, 59, 60, 61, 42, 43, 44, 45, 46, 47, 48, 49, 50] (by decide +kernel) (by decide +kernel)) (goodIn_sub (fun _ h => List.mem_cons_of_mem _ (List.mem_append_right _ h)) (by decide +kernel))
set_option maxRecDepth 20000 in
theorem gX6_areProved_X0_armsOf : GoodIn wsX6_areProved (wsV RX6 59 RX0 yX0_armsOf wsX0_armsOf) := goodIn_app (goodIn_of _ (by decide +kernel)) ggX6_areProved_X0_armsOf
theorem dX6_areProved_0 : decode cX6_areProved 0 = .ok (.iconst 0, 1) := by decide +kernel
theorem dX6_areProved_1 : decode cX6_areProved 1 = .ok (.istore_n 1, 1) := by decide +kernel
theorem dX6_areProved_2 : decode cX6_areProved 2 = .ok (.iload_n 1, 1) := by decide +kernel
theorem dX6_areProved_3 : decode cX6_areProved 3 = .ok (.aload_n 0, 1) := by decide +kernel
theorem dX6_areProved_4 : decode cX6_areProved 4 = .ok (.getfield 33, 3) := by decide +kernel
theorem dX6_areProved_7 : decode cX6_areProved 7 = .ok (.getfield 53, 3) := by decide +kernel
theorem dX6_areProved_10 : decode cX6_areProved 10 = .ok (.if_icmp .ge 81, 3) := by decide +kernel
theorem dX6_areProved_13 : decode cX6_areProved 13 = .ok (.iload_n 1, 1) := by decide +kernel
theorem dX6_areProved_14 : decode cX6_areProved 14 = .ok (.bipush 40, 2) := by decide +kernel
theorem dX6_areProved_16 : decode cX6_areProved 16 = .ok (.if_icmp .ge 75, 3) := by decide +kernel
theorem dX6_areProved_19 : decode cX6_areProved 19 = .ok (.iconst 0, 1) := by decide +kernel
theorem dX6_areProved_20 : decode cX6_areProved 20 = .ok (.istore_n 2, 1) := by decide +kernel
theorem dX6_areProved_21 : decode cX6_areProved 21 = .ok (.iload_n 2, 1) := by decide +kernel
theorem dX6_areProved_22 : decode cX6_areProved 22 = .ok (.aload_n 0, 1) := by decide +kernel
theorem dX6_areProved_23 : decode cX6_areProved 23 = .ok (.getfield 19, 3) := by decide +kernel
theorem dX6_areProved_26 : decode cX6_areProved 26 = .ok (.iload_n 1, 1) := by decide +kernel
theorem dX6_areProved_27 : decode cX6_areProved 27 = .ok (.iaload, 1) := by decide +kernel
theorem dX6_areProved_28 : decode cX6_areProved 28 = .ok (.if_icmp .ge 57, 3) := by decide +kernel
theorem dX6_areProved_31 : decode cX6_areProved 31 = .ok (.iload_n 2, 1) := by decide +kernel
theorem dX6_areProved_32 : decode cX6_areProved 32 = .ok (.bipush 8, 2) := by decide +kernel
theorem dX6_areProved_34 : decode cX6_areProved 34 = .ok (.if_icmp .ge 51, 3) := by decide +kernel
theorem dX6_areProved_37 : decode cX6_areProved 37 = .ok (.aload_n 0, 1) := by decide +kernel
theorem dX6_areProved_38 : decode cX6_areProved 38 = .ok (.getfield 16, 3) := by decide +kernel
theorem dX6_areProved_41 : decode cX6_areProved 41 = .ok (.iload_n 1, 1) := by decide +kernel
theorem dX6_areProved_42 : decode cX6_areProved 42 = .ok (.aaload, 1) := by decide +kernel
theorem dX6_areProved_43 : decode cX6_areProved 43 = .ok (.iload_n 2, 1) := by decide +kernel
theorem dX6_areProved_44 : decode cX6_areProved 44 = .ok (.iaload, 1) := by decide +kernel
theorem dX6_areProved_45 : decode cX6_areProved 45 = .ok (.istore_n 3, 1) := by decide +kernel
theorem dX6_areProved_46 : decode cX6_areProved 46 = .ok (.aload_n 0, 1) := by decide +kernel
theorem dX6_areProved_47 : decode cX6_areProved 47 = .ok (.getfield 33, 3) := by decide +kernel
theorem dX6_areProved_50 : decode cX6_areProved 50 = .ok (.iload_n 3, 1) := by decide +kernel
theorem dX6_areProved_51 : decode cX6_areProved 51 = .ok (.iload_n 1, 1) := by decide +kernel
theorem dX6_areProved_52 : decode cX6_areProved 52 = .ok (.invokevirtual 86, 3) := by decide +kernel
theorem dX6_areProved_55 : decode cX6_areProved 55 = .ok (.ifCond .eq 22, 3) := by decide +kernel
theorem dX6_areProved_58 : decode cX6_areProved 58 = .ok (.aload_n 0, 1) := by decide +kernel
theorem dX6_areProved_59 : decode cX6_areProved 59 = .ok (.getfield 41, 3) := by decide +kernel
theorem dX6_areProved_62 : decode cX6_areProved 62 = .ok (.iload_n 3, 1) := by decide +kernel
theorem dX6_areProved_63 : decode cX6_areProved 63 = .ok (.invokevirtual 59, 3) := by decide +kernel
theorem dX6_areProved_66 : decode cX6_areProved 66 = .ok (.aload_n 0, 1) := by decide +kernel
theorem dX6_areProved_67 : decode cX6_areProved 67 = .ok (.getfield 11, 3) := by decide +kernel
theorem dX6_areProved_70 : decode cX6_areProved 70 = .ok (.iload_n 1, 1) := by decide +kernel
theorem dX6_areProved_71 : decode cX6_areProved 71 = .ok (.aaload, 1) := by decide +kernel
theorem dX6_areProved_72 : decode cX6_areProved 72 = .ok (.iload_n 2, 1) := by decide +kernel
theorem dX6_areProved_73 : decode cX6_areProved 73 = .ok (.iaload, 1) := by decide +kernel
theorem dX6_areProved_74 : decode cX6_areProved 74 = .ok (.if_icmp .eq 5, 3) := by decide +kernel
theorem dX6_areProved_77 : decode cX6_areProved 77 = .ok (.iconst 0, 1) := by decide +kernel
theorem dX6_areProved_78 : decode cX6_areProved 78 = .ok (.ireturn, 1) := by decide +kernel
theorem dX6_areProved_79 : decode cX6_areProved 79 = .ok (.iinc 2 1, 3) := by decide +kernel
theorem dX6_areProved_82 : decode cX6_areProved 82 = .ok (.goto (-61), 3) := by decide +kernel
theorem dX6_areProved_85 : decode cX6_areProved 85 = .ok (.iinc 1 1, 3) := by decide +kernel
theorem dX6_areProved_88 : decode cX6_areProved 88 = .ok (.goto (-86), 3) := by decide +kernel
theorem dX6_areProved_91 : decode cX6_areProved 91 = .ok (.iconst 1, 1) := by decide +kernel
theorem dX6_areProved_92 : decode cX6_areProved 92 = .ok (.ireturn, 1) := by decide +kernel
set_option maxRecDepth 20000 in
theorem ggX6_paintShield_X6_paintQuarters : GoodIn wsX6_paintShield wsX6_paintQuarters := goodIn_ca (goodIn_r _ [9, 1, 10, 11, 12, 13, 14, 15, 16, 17, 18, 19, 20, 21, 22, 23, 8, 24, 2, 25, 26, 27, 28, 29, 30, 31, 32, 33, 34, 35, 36, 37, 38, 39, 40, 41, 42, 43, 44, 45, 46, 47, 48, 49, 50, 51, 52, 53, 54, 55, 56, 57, 58, 59, 60, 61, 62, 63, 64, 65, 66, 67, 68, 69, 70, 71, 72, 73, 74, 75, 76, 77, 78, 79, 80, 81, 82, 83, 84, 85, 86, 87, 88, 89, 90, 91, 92, 93, 94, 95, 96, 97, 98, 99, 100, 101, 102, 103, 104, 105, 106, 107, 108, 109, 110, 111, 112, 113, 114, 115, 116, 117, 118, 119, 120, 121, 122, 123, 124, 125, 126, 127, 128, 129, 130, 131, 132, 133, 134, 135, 136, 137, 138, 139, 140, 141, 142, 143, 144, 145, 146, 147, 148, 149, 150, 151, 152, 153, 154, 155, 156, 157, 158, 159, 160, 161, 162, 163, 164, 165, 166, 167, 168, 169, 170, 171, 172, 173, 174, 175, 176, 177, 178, 179, 180, 181, 182, 183, 184, 185, 186, 187, 188, 189, 190, 191, 192, 193, 194, 195, 196, 197, 198, 199, 200, 201, 202, 203, 204, 205, 206, 207, 208, 209, 210, 211, 212, 213, 214, 215, 216, 217, 218, 219, 220, 221, 222, 223, 224, 225, 226, 227, 228, 229, 230, 231, 232, 233, 234, 235, 236, 280, 281, 282, 283, 284, 285, 286, 287, 288, 289, 290, 291, 292, 293, 294, 295, 296, 297, 298, 299, 300, 301, 302, 303, 304, 305, 306, 307, 308, 309, 310, 311, 312, 313, 314, 315, 316, 317, 318, 319, 320, 321, 322, 323, 324, 325, 326, 327, 328, 329, 330, 331, 332, 333, 334, 335, 336, 337, 338, 339, 340, 341, 342, 343, 344, 345, 346, 347, 348, 349, 350, 351, 352, 353, 354, 355, 356, 357, 358, 359, 360, 361, 362, 363, 364] (by decide +kernel) (by decide +kernel)) (goodIn_sub (fun _ h => List.mem_cons_of_mem _ (List.mem_append_right _ h)) (by decide +kernel))
set_option maxRecDepth 20000 in
theorem gX6_paintShield_X6_paintQuarters : GoodIn wsX6_paintShield (wsV RX6 90 RX6 yX6_paintQuarters wsX6_paintQuarters) := goodIn_app (goodIn_of _ (by decide +kernel)) ggX6_paintShield_X6_paintQuarters
set_option maxRecDepth 20000 in
theorem ggX6_paintShield_X5_isMan : GoodIn wsX6_paintShield wsX5_isMan := goodIn_ca (goodIn_r _ [240, 241, 242, 16, 17, 18, 19, 20, 290, 291, 292, 293, 294, 295, 296, 297, 298] (by decide +kernel) (by decide +kernel)) (goodIn_sub (fun _ h => List.mem_cons_of_mem _ (List.mem_append_right _ h)) (by decide +kernel))
set_option maxRecDepth 20000 in
theorem gX6_paintShield_X5_isMan : GoodIn wsX6_paintShield (wsV RX6 94 RX5 yX5_isMan wsX5_isMan) := goodIn_app (goodIn_of _ (by decide +kernel)) ggX6_paintShield_X5_isMan
set_option maxRecDepth 20000 in
theorem ggX6_paintShield_X5_spouseOf : GoodIn wsX6_paintShield wsX5_spouseOf := goodIn_ca (goodIn_r _ [246, 247, 242, 16, 17, 18, 19, 20, 290, 291, 292, 293, 294, 295, 296, 297, 298] (by decide +kernel) (by decide +kernel)) (goodIn_sub (fun _ h => List.mem_cons_of_mem _ (List.mem_append_right _ h)) (by decide +kernel))
set_option maxRecDepth 20000 in
theorem gX6_paintShield_X5_spouseOf : GoodIn wsX6_paintShield (wsV RX6 97 RX5 yX5_spouseOf wsX5_spouseOf) := goodIn_app (goodIn_of _ (by decide +kernel)) ggX6_paintShield_X5_spouseOf
set_option maxRecDepth 20000 in
theorem ggX6_paintShield_X0_armsOf : GoodIn wsX6_paintShield wsX0_armsOf := goodIn_ca (goodIn_r _ [32, 33, 34, 35, 16, 17, 18, 19, 20, 311, 312, 313, 314, 315, 316, 317, 318, 319, 320, 321, 290, 291, 292, 293, 294, 295, 296, 297, 298] (by decide +kernel) (by decide +kernel)) (goodIn_sub (fun _ h => List.mem_cons_of_mem _ (List.mem_append_right _ h)) (by decide +kernel))
set_option maxRecDepth 20000 in
theorem gX6_paintShield_X0_armsOf : GoodIn wsX6_paintShield (wsV RX6 59 RX0 yX0_armsOf wsX0_armsOf) := goodIn_app (goodIn_of _ (by decide +kernel)) ggX6_paintShield_X0_armsOf
set_option maxRecDepth 20000 in
theorem ggX6_paintShield_X6_paintAbatement : GoodIn wsX6_paintShield wsX6_paintAbatement := goodIn_ca (goodIn_r _ [251, 252, 253, 254, 255, 256, 257, 258, 259, 260, 261, 262, 263, 18, 264, 265, 242, 16, 17, 19, 20, 266, 167, 168, 94, 169, 99, 96, 102, 97, 100, 170, 107, 108, 109, 110, 111, 112, 113, 101, 280, 281, 282, 283, 284, 285, 286, 287, 288, 289, 365, 366, 367, 368, 369, 370, 371, 290, 291, 292, 293, 294, 295, 296, 297, 298, 347, 348, 349, 350, 351] (by decide +kernel) (by decide +kernel)) (goodIn_sub (fun _ h => List.mem_cons_of_mem _ (List.mem_append_right _ h)) (by decide +kernel))
set_option maxRecDepth 20000 in
theorem gX6_paintShield_X6_paintAbatement : GoodIn wsX6_paintShield (wsV RX6 100 RX6 yX6_paintAbatement wsX6_paintAbatement) := goodIn_app (goodIn_of _ (by decide +kernel)) ggX6_paintShield_X6_paintAbatement
set_option maxRecDepth 20000 in
theorem ggX6_paintShield_X5_isLastOfLine : GoodIn wsX6_paintShield wsX5_isLastOfLine := goodIn_ca (goodIn_r _ [270, 241, 271, 265, 272, 242, 16, 17, 18, 19, 20, 290, 291, 292, 293, 294, 295, 296, 297, 298] (by decide +kernel) (by decide +kernel)) (goodIn_sub (fun _ h => List.mem_cons_of_mem _ (List.mem_append_right _ h)) (by decide +kernel))
set_option maxRecDepth 20000 in
theorem gX6_paintShield_X5_isLastOfLine : GoodIn wsX6_paintShield (wsV RX6 103 RX5 yX5_isLastOfLine wsX5_isLastOfLine) := goodIn_app (goodIn_of _ (by decide +kernel)) ggX6_paintShield_X5_isLastOfLine
set_option maxRecDepth 20000 in
theorem ggX6_paintShield_X8_overlay : GoodIn wsX6_paintShield wsX8_overlay := goodIn_ca (goodIn_r _ [276, 170, 277, 278, 131, 279, 100, 102, 107, 108, 94, 109, 110, 111, 112, 113, 101, 347, 348, 349, 350, 351] (by decide +kernel) (by decide +kernel)) (goodIn_sub (fun _ h => List.mem_cons_of_mem _ (List.mem_append_right _ h)) (by decide +kernel))
set_option maxRecDepth 20000 in
theorem gX6_paintShield_X8_overlay : GoodIn wsX6_paintShield (wsV RX6 106 RX8 yX8_overlay wsX8_overlay) := goodIn_app (goodIn_of _ (by decide +kernel)) ggX6_paintShield_X8_overlay
theorem dX6_paintShield_0 : decode cX6_paintShield 0 = .ok (.aload_n 0, 1) := by decide +kernel
theorem dX6_paintShield_1 : decode cX6_paintShield 1 = .ok (.aload_n 1, 1) := by decide +kernel
theorem dX6_paintShield_2 : decode cX6_paintShield 2 = .ok (.iload_n 2, 1) := by decide +kernel
theorem dX6_paintShield_3 : decode cX6_paintShield 3 = .ok (.invokevirtual 90, 3) := by decide +kernel
theorem dX6_paintShield_6 : decode cX6_paintShield 6 = .ok (.aload_n 0, 1) := by decide +kernel
theorem dX6_paintShield_7 : decode cX6_paintShield 7 = .ok (.getfield 33, 3) := by decide +kernel
theorem dX6_paintShield_10 : decode cX6_paintShield 10 = .ok (.iload_n 2, 1) := by decide +kernel
theorem dX6_paintShield_11 : decode cX6_paintShield 11 = .ok (.invokevirtual 94, 3) := by decide +kernel
theorem dX6_paintShield_14 : decode cX6_paintShield 14 = .ok (.ifCond .eq 14, 3) := by decide +kernel
theorem dX6_paintShield_17 : decode cX6_paintShield 17 = .ok (.aload_n 0, 1) := by decide +kernel
theorem dX6_paintShield_18 : decode cX6_paintShield 18 = .ok (.getfield 33, 3) := by decide +kernel
theorem dX6_paintShield_21 : decode cX6_paintShield 21 = .ok (.iload_n 2, 1) := by decide +kernel
theorem dX6_paintShield_22 : decode cX6_paintShield 22 = .ok (.invokevirtual 97, 3) := by decide +kernel
theorem dX6_paintShield_25 : decode cX6_paintShield 25 = .ok (.goto 4, 3) := by decide +kernel
theorem dX6_paintShield_28 : decode cX6_paintShield 28 = .ok (.iconst (-1), 1) := by decide +kernel
theorem dX6_paintShield_29 : decode cX6_paintShield 29 = .ok (.istore_n 3, 1) := by decide +kernel
theorem dX6_paintShield_30 : decode cX6_paintShield 30 = .ok (.aload_n 0, 1) := by decide +kernel
theorem dX6_paintShield_31 : decode cX6_paintShield 31 = .ok (.getfield 41, 3) := by decide +kernel
theorem dX6_paintShield_34 : decode cX6_paintShield 34 = .ok (.iload_n 3, 1) := by decide +kernel
theorem dX6_paintShield_35 : decode cX6_paintShield 35 = .ok (.invokevirtual 59, 3) := by decide +kernel
theorem dX6_paintShield_38 : decode cX6_paintShield 38 = .ok (.ifCond .lt 62, 3) := by decide +kernel
theorem dX6_paintShield_41 : decode cX6_paintShield 41 = .ok (.aload_n 0, 1) := by decide +kernel
theorem dX6_paintShield_42 : decode cX6_paintShield 42 = .ok (.aload_n 0, 1) := by decide +kernel
theorem dX6_paintShield_43 : decode cX6_paintShield 43 = .ok (.getfield 30, 3) := by decide +kernel
theorem dX6_paintShield_46 : decode cX6_paintShield 46 = .ok (.iload_n 3, 1) := by decide +kernel
theorem dX6_paintShield_47 : decode cX6_paintShield 47 = .ok (.invokevirtual 90, 3) := by decide +kernel
theorem dX6_paintShield_50 : decode cX6_paintShield 50 = .ok (.aload_n 0, 1) := by decide +kernel
theorem dX6_paintShield_51 : decode cX6_paintShield 51 = .ok (.aload_n 0, 1) := by decide +kernel
theorem dX6_paintShield_52 : decode cX6_paintShield 52 = .ok (.getfield 30, 3) := by decide +kernel
theorem dX6_paintShield_55 : decode cX6_paintShield 55 = .ok (.iload_n 3, 1) := by decide +kernel
theorem dX6_paintShield_56 : decode cX6_paintShield 56 = .ok (.invokevirtual 100, 3) := by decide +kernel
theorem dX6_paintShield_59 : decode cX6_paintShield 59 = .ok (.aload_n 0, 1) := by decide +kernel
theorem dX6_paintShield_60 : decode cX6_paintShield 60 = .ok (.getfield 33, 3) := by decide +kernel
theorem dX6_paintShield_63 : decode cX6_paintShield 63 = .ok (.iload_n 3, 1) := by decide +kernel
theorem dX6_paintShield_64 : decode cX6_paintShield 64 = .ok (.invokevirtual 103, 3) := by decide +kernel
theorem dX6_paintShield_67 : decode cX6_paintShield 67 = .ok (.ifCond .eq 20, 3) := by decide +kernel
theorem dX6_paintShield_70 : decode cX6_paintShield 70 = .ok (.aload_n 1, 1) := by decide +kernel
theorem dX6_paintShield_71 : decode cX6_paintShield 71 = .ok (.aload_n 0, 1) := by decide +kernel
theorem dX6_paintShield_72 : decode cX6_paintShield 72 = .ok (.getfield 30, 3) := by decide +kernel
theorem dX6_paintShield_75 : decode cX6_paintShield 75 = .ok (.iconst 5, 1) := by decide +kernel
theorem dX6_paintShield_76 : decode cX6_paintShield 76 = .ok (.bipush 10, 2) := by decide +kernel
theorem dX6_paintShield_78 : decode cX6_paintShield 78 = .ok (.sipush 2016, 3) := by decide +kernel
theorem dX6_paintShield_81 : decode cX6_paintShield 81 = .ok (.invokevirtual 106, 3) := by decide +kernel
theorem dX6_paintShield_84 : decode cX6_paintShield 84 = .ok (.goto 16, 3) := by decide +kernel
theorem dX6_paintShield_87 : decode cX6_paintShield 87 = .ok (.aload_n 1, 1) := by decide +kernel
theorem dX6_paintShield_88 : decode cX6_paintShield 88 = .ok (.aload_n 0, 1) := by decide +kernel
theorem dX6_paintShield_89 : decode cX6_paintShield 89 = .ok (.getfield 30, 3) := by decide +kernel
theorem dX6_paintShield_92 : decode cX6_paintShield 92 = .ok (.iconst 0, 1) := by decide +kernel
theorem dX6_paintShield_93 : decode cX6_paintShield 93 = .ok (.bipush 15, 2) := by decide +kernel
theorem dX6_paintShield_95 : decode cX6_paintShield 95 = .ok (.ldc 110, 2) := by decide +kernel
theorem dX6_paintShield_97 : decode cX6_paintShield 97 = .ok (.invokevirtual 106, 3) := by decide +kernel
theorem dX6_paintShield_100 : decode cX6_paintShield 100 = .ok (.aload_n 0, 1) := by decide +kernel
theorem dX6_paintShield_101 : decode cX6_paintShield 101 = .ok (.aload_n 1, 1) := by decide +kernel
theorem dX6_paintShield_102 : decode cX6_paintShield 102 = .ok (.iload_n 2, 1) := by decide +kernel
theorem dX6_paintShield_103 : decode cX6_paintShield 103 = .ok (.invokevirtual 100, 3) := by decide +kernel
theorem dX6_paintShield_106 : decode cX6_paintShield 106 = .ok (.return_, 1) := by decide +kernel
set_option maxRecDepth 20000 in
theorem ggX6_paintQuarters_X5_has : GoodIn wsX6_paintQuarters wsX5_has := goodIn_r _ [11, 12, 241, 242, 243, 244, 245, 246, 247, 248, 249] (by decide +kernel) (by decide +kernel)
set_option maxRecDepth 20000 in
theorem gX6_paintQuarters_X5_has : GoodIn wsX6_paintQuarters (wsV RX6 83 RX5 yX5_has wsX5_has) := goodIn_app (goodIn_of _ (by decide +kernel)) ggX6_paintQuarters_X5_has
set_option maxRecDepth 20000 in
theorem ggX6_paintQuarters_X6_paintBorne : GoodIn wsX6_paintQuarters wsX6_paintBorne := goodIn_ca (goodIn_r _ [17, 18, 19, 20, 21, 22, 23, 24, 25, 26, 27, 28, 29, 8, 9, 10, 11, 12, 30, 31, 32, 33, 34, 35, 36, 37, 38, 39, 40, 41, 42, 43, 44, 45, 46, 47, 48, 49, 50, 51, 52, 53, 54, 55, 56, 57, 58, 59, 60, 61, 62, 63, 64, 65, 66, 67, 68, 69, 70, 71, 72, 73, 74, 75, 76, 77, 78, 79, 80, 81, 82, 83, 84, 85, 86, 87, 88, 89, 90, 91, 92, 93, 94, 95, 96, 97, 98, 99, 100, 101, 102, 103, 104, 105, 106, 107, 108, 109, 110, 111, 112, 113, 114, 115, 116, 117, 118, 119, 120, 121, 122, 123, 124, 125, 126, 127, 128, 129, 130, 131, 132, 133, 134, 135, 136, 137, 138, 139, 140, 141, 142, 143, 144, 145, 146, 147, 148, 149, 150, 151, 152, 153, 154, 155, 156, 157, 158, 159, 160, 161, 162, 163, 164, 165, 166, 167, 168, 169, 170, 171, 172, 173, 174, 175, 176, 177, 178, 179, 180, 181, 182, 183, 184, 185, 186, 187, 188, 189, 190, 191, 192, 193, 194, 195, 196, 197, 198, 199, 200, 201, 202, 203, 204, 205, 206, 207, 208, 209, 210, 211, 212, 213, 214, 215, 216, 217, 218, 219, 220, 221, 222, 231, 232, 233, 234, 235, 236, 237, 238, 239, 240, 250, 251, 252, 253, 254, 255, 256, 257, 258, 259, 260, 261, 262, 263, 264, 265, 266, 267, 268, 269, 270, 271, 272, 241, 242, 243, 244, 245, 246, 247, 248, 249, 273, 274, 275, 276, 277, 278, 279, 280, 281, 282, 283, 284, 285, 286, 287, 288, 289, 290, 291, 292, 293, 294, 295, 296, 297, 298, 299, 300, 301, 302, 303, 304, 305, 306, 307, 308, 309, 310, 311, 312, 313, 314, 315] (by decide +kernel) (by decide +kernel)) (goodIn_sub (fun _ h => List.mem_cons_of_mem _ (List.mem_append_right _ h)) (by decide +kernel))
set_option maxRecDepth 20000 in
theorem gX6_paintQuarters_X6_paintBorne : GoodIn wsX6_paintQuarters (wsV RX6 111 RX6 yX6_paintBorne wsX6_paintBorne) := goodIn_app (goodIn_of _ (by decide +kernel)) ggX6_paintQuarters_X6_paintBorne
set_option maxRecDepth 20000 in
theorem ggX6_paintQuarters_X8_quarterFrom : GoodIn wsX6_paintQuarters wsX8_quarterFrom := goodIn_ca (goodIn_r _ [226, 94, 227, 228, 229, 230, 96, 298, 299, 300, 301, 302] (by decide +kernel) (by decide +kernel)) (goodIn_sub (fun _ h => List.mem_cons_of_mem _ (List.mem_append_right _ h)) (by decide +kernel))
set_option maxRecDepth 20000 in
theorem gX6_paintQuarters_X8_quarterFrom : GoodIn wsX6_paintQuarters (wsV RX6 120 RX8 yX8_quarterFrom wsX8_quarterFrom) := goodIn_app (goodIn_of _ (by decide +kernel)) ggX6_paintQuarters_X8_quarterFrom
theorem dX6_paintQuarters_0 : decode cX6_paintQuarters 0 = .ok (.aload_n 0, 1) := by decide +kernel
theorem dX6_paintQuarters_1 : decode cX6_paintQuarters 1 = .ok (.getfield 33, 3) := by decide +kernel
theorem dX6_paintQuarters_4 : decode cX6_paintQuarters 4 = .ok (.iload_n 2, 1) := by decide +kernel
theorem dX6_paintQuarters_5 : decode cX6_paintQuarters 5 = .ok (.invokevirtual 83, 3) := by decide +kernel
theorem dX6_paintQuarters_8 : decode cX6_paintQuarters 8 = .ok (.ifCond .eq 12, 3) := by decide +kernel
theorem dX6_paintQuarters_11 : decode cX6_paintQuarters 11 = .ok (.aload_n 0, 1) := by decide +kernel
theorem dX6_paintQuarters_12 : decode cX6_paintQuarters 12 = .ok (.getfield 19, 3) := by decide +kernel
theorem dX6_paintQuarters_15 : decode cX6_paintQuarters 15 = .ok (.iload_n 2, 1) := by decide +kernel
theorem dX6_paintQuarters_16 : decode cX6_paintQuarters 16 = .ok (.iaload, 1) := by decide +kernel
theorem dX6_paintQuarters_17 : decode cX6_paintQuarters 17 = .ok (.goto 4, 3) := by decide +kernel
theorem dX6_paintQuarters_20 : decode cX6_paintQuarters 20 = .ok (.iconst 0, 1) := by decide +kernel
theorem dX6_paintQuarters_21 : decode cX6_paintQuarters 21 = .ok (.istore_n 3, 1) := by decide +kernel
theorem dX6_paintQuarters_22 : decode cX6_paintQuarters 22 = .ok (.iload_n 3, 1) := by decide +kernel
theorem dX6_paintQuarters_23 : decode cX6_paintQuarters 23 = .ok (.iconst 1, 1) := by decide +kernel
theorem dX6_paintQuarters_24 : decode cX6_paintQuarters 24 = .ok (.if_icmp .ne 9, 3) := by decide +kernel
theorem dX6_paintQuarters_27 : decode cX6_paintQuarters 27 = .ok (.aload_n 0, 1) := by decide +kernel
theorem dX6_paintQuarters_28 : decode cX6_paintQuarters 28 = .ok (.aload_n 1, 1) := by decide +kernel
theorem dX6_paintQuarters_29 : decode cX6_paintQuarters 29 = .ok (.iload_n 2, 1) := by decide +kernel
theorem dX6_paintQuarters_30 : decode cX6_paintQuarters 30 = .ok (.invokevirtual 111, 3) := by decide +kernel
theorem dX6_paintQuarters_33 : decode cX6_paintQuarters 33 = .ok (.iconst 0, 1) := by decide +kernel
theorem dX6_paintQuarters_34 : decode cX6_paintQuarters 34 = .ok (.istore 4, 2) := by decide +kernel
theorem dX6_paintQuarters_36 : decode cX6_paintQuarters 36 = .ok (.iload 4, 2) := by decide +kernel
theorem dX6_paintQuarters_38 : decode cX6_paintQuarters 38 = .ok (.iload_n 3, 1) := by decide +kernel
theorem dX6_paintQuarters_39 : decode cX6_paintQuarters 39 = .ok (.if_icmp .ge 101, 3) := by decide +kernel
theorem dX6_paintQuarters_42 : decode cX6_paintQuarters 42 = .ok (.iload 4, 2) := by decide +kernel
theorem dX6_paintQuarters_44 : decode cX6_paintQuarters 44 = .ok (.iconst 4, 1) := by decide +kernel
theorem dX6_paintQuarters_45 : decode cX6_paintQuarters 45 = .ok (.if_icmp .ge 95, 3) := by decide +kernel
theorem dX6_paintQuarters_48 : decode cX6_paintQuarters 48 = .ok (.iload_n 3, 1) := by decide +kernel
theorem dX6_paintQuarters_49 : decode cX6_paintQuarters 49 = .ok (.iconst 1, 1) := by decide +kernel
theorem dX6_paintQuarters_50 : decode cX6_paintQuarters 50 = .ok (.if_icmp .le 90, 3) := by decide +kernel
theorem dX6_paintQuarters_53 : decode cX6_paintQuarters 53 = .ok (.aload_n 0, 1) := by decide +kernel
theorem dX6_paintQuarters_54 : decode cX6_paintQuarters 54 = .ok (.aload_n 0, 1) := by decide +kernel
theorem dX6_paintQuarters_55 : decode cX6_paintQuarters 55 = .ok (.getfield 26, 3) := by decide +kernel
theorem dX6_paintQuarters_58 : decode cX6_paintQuarters 58 = .ok (.aload_n 0, 1) := by decide +kernel
theorem dX6_paintQuarters_59 : decode cX6_paintQuarters 59 = .ok (.getfield 16, 3) := by decide +kernel
theorem dX6_paintQuarters_62 : decode cX6_paintQuarters 62 = .ok (.iload_n 2, 1) := by decide +kernel
theorem dX6_paintQuarters_63 : decode cX6_paintQuarters 63 = .ok (.aaload, 1) := by decide +kernel
theorem dX6_paintQuarters_64 : decode cX6_paintQuarters 64 = .ok (.iload 4, 2) := by decide +kernel
theorem dX6_paintQuarters_66 : decode cX6_paintQuarters 66 = .ok (.iaload, 1) := by decide +kernel
theorem dX6_paintQuarters_67 : decode cX6_paintQuarters 67 = .ok (.invokevirtual 111, 3) := by decide +kernel
theorem dX6_paintQuarters_70 : decode cX6_paintQuarters 70 = .ok (.iconst 0, 1) := by decide +kernel
theorem dX6_paintQuarters_71 : decode cX6_paintQuarters 71 = .ok (.istore 5, 2) := by decide +kernel
theorem dX6_paintQuarters_73 : decode cX6_paintQuarters 73 = .ok (.iload 5, 2) := by decide +kernel
theorem dX6_paintQuarters_75 : decode cX6_paintQuarters 75 = .ok (.iconst 4, 1) := by decide +kernel
theorem dX6_paintQuarters_76 : decode cX6_paintQuarters 76 = .ok (.if_icmp .ge 58, 3) := by decide +kernel
theorem dX6_paintQuarters_79 : decode cX6_paintQuarters 79 = .ok (.iload_n 3, 1) := by decide +kernel
theorem dX6_paintQuarters_80 : decode cX6_paintQuarters 80 = .ok (.iconst 2, 1) := by decide +kernel
theorem dX6_paintQuarters_81 : decode cX6_paintQuarters 81 = .ok (.if_icmp .ne 12, 3) := by decide +kernel
theorem dX6_paintQuarters_84 : decode cX6_paintQuarters 84 = .ok (.getstatic 114, 3) := by decide +kernel
theorem dX6_paintQuarters_87 : decode cX6_paintQuarters 87 = .ok (.iload 5, 2) := by decide +kernel
theorem dX6_paintQuarters_89 : decode cX6_paintQuarters 89 = .ok (.iaload, 1) := by decide +kernel
theorem dX6_paintQuarters_90 : decode cX6_paintQuarters 90 = .ok (.goto 19, 3) := by decide +kernel
theorem dX6_paintQuarters_93 : decode cX6_paintQuarters 93 = .ok (.iload_n 3, 1) := by decide +kernel
theorem dX6_paintQuarters_94 : decode cX6_paintQuarters 94 = .ok (.iconst 3, 1) := by decide +kernel
theorem dX6_paintQuarters_95 : decode cX6_paintQuarters 95 = .ok (.if_icmp .ne 12, 3) := by decide +kernel
theorem dX6_paintQuarters_98 : decode cX6_paintQuarters 98 = .ok (.getstatic 117, 3) := by decide +kernel
theorem dX6_paintQuarters_101 : decode cX6_paintQuarters 101 = .ok (.iload 5, 2) := by decide +kernel
theorem dX6_paintQuarters_103 : decode cX6_paintQuarters 103 = .ok (.iaload, 1) := by decide +kernel
theorem dX6_paintQuarters_104 : decode cX6_paintQuarters 104 = .ok (.goto 5, 3) := by decide +kernel
theorem dX6_paintQuarters_107 : decode cX6_paintQuarters 107 = .ok (.iload 5, 2) := by decide +kernel
theorem dX6_paintQuarters_109 : decode cX6_paintQuarters 109 = .ok (.istore 6, 2) := by decide +kernel
theorem dX6_paintQuarters_111 : decode cX6_paintQuarters 111 = .ok (.iload 6, 2) := by decide +kernel
theorem dX6_paintQuarters_113 : decode cX6_paintQuarters 113 = .ok (.iload 4, 2) := by decide +kernel
theorem dX6_paintQuarters_115 : decode cX6_paintQuarters 115 = .ok (.if_icmp .ne 13, 3) := by decide +kernel
theorem dX6_paintQuarters_118 : decode cX6_paintQuarters 118 = .ok (.aload_n 1, 1) := by decide +kernel
theorem dX6_paintQuarters_119 : decode cX6_paintQuarters 119 = .ok (.aload_n 0, 1) := by decide +kernel
theorem dX6_paintQuarters_120 : decode cX6_paintQuarters 120 = .ok (.getfield 26, 3) := by decide +kernel
theorem dX6_paintQuarters_123 : decode cX6_paintQuarters 123 = .ok (.iload 5, 2) := by decide +kernel
theorem dX6_paintQuarters_125 : decode cX6_paintQuarters 125 = .ok (.invokevirtual 120, 3) := by decide +kernel
theorem dX6_paintQuarters_128 : decode cX6_paintQuarters 128 = .ok (.iinc 5 1, 3) := by decide +kernel
theorem dX6_paintQuarters_131 : decode cX6_paintQuarters 131 = .ok (.goto (-58), 3) := by decide +kernel
theorem dX6_paintQuarters_134 : decode cX6_paintQuarters 134 = .ok (.iinc 4 1, 3) := by decide +kernel
theorem dX6_paintQuarters_137 : decode cX6_paintQuarters 137 = .ok (.goto (-101), 3) := by decide +kernel
theorem dX6_paintQuarters_140 : decode cX6_paintQuarters 140 = .ok (.return_, 1) := by decide +kernel
set_option maxRecDepth 20000 in
theorem ggX6_paintAbatement_X4_isAbated : GoodIn wsX6_paintAbatement wsX4_isAbated := goodIn_ca (goodIn_r _ [7, 8, 9, 10, 11, 12, 13, 14, 15, 16, 17, 18, 19, 20, 50, 51, 52, 53, 54, 55, 56, 57, 58, 59, 60, 61, 62, 63, 64, 65] (by decide +kernel) (by decide +kernel)) (goodIn_sub (fun _ h => List.mem_cons_of_mem _ (List.mem_append_right _ h)) (by decide +kernel))
set_option maxRecDepth 20000 in
theorem gX6_paintAbatement_X4_isAbated : GoodIn wsX6_paintAbatement (wsV RX6 123 RX4 yX4_isAbated wsX4_isAbated) := goodIn_app (goodIn_of _ (by decide +kernel)) ggX6_paintAbatement_X4_isAbated
set_option maxRecDepth 20000 in
theorem ggX6_paintAbatement_X8_putRows : GoodIn wsX6_paintAbatement wsX8_putRows := goodIn_ca (goodIn_r _ [25, 26, 27, 28, 29, 30, 31, 32, 33, 24, 34, 35, 36, 37, 38, 39, 66, 67, 68, 69, 70] (by decide +kernel) (by decide +kernel)) (goodIn_sub (fun _ h => List.mem_cons_of_mem _ (List.mem_append_right _ h)) (by decide +kernel))
set_option maxRecDepth 20000 in
theorem gX6_paintAbatement_X8_putRows : GoodIn wsX6_paintAbatement (wsV RX6 131 RX8 yX8_putRows wsX8_putRows) := goodIn_app (goodIn_of _ (by decide +kernel)) ggX6_paintAbatement_X8_putRows
theorem dX6_paintAbatement_0 : decode cX6_paintAbatement 0 = .ok (.aload_n 0, 1) := by decide +kernel
theorem dX6_paintAbatement_1 : decode cX6_paintAbatement 1 = .ok (.getfield 45, 3) := by decide +kernel
theorem dX6_paintAbatement_4 : decode cX6_paintAbatement 4 = .ok (.iload_n 2, 1) := by decide +kernel
theorem dX6_paintAbatement_5 : decode cX6_paintAbatement 5 = .ok (.invokevirtual 123, 3) := by decide +kernel
theorem dX6_paintAbatement_8 : decode cX6_paintAbatement 8 = .ok (.ifCond .eq 12, 3) := by decide +kernel
theorem dX6_paintAbatement_11 : decode cX6_paintAbatement 11 = .ok (.aload_n 1, 1) := by decide +kernel
theorem dX6_paintAbatement_12 : decode cX6_paintAbatement 12 = .ok (.getstatic 128, 3) := by decide +kernel
theorem dX6_paintAbatement_15 : decode cX6_paintAbatement 15 = .ok (.bipush 7, 2) := by decide +kernel
theorem dX6_paintAbatement_17 : decode cX6_paintAbatement 17 = .ok (.invokevirtual 131, 3) := by decide +kernel
theorem dX6_paintAbatement_20 : decode cX6_paintAbatement 20 = .ok (.return_, 1) := by decide +kernel
set_option maxRecDepth 20000 in
theorem ggX6_paintBorne_X0_armsOf : GoodIn wsX6_paintBorne wsX0_armsOf := goodIn_ca (goodIn_r _ [9, 10, 11, 12, 13, 14, 15, 16, 17, 233, 234, 235, 236, 237, 238, 239, 240, 241, 242, 243, 244, 245, 246, 247, 248, 249, 250, 251, 252] (by decide +kernel) (by decide +kernel)) (goodIn_sub (fun _ h => List.mem_cons_of_mem _ (List.mem_append_right _ h)) (by decide +kernel))
set_option maxRecDepth 20000 in
theorem gX6_paintBorne_X0_armsOf : GoodIn wsX6_paintBorne (wsV RX6 59 RX0 yX0_armsOf wsX0_armsOf) := goodIn_app (goodIn_of _ (by decide +kernel)) ggX6_paintBorne_X0_armsOf
set_option maxRecDepth 20000 in
theorem ggX6_paintBorne_X9_landOf : GoodIn wsX6_paintBorne wsX9_landOf := goodIn_ca (goodIn_r _ [22, 23, 24, 25, 26, 21, 27, 28, 253, 254, 255, 256, 257, 258, 259, 260, 261, 262, 263, 264] (by decide +kernel) (by decide +kernel)) (goodIn_sub (fun _ h => List.mem_cons_of_mem _ (List.mem_append_right _ h)) (by decide +kernel))
set_option maxRecDepth 20000 in
theorem gX6_paintBorne_X9_landOf : GoodIn wsX6_paintBorne (wsV RX6 135 RX9 yX9_landOf wsX9_landOf) := goodIn_app (goodIn_of _ (by decide +kernel)) ggX6_paintBorne_X9_landOf
set_option maxRecDepth 20000 in
theorem ggX6_paintBorne_X9_blazonOf : GoodIn wsX6_paintBorne wsX9_blazonOf := goodIn_r _ [32, 33, 34, 35, 36, 21, 37, 24, 25, 26, 27, 28, 253, 254, 255, 256, 257, 258, 259, 260, 261, 262, 263, 264] (by decide +kernel) (by decide +kernel)
set_option maxRecDepth 20000 in
theorem gX6_paintBorne_X9_blazonOf : GoodIn wsX6_paintBorne (wsV RX6 140 RX9 yX9_blazonOf wsX9_blazonOf) := goodIn_app (goodIn_of _ (by decide +kernel)) ggX6_paintBorne_X9_blazonOf
set_option maxRecDepth 20000 in
theorem ggX6_paintBorne_X0_marksOf : GoodIn wsX6_paintBorne wsX0_marksOf := goodIn_r _ [41, 42, 10, 12, 13, 14, 15, 16, 17, 233, 234, 235, 236, 237, 238, 239, 240, 241, 242, 243, 244, 245, 246, 247, 248, 249, 250, 251, 252] (by decide +kernel) (by decide +kernel)
set_option maxRecDepth 20000 in
theorem gX6_paintBorne_X0_marksOf : GoodIn wsX6_paintBorne (wsV RX6 144 RX0 yX0_marksOf wsX0_marksOf) := goodIn_app (goodIn_of _ (by decide +kernel)) ggX6_paintBorne_X0_marksOf
set_option maxRecDepth 20000 in
theorem ggX6_paintBorne_X0_markCount : GoodIn wsX6_paintBorne wsX0_markCount := goodIn_ca (goodIn_r _ [46, 10, 47, 12, 13, 14, 15, 16, 17, 233, 234, 235, 236, 237, 238, 239, 240, 241, 242, 243, 244, 245, 246, 247, 248, 249, 250, 251, 252] (by decide +kernel) (by decide +kernel)) (goodIn_sub (fun _ h => List.mem_cons_of_mem _ (List.mem_append_right _ h)) (by decide +kernel))
set_option maxRecDepth 20000 in
theorem gX6_paintBorne_X0_markCount : GoodIn wsX6_paintBorne (wsV RX6 148 RX0 yX0_markCount wsX0_markCount) := goodIn_app (goodIn_of _ (by decide +kernel)) ggX6_paintBorne_X0_markCount
set_option maxRecDepth 20000 in
theorem ggX6_paintBorne_X7_firstBorne : GoodIn wsX6_paintBorne wsX7_firstBorne := goodIn_ca (goodIn_r _ [51] (by decide +kernel) (by decide +kernel)) (goodIn_sub (fun _ h => List.mem_cons_of_mem _ (List.mem_append_right _ h)) (by decide +kernel))
set_option maxRecDepth 20000 in
theorem gX6_paintBorne_X7_firstBorne : GoodIn wsX6_paintBorne (va_wsS RX6 156 yX7_firstBorne wsX7_firstBorne) := goodIn_app (goodIn_of _ (by decide +kernel)) ggX6_paintBorne_X7_firstBorne
set_option maxRecDepth 20000 in
theorem ggX6_paintBorne_X7_paintBlazon : GoodIn wsX6_paintBorne wsX7_paintBlazon := goodIn_ca (goodIn_r _ [55, 56, 57, 58, 59, 60, 61, 62, 50, 63, 64, 65, 66, 67, 68, 69, 70, 71, 72, 73, 74, 75, 76, 77, 78, 79, 80, 81, 82, 83, 84, 85, 86, 87, 88, 89, 90, 91, 92, 93, 94, 95, 96, 97, 98, 99, 100, 101, 102, 103, 104, 105, 106, 107, 108, 109, 110, 111, 112, 113, 114, 115, 116, 117, 118, 119, 120, 121, 122, 123, 124, 125, 126, 127, 128, 129, 130, 131, 132, 133, 134, 135, 136, 137, 138, 139, 140, 141, 142, 143, 144, 145, 146, 147, 148, 149, 150, 151, 152, 153, 154, 155, 156, 157, 158, 159, 160, 161, 162, 163, 164, 165, 166, 167, 168, 169, 170, 221, 222, 223, 224, 225, 226, 227, 228, 229, 230, 231, 232, 265, 266, 267, 268, 269, 270, 271, 272, 273, 274, 275, 276, 277, 278, 279, 280, 281, 282, 283, 284, 285, 286, 287, 288, 289, 290, 291, 292, 293, 294, 295] (by decide +kernel) (by decide +kernel)) (goodIn_sub (fun _ h => List.mem_cons_of_mem _ (List.mem_append_right _ h)) (by decide +kernel))
set_option maxRecDepth 20000 in
theorem gX6_paintBorne_X7_paintBlazon : GoodIn wsX6_paintBorne (wsV RX6 162 RX7 yX7_paintBlazon wsX7_paintBlazon) := goodIn_app (goodIn_of _ (by decide +kernel)) ggX6_paintBorne_X7_paintBlazon
set_option maxRecDepth 20000 in
theorem ggX6_paintBorne_X7_paintMarks : GoodIn wsX6_paintBorne wsX7_paintMarks := goodIn_ca (goodIn_r _ [174, 175, 130, 111, 112, 113, 114, 127, 131, 119, 107, 176, 177, 178, 179, 180, 181, 182, 183, 184, 185, 186, 187, 188, 189, 190, 191, 192, 193, 194, 195, 196, 197, 102, 103, 104, 50, 105, 106, 108, 109, 110, 115, 116, 117, 118, 120, 121, 122, 86, 87, 88, 123, 124, 125, 126, 128, 129, 132, 133, 134, 135, 136, 69, 137, 138, 139, 140, 141, 142, 143, 144, 145, 146, 147, 70, 71, 72, 148, 149, 150, 76, 151, 81, 78, 84, 79, 82, 152, 89, 90, 91, 92, 93, 94, 95, 83, 153, 154, 155, 156, 80, 157, 158, 159, 160, 161, 162, 163, 164, 165, 166, 167, 168, 169, 170, 265, 266, 267, 268, 269, 270, 271, 272, 273, 274, 275, 276, 277, 283, 284, 285, 286, 287, 288, 289, 290, 291, 292, 293, 294, 295, 278, 279, 280, 281, 282] (by decide +kernel) (by decide +kernel)) (goodIn_sub (fun _ h => List.mem_cons_of_mem _ (List.mem_append_right _ h)) (by decide +kernel))
set_option maxRecDepth 20000 in
theorem gX6_paintBorne_X7_paintMarks : GoodIn wsX6_paintBorne (wsV RX6 166 RX7 yX7_paintMarks wsX7_paintMarks) := goodIn_app (goodIn_of _ (by decide +kernel)) ggX6_paintBorne_X7_paintMarks
set_option maxRecDepth 20000 in
theorem ggX6_paintBorne_X9_honourOf : GoodIn wsX6_paintBorne wsX9_honourOf := goodIn_ca (goodIn_r _ [201, 202, 24, 25, 26, 21, 27, 28, 253, 254, 255, 256, 257, 258, 259, 260, 261, 262, 263, 264] (by decide +kernel) (by decide +kernel)) (goodIn_sub (fun _ h => List.mem_cons_of_mem _ (List.mem_append_right _ h)) (by decide +kernel))
set_option maxRecDepth 20000 in
theorem gX6_paintBorne_X9_honourOf : GoodIn wsX6_paintBorne (wsV RX6 170 RX9 yX9_honourOf wsX9_honourOf) := goodIn_app (goodIn_of _ (by decide +kernel)) ggX6_paintBorne_X9_honourOf
set_option maxRecDepth 20000 in
theorem ggX6_paintBorne_X7_paintHonour : GoodIn wsX6_paintBorne wsX7_paintHonour := goodIn_ca (goodIn_r _ [206, 110, 106, 207, 208, 209, 50, 210, 132, 133, 134, 135, 136, 69, 140, 141, 142, 148, 149, 150, 76, 151, 81, 78, 84, 79, 82, 152, 89, 90, 91, 92, 93, 94, 95, 83, 265, 266, 267, 268, 269, 270, 271, 272, 273, 274, 275, 276, 277, 278, 279, 280, 281, 282] (by decide +kernel) (by decide +kernel)) (goodIn_sub (fun _ h => List.mem_cons_of_mem _ (List.mem_append_right _ h)) (by decide +kernel))
set_option maxRecDepth 20000 in
theorem gX6_paintBorne_X7_paintHonour : GoodIn wsX6_paintBorne (wsV RX6 173 RX7 yX7_paintHonour wsX7_paintHonour) := goodIn_app (goodIn_of _ (by decide +kernel)) ggX6_paintBorne_X7_paintHonour
theorem dX6_paintBorne_0 : decode cX6_paintBorne 0 = .ok (.aload_n 0, 1) := by decide +kernel
theorem dX6_paintBorne_1 : decode cX6_paintBorne 1 = .ok (.getfield 41, 3) := by decide +kernel
theorem dX6_paintBorne_4 : decode cX6_paintBorne 4 = .ok (.iload_n 2, 1) := by decide +kernel
theorem dX6_paintBorne_5 : decode cX6_paintBorne 5 = .ok (.invokevirtual 59, 3) := by decide +kernel
theorem dX6_paintBorne_8 : decode cX6_paintBorne 8 = .ok (.istore_n 3, 1) := by decide +kernel
theorem dX6_paintBorne_9 : decode cX6_paintBorne 9 = .ok (.aload_n 0, 1) := by decide +kernel
theorem dX6_paintBorne_10 : decode cX6_paintBorne 10 = .ok (.getfield 37, 3) := by decide +kernel
theorem dX6_paintBorne_13 : decode cX6_paintBorne 13 = .ok (.iload_n 3, 1) := by decide +kernel
theorem dX6_paintBorne_14 : decode cX6_paintBorne 14 = .ok (.invokevirtual 135, 3) := by decide +kernel
theorem dX6_paintBorne_17 : decode cX6_paintBorne 17 = .ok (.istore 4, 2) := by decide +kernel
theorem dX6_paintBorne_19 : decode cX6_paintBorne 19 = .ok (.aload_n 0, 1) := by decide +kernel
theorem dX6_paintBorne_20 : decode cX6_paintBorne 20 = .ok (.getfield 37, 3) := by decide +kernel
theorem dX6_paintBorne_23 : decode cX6_paintBorne 23 = .ok (.iload_n 3, 1) := by decide +kernel
theorem dX6_paintBorne_24 : decode cX6_paintBorne 24 = .ok (.invokevirtual 140, 3) := by decide +kernel
theorem dX6_paintBorne_27 : decode cX6_paintBorne 27 = .ok (.astore 5, 2) := by decide +kernel
theorem dX6_paintBorne_29 : decode cX6_paintBorne 29 = .ok (.aload_n 0, 1) := by decide +kernel
theorem dX6_paintBorne_30 : decode cX6_paintBorne 30 = .ok (.getfield 41, 3) := by decide +kernel
theorem dX6_paintBorne_33 : decode cX6_paintBorne 33 = .ok (.iload_n 2, 1) := by decide +kernel
theorem dX6_paintBorne_34 : decode cX6_paintBorne 34 = .ok (.invokevirtual 144, 3) := by decide +kernel
theorem dX6_paintBorne_37 : decode cX6_paintBorne 37 = .ok (.astore 6, 2) := by decide +kernel
theorem dX6_paintBorne_39 : decode cX6_paintBorne 39 = .ok (.aload_n 0, 1) := by decide +kernel
theorem dX6_paintBorne_40 : decode cX6_paintBorne 40 = .ok (.getfield 41, 3) := by decide +kernel
theorem dX6_paintBorne_43 : decode cX6_paintBorne 43 = .ok (.iload_n 2, 1) := by decide +kernel
theorem dX6_paintBorne_44 : decode cX6_paintBorne 44 = .ok (.invokevirtual 148, 3) := by decide +kernel
theorem dX6_paintBorne_47 : decode cX6_paintBorne 47 = .ok (.istore 7, 2) := by decide +kernel
theorem dX6_paintBorne_49 : decode cX6_paintBorne 49 = .ok (.aload_n 0, 1) := by decide +kernel
theorem dX6_paintBorne_50 : decode cX6_paintBorne 50 = .ok (.getfield 49, 3) := by decide +kernel
theorem dX6_paintBorne_53 : decode cX6_paintBorne 53 = .ok (.aload_n 1, 1) := by decide +kernel
theorem dX6_paintBorne_54 : decode cX6_paintBorne 54 = .ok (.aload 5, 2) := by decide +kernel
theorem dX6_paintBorne_56 : decode cX6_paintBorne 56 = .ok (.iload 4, 2) := by decide +kernel
theorem dX6_paintBorne_58 : decode cX6_paintBorne 58 = .ok (.aload 5, 2) := by decide +kernel
theorem dX6_paintBorne_60 : decode cX6_paintBorne 60 = .ok (.getfield 151, 3) := by decide +kernel
theorem dX6_paintBorne_63 : decode cX6_paintBorne 63 = .ok (.aload 6, 2) := by decide +kernel
theorem dX6_paintBorne_65 : decode cX6_paintBorne 65 = .ok (.iload 7, 2) := by decide +kernel
theorem dX6_paintBorne_67 : decode cX6_paintBorne 67 = .ok (.invokestatic 156, 3) := by decide +kernel
theorem dX6_paintBorne_70 : decode cX6_paintBorne 70 = .ok (.invokevirtual 162, 3) := by decide +kernel
theorem dX6_paintBorne_73 : decode cX6_paintBorne 73 = .ok (.aload_n 0, 1) := by decide +kernel
theorem dX6_paintBorne_74 : decode cX6_paintBorne 74 = .ok (.getfield 49, 3) := by decide +kernel
theorem dX6_paintBorne_77 : decode cX6_paintBorne 77 = .ok (.aload_n 1, 1) := by decide +kernel
theorem dX6_paintBorne_78 : decode cX6_paintBorne 78 = .ok (.iload 4, 2) := by decide +kernel
theorem dX6_paintBorne_80 : decode cX6_paintBorne 80 = .ok (.aload 5, 2) := by decide +kernel
theorem dX6_paintBorne_82 : decode cX6_paintBorne 82 = .ok (.getfield 151, 3) := by decide +kernel
theorem dX6_paintBorne_85 : decode cX6_paintBorne 85 = .ok (.aload 6, 2) := by decide +kernel
theorem dX6_paintBorne_87 : decode cX6_paintBorne 87 = .ok (.iload 7, 2) := by decide +kernel
theorem dX6_paintBorne_89 : decode cX6_paintBorne 89 = .ok (.invokevirtual 166, 3) := by decide +kernel
theorem dX6_paintBorne_92 : decode cX6_paintBorne 92 = .ok (.aload_n 0, 1) := by decide +kernel
theorem dX6_paintBorne_93 : decode cX6_paintBorne 93 = .ok (.getfield 49, 3) := by decide +kernel
theorem dX6_paintBorne_96 : decode cX6_paintBorne 96 = .ok (.aload_n 1, 1) := by decide +kernel
theorem dX6_paintBorne_97 : decode cX6_paintBorne 97 = .ok (.aload_n 0, 1) := by decide +kernel
theorem dX6_paintBorne_98 : decode cX6_paintBorne 98 = .ok (.getfield 37, 3) := by decide +kernel
theorem dX6_paintBorne_101 : decode cX6_paintBorne 101 = .ok (.iload_n 3, 1) := by decide +kernel
theorem dX6_paintBorne_102 : decode cX6_paintBorne 102 = .ok (.invokevirtual 170, 3) := by decide +kernel
theorem dX6_paintBorne_105 : decode cX6_paintBorne 105 = .ok (.invokevirtual 173, 3) := by decide +kernel
theorem dX6_paintBorne_108 : decode cX6_paintBorne 108 = .ok (.return_, 1) := by decide +kernel
set_option maxRecDepth 20000 in
theorem ggX7_init_X3_init : GoodIn wsX7_init wsX3_init := goodIn_r _ [25, 26, 2, 3] (by decide +kernel) (by decide +kernel)
set_option maxRecDepth 20000 in
theorem gX7_init_X3_init_n46 : GoodIn wsX7_init (wsX3_init) := ggX7_init_X3_init
set_option maxRecDepth 20000 in
theorem ggX7_init_X8_init : GoodIn wsX7_init wsX8_init := goodIn_r _ [28, 29, 2, 3, 30, 31, 5, 32, 33, 84, 85, 86, 87, 88] (by decide +kernel) (by decide +kernel)
set_option maxRecDepth 20000 in
theorem gX7_init_X8_init_n53 : GoodIn wsX7_init (wsX8_init) := ggX7_init_X8_init
set_option maxRecDepth 20000 in
theorem ggX7_init_X7_fillPoint : GoodIn wsX7_init wsX7_fillPoint := goodIn_ca (goodIn_r _ [38, 6, 7, 8, 39, 40, 37, 41, 42, 43, 44, 45, 46, 47, 48, 49, 50, 51, 52, 53, 54, 55, 56, 57, 58, 59, 60, 61, 62, 63, 64, 65, 66, 67, 68, 69, 70] (by decide +kernel) (by decide +kernel)) (goodIn_sub (fun _ h => List.mem_cons_of_mem _ (List.mem_append_right _ h)) (by decide +kernel))
set_option maxRecDepth 20000 in
theorem gX7_init_X7_fillPoint : GoodIn wsX7_init (wsV RX7 58 RX7 yX7_fillPoint wsX7_fillPoint) := goodIn_app (goodIn_of _ (by decide +kernel)) ggX7_init_X7_fillPoint
theorem dX7_init_0 : decode cX7_init 0 = .ok (.aload_n 0, 1) := by decide +kernel
theorem dX7_init_1 : decode cX7_init 1 = .ok (.invokespecial 3, 3) := by decide +kernel
theorem dX7_init_4 : decode cX7_init 4 = .ok (.aload_n 0, 1) := by decide +kernel
theorem dX7_init_5 : decode cX7_init 5 = .ok (.bipush 15, 2) := by decide +kernel
theorem dX7_init_7 : decode cX7_init 7 = .ok (.bipush 16, 2) := by decide +kernel
theorem dX7_init_9 : decode cX7_init 9 = .ok (.multianewarray 9 2, 4) := by decide +kernel
theorem dX7_init_13 : decode cX7_init 13 = .ok (.putfield 11, 3) := by decide +kernel
theorem dX7_init_16 : decode cX7_init 16 = .ok (.aload_n 0, 1) := by decide +kernel
theorem dX7_init_17 : decode cX7_init 17 = .ok (.bipush 24, 2) := by decide +kernel
theorem dX7_init_19 : decode cX7_init 19 = .ok (.bipush 16, 2) := by decide +kernel
theorem dX7_init_21 : decode cX7_init 21 = .ok (.multianewarray 9 2, 4) := by decide +kernel
theorem dX7_init_25 : decode cX7_init 25 = .ok (.putfield 16, 3) := by decide +kernel
theorem dX7_init_28 : decode cX7_init 28 = .ok (.aload_n 0, 1) := by decide +kernel
theorem dX7_init_29 : decode cX7_init 29 = .ok (.iconst 4, 1) := by decide +kernel
theorem dX7_init_30 : decode cX7_init 30 = .ok (.bipush 16, 2) := by decide +kernel
theorem dX7_init_32 : decode cX7_init 32 = .ok (.multianewarray 9 2, 4) := by decide +kernel
theorem dX7_init_36 : decode cX7_init 36 = .ok (.putfield 19, 3) := by decide +kernel
theorem dX7_init_39 : decode cX7_init 39 = .ok (.aload_n 0, 1) := by decide +kernel
theorem dX7_init_40 : decode cX7_init 40 = .ok (.bipush 24, 2) := by decide +kernel
theorem dX7_init_42 : decode cX7_init 42 = .ok (.iconst 3, 1) := by decide +kernel
theorem dX7_init_43 : decode cX7_init 43 = .ok (.multianewarray 9 2, 4) := by decide +kernel
theorem dX7_init_47 : decode cX7_init 47 = .ok (.putfield 22, 3) := by decide +kernel
theorem dX7_init_50 : decode cX7_init 50 = .ok (.aload_n 0, 1) := by decide +kernel
theorem dX7_init_51 : decode cX7_init 51 = .ok (.bipush 16, 2) := by decide +kernel
theorem dX7_init_53 : decode cX7_init 53 = .ok (.newarray .int, 2) := by decide +kernel
theorem dX7_init_55 : decode cX7_init 55 = .ok (.putfield 25, 3) := by decide +kernel
theorem dX7_init_58 : decode cX7_init 58 = .ok (.aload_n 0, 1) := by decide +kernel
theorem dX7_init_59 : decode cX7_init 59 = .ok (.bipush 16, 2) := by decide +kernel
theorem dX7_init_61 : decode cX7_init 61 = .ok (.newarray .int, 2) := by decide +kernel
theorem dX7_init_63 : decode cX7_init 63 = .ok (.putfield 29, 3) := by decide +kernel
theorem dX7_init_66 : decode cX7_init 66 = .ok (.aload_n 0, 1) := by decide +kernel
theorem dX7_init_67 : decode cX7_init 67 = .ok (.bipush 16, 2) := by decide +kernel
theorem dX7_init_69 : decode cX7_init 69 = .ok (.newarray .int, 2) := by decide +kernel
theorem dX7_init_71 : decode cX7_init 71 = .ok (.putfield 32, 3) := by decide +kernel
theorem dX7_init_74 : decode cX7_init 74 = .ok (.aload_n 0, 1) := by decide +kernel
theorem dX7_init_75 : decode cX7_init 75 = .ok (.bipush 10, 2) := by decide +kernel
theorem dX7_init_77 : decode cX7_init 77 = .ok (.bipush 16, 2) := by decide +kernel
theorem dX7_init_79 : decode cX7_init 79 = .ok (.multianewarray 9 2, 4) := by decide +kernel
theorem dX7_init_83 : decode cX7_init 83 = .ok (.putfield 35, 3) := by decide +kernel
theorem dX7_init_86 : decode cX7_init 86 = .ok (.aload_n 0, 1) := by decide +kernel
theorem dX7_init_87 : decode cX7_init 87 = .ok (.bipush 10, 2) := by decide +kernel
theorem dX7_init_89 : decode cX7_init 89 = .ok (.newarray .int, 2) := by decide +kernel
theorem dX7_init_91 : decode cX7_init 91 = .ok (.putfield 38, 3) := by decide +kernel
theorem dX7_init_94 : decode cX7_init 94 = .ok (.aload_n 0, 1) := by decide +kernel
theorem dX7_init_95 : decode cX7_init 95 = .ok (.bipush 16, 2) := by decide +kernel
theorem dX7_init_97 : decode cX7_init 97 = .ok (.newarray .int, 2) := by decide +kernel
theorem dX7_init_99 : decode cX7_init 99 = .ok (.putfield 41, 3) := by decide +kernel
theorem dX7_init_102 : decode cX7_init 102 = .ok (.aload_n 0, 1) := by decide +kernel
theorem dX7_init_103 : decode cX7_init 103 = .ok (.new 44, 3) := by decide +kernel
theorem dX7_init_106 : decode cX7_init 106 = .ok (.dup, 1) := by decide +kernel
theorem dX7_init_107 : decode cX7_init 107 = .ok (.invokespecial 46, 3) := by decide +kernel
theorem dX7_init_110 : decode cX7_init 110 = .ok (.putfield 47, 3) := by decide +kernel
theorem dX7_init_113 : decode cX7_init 113 = .ok (.aload_n 0, 1) := by decide +kernel
theorem dX7_init_114 : decode cX7_init 114 = .ok (.new 51, 3) := by decide +kernel
theorem dX7_init_117 : decode cX7_init 117 = .ok (.dup, 1) := by decide +kernel
theorem dX7_init_118 : decode cX7_init 118 = .ok (.invokespecial 53, 3) := by decide +kernel
theorem dX7_init_121 : decode cX7_init 121 = .ok (.putfield 54, 3) := by decide +kernel
theorem dX7_init_124 : decode cX7_init 124 = .ok (.iconst 0, 1) := by decide +kernel
theorem dX7_init_125 : decode cX7_init 125 = .ok (.istore_n 1, 1) := by decide +kernel
theorem dX7_init_126 : decode cX7_init 126 = .ok (.iload_n 1, 1) := by decide +kernel
theorem dX7_init_127 : decode cX7_init 127 = .ok (.bipush 16, 2) := by decide +kernel
theorem dX7_init_129 : decode cX7_init 129 = .ok (.if_icmp .ge 29, 3) := by decide +kernel
theorem dX7_init_132 : decode cX7_init 132 = .ok (.iconst 0, 1) := by decide +kernel
theorem dX7_init_133 : decode cX7_init 133 = .ok (.istore_n 2, 1) := by decide +kernel
theorem dX7_init_134 : decode cX7_init 134 = .ok (.iload_n 2, 1) := by decide +kernel
theorem dX7_init_135 : decode cX7_init 135 = .ok (.bipush 16, 2) := by decide +kernel
theorem dX7_init_137 : decode cX7_init 137 = .ok (.if_icmp .ge 15, 3) := by decide +kernel
theorem dX7_init_140 : decode cX7_init 140 = .ok (.aload_n 0, 1) := by decide +kernel
theorem dX7_init_141 : decode cX7_init 141 = .ok (.iload_n 2, 1) := by decide +kernel
theorem dX7_init_142 : decode cX7_init 142 = .ok (.iload_n 1, 1) := by decide +kernel
theorem dX7_init_143 : decode cX7_init 143 = .ok (.invokevirtual 58, 3) := by decide +kernel
theorem dX7_init_146 : decode cX7_init 146 = .ok (.iinc 2 1, 3) := by decide +kernel
theorem dX7_init_149 : decode cX7_init 149 = .ok (.goto (-15), 3) := by decide +kernel
theorem dX7_init_152 : decode cX7_init 152 = .ok (.iinc 1 1, 3) := by decide +kernel
theorem dX7_init_155 : decode cX7_init 155 = .ok (.goto (-29), 3) := by decide +kernel
theorem dX7_init_158 : decode cX7_init 158 = .ok (.iconst 0, 1) := by decide +kernel
theorem dX7_init_159 : decode cX7_init 159 = .ok (.istore_n 1, 1) := by decide +kernel
theorem dX7_init_160 : decode cX7_init 160 = .ok (.iload_n 1, 1) := by decide +kernel
theorem dX7_init_161 : decode cX7_init 161 = .ok (.bipush 8, 2) := by decide +kernel
theorem dX7_init_163 : decode cX7_init 163 = .ok (.if_icmp .ge 106, 3) := by decide +kernel
theorem dX7_init_166 : decode cX7_init 166 = .ok (.iconst 0, 1) := by decide +kernel
theorem dX7_init_167 : decode cX7_init 167 = .ok (.istore_n 2, 1) := by decide +kernel
theorem dX7_init_168 : decode cX7_init 168 = .ok (.iload_n 2, 1) := by decide +kernel
theorem dX7_init_169 : decode cX7_init 169 = .ok (.bipush 9, 2) := by decide +kernel
theorem dX7_init_171 : decode cX7_init 171 = .ok (.if_icmp .ge 92, 3) := by decide +kernel
theorem dX7_init_174 : decode cX7_init 174 = .ok (.getstatic 62, 3) := by decide +kernel
theorem dX7_init_177 : decode cX7_init 177 = .ok (.iload_n 1, 1) := by decide +kernel
