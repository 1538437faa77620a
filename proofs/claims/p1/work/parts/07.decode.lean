theorem dJ13_bitCount_95d88_46 : decode cJ13_bitCount_95d88 46 = .ok (.ladd, 1) := by decide +kernel
theorem dJ13_bitCount_95d88_47 : decode cJ13_bitCount_95d88 47 = .ok (.lstore_n 0, 1) := by decide +kernel
theorem dJ13_bitCount_95d88_48 : decode cJ13_bitCount_95d88 48 = .ok (.lload_n 0, 1) := by decide +kernel
theorem dJ13_bitCount_95d88_49 : decode cJ13_bitCount_95d88 49 = .ok (.lload_n 0, 1) := by decide +kernel
theorem dJ13_bitCount_95d88_50 : decode cJ13_bitCount_95d88 50 = .ok (.bipush 32, 2) := by decide +kernel
theorem dJ13_bitCount_95d88_52 : decode cJ13_bitCount_95d88 52 = .ok (.lushr, 1) := by decide +kernel
theorem dJ13_bitCount_95d88_53 : decode cJ13_bitCount_95d88 53 = .ok (.ladd, 1) := by decide +kernel
theorem dJ13_bitCount_95d88_54 : decode cJ13_bitCount_95d88 54 = .ok (.lstore_n 0, 1) := by decide +kernel
theorem dJ13_bitCount_95d88_55 : decode cJ13_bitCount_95d88 55 = .ok (.lload_n 0, 1) := by decide +kernel
theorem dJ13_bitCount_95d88_56 : decode cJ13_bitCount_95d88 56 = .ok (.l2i, 1) := by decide +kernel
theorem dJ13_bitCount_95d88_57 : decode cJ13_bitCount_95d88 57 = .ok (.bipush 127, 2) := by decide +kernel
theorem dJ13_bitCount_95d88_59 : decode cJ13_bitCount_95d88 59 = .ok (.iand, 1) := by decide +kernel
theorem dJ13_bitCount_95d88_60 : decode cJ13_bitCount_95d88 60 = .ok (.ireturn, 1) := by decide +kernel
theorem dJ9_abs_0f7a4_0 : decode cJ9_abs_0f7a4 0 = .ok (.iload_n 0, 1) := by decide +kernel
theorem dJ9_abs_0f7a4_1 : decode cJ9_abs_0f7a4 1 = .ok (.ifCond .ge 8, 3) := by decide +kernel
theorem dJ9_abs_0f7a4_4 : decode cJ9_abs_0f7a4 4 = .ok (.iload_n 0, 1) := by decide +kernel
theorem dJ9_abs_0f7a4_5 : decode cJ9_abs_0f7a4 5 = .ok (.ineg, 1) := by decide +kernel
theorem dJ9_abs_0f7a4_6 : decode cJ9_abs_0f7a4 6 = .ok (.goto 4, 3) := by decide +kernel
theorem dJ9_abs_0f7a4_9 : decode cJ9_abs_0f7a4 9 = .ok (.iload_n 0, 1) := by decide +kernel
theorem dJ9_abs_0f7a4_10 : decode cJ9_abs_0f7a4 10 = .ok (.ireturn, 1) := by decide +kernel
theorem dJ9_max_7cf53_0 : decode cJ9_max_7cf53 0 = .ok (.iload_n 0, 1) := by decide +kernel
theorem dJ9_max_7cf53_1 : decode cJ9_max_7cf53 1 = .ok (.iload_n 1, 1) := by decide +kernel
theorem dJ9_max_7cf53_2 : decode cJ9_max_7cf53 2 = .ok (.if_icmp .lt 7, 3) := by decide +kernel
theorem dJ9_max_7cf53_5 : decode cJ9_max_7cf53 5 = .ok (.iload_n 0, 1) := by decide +kernel
theorem dJ9_max_7cf53_6 : decode cJ9_max_7cf53 6 = .ok (.goto 4, 3) := by decide +kernel
theorem dJ9_max_7cf53_9 : decode cJ9_max_7cf53 9 = .ok (.iload_n 1, 1) := by decide +kernel
theorem dJ9_max_7cf53_10 : decode cJ9_max_7cf53 10 = .ok (.ireturn, 1) := by decide +kernel
theorem dJ9_min_7cf53_0 : decode cJ9_min_7cf53 0 = .ok (.iload_n 0, 1) := by decide +kernel
theorem dJ9_min_7cf53_1 : decode cJ9_min_7cf53 1 = .ok (.iload_n 1, 1) := by decide +kernel
theorem dJ9_min_7cf53_2 : decode cJ9_min_7cf53 2 = .ok (.if_icmp .gt 7, 3) := by decide +kernel
theorem dJ9_min_7cf53_5 : decode cJ9_min_7cf53 5 = .ok (.iload_n 0, 1) := by decide +kernel
theorem dJ9_min_7cf53_6 : decode cJ9_min_7cf53 6 = .ok (.goto 4, 3) := by decide +kernel
theorem dJ9_min_7cf53_9 : decode cJ9_min_7cf53 9 = .ok (.iload_n 1, 1) := by decide +kernel
theorem dJ9_min_7cf53_10 : decode cJ9_min_7cf53 10 = .ok (.ireturn, 1) := by decide +kernel
theorem dJxa1e45_init_da8c8_0 : decode cJxa1e45_init_da8c8 0 = .ok (.aload_n 0, 1) := by decide +kernel
theorem dJxa1e45_init_da8c8_1 : decode cJxa1e45_init_da8c8 1 = .ok (.invokespecial 1, 3) := by decide +kernel
theorem dJxa1e45_init_da8c8_4 : decode cJxa1e45_init_da8c8 4 = .ok (.return_, 1) := by decide +kernel
set_option maxRecDepth 20000 in
theorem ggJxc12de_init_da8c8_Jxa1e45_init_da8c8 : GoodIn wsJxc12de_init_da8c8 wsJxa1e45_init_da8c8 := goodIn_r _ [5, 6, 7, 8] (by decide +kernel) (by decide +kernel)
set_option maxRecDepth 20000 in
theorem gJxc12de_init_da8c8_Jxa1e45_init_da8c8 : GoodIn wsJxc12de_init_da8c8 (wsJxa1e45_init_da8c8) := ggJxc12de_init_da8c8_Jxa1e45_init_da8c8
theorem dJxc12de_init_da8c8_0 : decode cJxc12de_init_da8c8 0 = .ok (.aload_n 0, 1) := by decide +kernel
theorem dJxc12de_init_da8c8_1 : decode cJxc12de_init_da8c8 1 = .ok (.invokespecial 1, 3) := by decide +kernel
theorem dJxc12de_init_da8c8_4 : decode cJxc12de_init_da8c8 4 = .ok (.aload_n 0, 1) := by decide +kernel
theorem dJxc12de_init_da8c8_5 : decode cJxc12de_init_da8c8 5 = .ok (.iconst 0, 1) := by decide +kernel
theorem dJxc12de_init_da8c8_6 : decode cJxc12de_init_da8c8 6 = .ok (.putfield 7, 3) := by decide +kernel
theorem dJxc12de_init_da8c8_9 : decode cJxc12de_init_da8c8 9 = .ok (.return_, 1) := by decide +kernel
theorem dJx35411_init_45d68_0 : decode cJx35411_init_45d68 0 = .ok (.aload_n 0, 1) := by decide +kernel
theorem dJx35411_init_45d68_1 : decode cJx35411_init_45d68 1 = .ok (.aload_n 1, 1) := by decide +kernel
theorem dJx35411_init_45d68_2 : decode cJx35411_init_45d68 2 = .ok (.putfield 1, 3) := by decide +kernel
theorem dJx35411_init_45d68_5 : decode cJx35411_init_45d68 5 = .ok (.aload_n 0, 1) := by decide +kernel
theorem dJx35411_init_45d68_6 : decode cJx35411_init_45d68 6 = .ok (.invokespecial 7, 3) := by decide +kernel
theorem dJx35411_init_45d68_9 : decode cJx35411_init_45d68 9 = .ok (.aload_n 0, 1) := by decide +kernel
theorem dJx35411_init_45d68_10 : decode cJx35411_init_45d68 10 = .ok (.iconst (-1), 1) := by decide +kernel
theorem dJx35411_init_45d68_11 : decode cJx35411_init_45d68 11 = .ok (.putfield 13, 3) := by decide +kernel
theorem dJx35411_init_45d68_14 : decode cJx35411_init_45d68 14 = .ok (.aload_n 0, 1) := by decide +kernel
theorem dJx35411_init_45d68_15 : decode cJx35411_init_45d68 15 = .ok (.aload_n 0, 1) := by decide +kernel
theorem dJx35411_init_45d68_16 : decode cJx35411_init_45d68 16 = .ok (.getfield 1, 3) := by decide +kernel
theorem dJx35411_init_45d68_19 : decode cJx35411_init_45d68 19 = .ok (.getfield 17, 3) := by decide +kernel
theorem dJx35411_init_45d68_22 : decode cJx35411_init_45d68 22 = .ok (.putfield 22, 3) := by decide +kernel
theorem dJx35411_init_45d68_25 : decode cJx35411_init_45d68 25 = .ok (.return_, 1) := by decide +kernel
theorem dJx35411_hasNext_aae02_0 : decode cJx35411_hasNext_aae02 0 = .ok (.aload_n 0, 1) := by decide +kernel
theorem dJx35411_hasNext_aae02_1 : decode cJx35411_hasNext_aae02 1 = .ok (.getfield 25, 3) := by decide +kernel
theorem dJx35411_hasNext_aae02_4 : decode cJx35411_hasNext_aae02 4 = .ok (.aload_n 0, 1) := by decide +kernel
theorem dJx35411_hasNext_aae02_5 : decode cJx35411_hasNext_aae02 5 = .ok (.getfield 1, 3) := by decide +kernel
theorem dJx35411_hasNext_aae02_8 : decode cJx35411_hasNext_aae02 8 = .ok (.getfield 28, 3) := by decide +kernel
theorem dJx35411_hasNext_aae02_11 : decode cJx35411_hasNext_aae02 11 = .ok (.if_icmp .eq 7, 3) := by decide +kernel
theorem dJx35411_hasNext_aae02_14 : decode cJx35411_hasNext_aae02 14 = .ok (.iconst 1, 1) := by decide +kernel
theorem dJx35411_hasNext_aae02_15 : decode cJx35411_hasNext_aae02 15 = .ok (.goto 4, 3) := by decide +kernel
theorem dJx35411_hasNext_aae02_18 : decode cJx35411_hasNext_aae02 18 = .ok (.iconst 0, 1) := by decide +kernel
theorem dJx35411_hasNext_aae02_19 : decode cJx35411_hasNext_aae02 19 = .ok (.ireturn, 1) := by decide +kernel
set_option maxRecDepth 20000 in
theorem ggJx35411_next_0502b_Jx35411_checkForComodification_da8c8 : GoodIn wsJx35411_next_0502b wsJx35411_checkForComodification_da8c8 := goodIn_r _ [9, 2, 10, 11, 12, 13, 14, 15, 16, 17, 18, 19] (by decide +kernel) (by decide +kernel)
set_option maxRecDepth 20000 in
theorem gJx35411_next_0502b_Jx35411_checkForComodification_da8c8 : GoodIn wsJx35411_next_0502b (wsV RJx35411 31 RJx35411 yJx35411_checkForComodification_da8c8 wsJx35411_checkForComodification_da8c8) := goodIn_app (goodIn_of _ (by decide +kernel)) ggJx35411_next_0502b_Jx35411_checkForComodification_da8c8
theorem dJx35411_next_0502b_0 : decode cJx35411_next_0502b 0 = .ok (.aload_n 0, 1) := by decide +kernel
theorem dJx35411_next_0502b_1 : decode cJx35411_next_0502b 1 = .ok (.invokevirtual 31, 3) := by decide +kernel
theorem dJx35411_next_0502b_4 : decode cJx35411_next_0502b 4 = .ok (.aload_n 0, 1) := by decide +kernel
theorem dJx35411_next_0502b_5 : decode cJx35411_next_0502b 5 = .ok (.getfield 25, 3) := by decide +kernel
theorem dJx35411_next_0502b_8 : decode cJx35411_next_0502b 8 = .ok (.istore_n 1, 1) := by decide +kernel
theorem dJx35411_next_0502b_9 : decode cJx35411_next_0502b 9 = .ok (.iload_n 1, 1) := by decide +kernel
theorem dJx35411_next_0502b_10 : decode cJx35411_next_0502b 10 = .ok (.aload_n 0, 1) := by decide +kernel
theorem dJx35411_next_0502b_11 : decode cJx35411_next_0502b 11 = .ok (.getfield 1, 3) := by decide +kernel
theorem dJx35411_next_0502b_14 : decode cJx35411_next_0502b 14 = .ok (.getfield 28, 3) := by decide +kernel
theorem dJx35411_next_0502b_17 : decode cJx35411_next_0502b 17 = .ok (.if_icmp .lt 11, 3) := by decide +kernel
theorem dJx35411_next_0502b_20 : decode cJx35411_next_0502b 20 = .ok (.new 34, 3) := by decide +kernel
theorem dJx35411_next_0502b_23 : decode cJx35411_next_0502b 23 = .ok (.dup, 1) := by decide +kernel
theorem dJx35411_next_0502b_24 : decode cJx35411_next_0502b 24 = .ok (.invokespecial 36, 3) := by decide +kernel
theorem dJx35411_next_0502b_27 : decode cJx35411_next_0502b 27 = .ok (.athrow, 1) := by decide +kernel
theorem dJx35411_next_0502b_28 : decode cJx35411_next_0502b 28 = .ok (.aload_n 0, 1) := by decide +kernel
theorem dJx35411_next_0502b_29 : decode cJx35411_next_0502b 29 = .ok (.getfield 1, 3) := by decide +kernel
theorem dJx35411_next_0502b_32 : decode cJx35411_next_0502b 32 = .ok (.getfield 37, 3) := by decide +kernel
theorem dJx35411_next_0502b_35 : decode cJx35411_next_0502b 35 = .ok (.astore_n 2, 1) := by decide +kernel
theorem dJx35411_next_0502b_36 : decode cJx35411_next_0502b 36 = .ok (.iload_n 1, 1) := by decide +kernel
theorem dJx35411_next_0502b_37 : decode cJx35411_next_0502b 37 = .ok (.aload_n 2, 1) := by decide +kernel
theorem dJx35411_next_0502b_38 : decode cJx35411_next_0502b 38 = .ok (.arraylength, 1) := by decide +kernel
theorem dJx35411_next_0502b_39 : decode cJx35411_next_0502b 39 = .ok (.if_icmp .lt 11, 3) := by decide +kernel
theorem dJx35411_next_0502b_42 : decode cJx35411_next_0502b 42 = .ok (.new 41, 3) := by decide +kernel
theorem dJx35411_next_0502b_45 : decode cJx35411_next_0502b 45 = .ok (.dup, 1) := by decide +kernel
theorem dJx35411_next_0502b_46 : decode cJx35411_next_0502b 46 = .ok (.invokespecial 43, 3) := by decide +kernel
theorem dJx35411_next_0502b_49 : decode cJx35411_next_0502b 49 = .ok (.athrow, 1) := by decide +kernel
theorem dJx35411_next_0502b_50 : decode cJx35411_next_0502b 50 = .ok (.aload_n 0, 1) := by decide +kernel
theorem dJx35411_next_0502b_51 : decode cJx35411_next_0502b 51 = .ok (.iload_n 1, 1) := by decide +kernel
theorem dJx35411_next_0502b_52 : decode cJx35411_next_0502b 52 = .ok (.iconst 1, 1) := by decide +kernel
theorem dJx35411_next_0502b_53 : decode cJx35411_next_0502b 53 = .ok (.iadd, 1) := by decide +kernel
theorem dJx35411_next_0502b_54 : decode cJx35411_next_0502b 54 = .ok (.putfield 25, 3) := by decide +kernel
theorem dJx35411_next_0502b_57 : decode cJx35411_next_0502b 57 = .ok (.aload_n 2, 1) := by decide +kernel
theorem dJx35411_next_0502b_58 : decode cJx35411_next_0502b 58 = .ok (.aload_n 0, 1) := by decide +kernel
theorem dJx35411_next_0502b_59 : decode cJx35411_next_0502b 59 = .ok (.iload_n 1, 1) := by decide +kernel
theorem dJx35411_next_0502b_60 : decode cJx35411_next_0502b 60 = .ok (.dup_x1, 1) := by decide +kernel
theorem dJx35411_next_0502b_61 : decode cJx35411_next_0502b 61 = .ok (.putfield 13, 3) := by decide +kernel
theorem dJx35411_next_0502b_64 : decode cJx35411_next_0502b 64 = .ok (.aaload, 1) := by decide +kernel
theorem dJx35411_next_0502b_65 : decode cJx35411_next_0502b 65 = .ok (.areturn, 1) := by decide +kernel
theorem dJx35411_checkForComodification_da8c8_0 : decode cJx35411_checkForComodification_da8c8 0 = .ok (.aload_n 0, 1) := by decide +kernel
theorem dJx35411_checkForComodification_da8c8_1 : decode cJx35411_checkForComodification_da8c8 1 = .ok (.getfield 1, 3) := by decide +kernel
theorem dJx35411_checkForComodification_da8c8_4 : decode cJx35411_checkForComodification_da8c8 4 = .ok (.getfield 17, 3) := by decide +kernel
theorem dJx35411_checkForComodification_da8c8_7 : decode cJx35411_checkForComodification_da8c8 7 = .ok (.aload_n 0, 1) := by decide +kernel
theorem dJx35411_checkForComodification_da8c8_8 : decode cJx35411_checkForComodification_da8c8 8 = .ok (.getfield 22, 3) := by decide +kernel
theorem dJx35411_checkForComodification_da8c8_11 : decode cJx35411_checkForComodification_da8c8 11 = .ok (.if_icmp .eq 11, 3) := by decide +kernel
theorem dJx35411_checkForComodification_da8c8_14 : decode cJx35411_checkForComodification_da8c8 14 = .ok (.new 41, 3) := by decide +kernel
theorem dJx35411_checkForComodification_da8c8_17 : decode cJx35411_checkForComodification_da8c8 17 = .ok (.dup, 1) := by decide +kernel
theorem dJx35411_checkForComodification_da8c8_18 : decode cJx35411_checkForComodification_da8c8 18 = .ok (.invokespecial 43, 3) := by decide +kernel
theorem dJx35411_checkForComodification_da8c8_21 : decode cJx35411_checkForComodification_da8c8 21 = .ok (.athrow, 1) := by decide +kernel
theorem dJx35411_checkForComodification_da8c8_22 : decode cJx35411_checkForComodification_da8c8 22 = .ok (.return_, 1) := by decide +kernel
set_option maxRecDepth 20000 in
theorem ggJx4a65c_init_da8c8_Jxc12de_init_da8c8 : GoodIn wsJx4a65c_init_da8c8 wsJxc12de_init_da8c8 := goodIn_r _ [6, 7, 8, 9, 10, 11, 12, 13, 14, 15, 16, 17] (by decide +kernel) (by decide +kernel)
set_option maxRecDepth 20000 in
theorem gJx4a65c_init_da8c8_Jxc12de_init_da8c8 : GoodIn wsJx4a65c_init_da8c8 (wsJxc12de_init_da8c8) := ggJx4a65c_init_da8c8_Jxc12de_init_da8c8
theorem dJx4a65c_init_da8c8_0 : decode cJx4a65c_init_da8c8 0 = .ok (.aload_n 0, 1) := by decide +kernel
theorem dJx4a65c_init_da8c8_1 : decode cJx4a65c_init_da8c8 1 = .ok (.invokespecial 1, 3) := by decide +kernel
theorem dJx4a65c_init_da8c8_4 : decode cJx4a65c_init_da8c8 4 = .ok (.aload_n 0, 1) := by decide +kernel
theorem dJx4a65c_init_da8c8_5 : decode cJx4a65c_init_da8c8 5 = .ok (.getstatic 39, 3) := by decide +kernel
theorem dJx4a65c_init_da8c8_8 : decode cJx4a65c_init_da8c8 8 = .ok (.putfield 9, 3) := by decide +kernel
theorem dJx4a65c_init_da8c8_11 : decode cJx4a65c_init_da8c8 11 = .ok (.return_, 1) := by decide +kernel
set_option maxRecDepth 20000 in
theorem ggJx4a65c_grow_92f84_J8_newLength_cabcc : GoodIn wsJx4a65c_grow_92f84 wsJ8_newLength_cabcc := goodIn_r _ [11, 12, 4, 5, 6, 13, 14, 15, 10, 16] (by decide +kernel) (by decide +kernel)
set_option maxRecDepth 20000 in
theorem gJx4a65c_grow_92f84_J8_newLength_cabcc : GoodIn wsJx4a65c_grow_92f84 (va_wsS RJx4a65c 73 yJ8_newLength_cabcc wsJ8_newLength_cabcc) := goodIn_app (goodIn_of _ (by decide +kernel)) ggJx4a65c_grow_92f84_J8_newLength_cabcc
set_option maxRecDepth 20000 in
theorem ggJx4a65c_grow_92f84_J7_copyOf_1904c : GoodIn wsJx4a65c_grow_92f84 wsJ7_copyOf_1904c := goodIn_r _ [20, 21, 22, 23, 24, 25, 26, 19, 27, 28, 29, 30, 31, 5, 32, 33, 34, 35, 36] (by decide +kernel) (by decide +kernel)
set_option maxRecDepth 20000 in
theorem gJx4a65c_grow_92f84_J7_copyOf_1904c : GoodIn wsJx4a65c_grow_92f84 (va_wsS RJx4a65c 66 yJ7_copyOf_1904c wsJ7_copyOf_1904c) := goodIn_app (goodIn_of _ (by decide +kernel)) ggJx4a65c_grow_92f84_J7_copyOf_1904c
theorem dJx4a65c_grow_92f84_0 : decode cJx4a65c_grow_92f84 0 = .ok (.aload_n 0, 1) := by decide +kernel
theorem dJx4a65c_grow_92f84_1 : decode cJx4a65c_grow_92f84 1 = .ok (.getfield 9, 3) := by decide +kernel
theorem dJx4a65c_grow_92f84_4 : decode cJx4a65c_grow_92f84 4 = .ok (.arraylength, 1) := by decide +kernel
theorem dJx4a65c_grow_92f84_5 : decode cJx4a65c_grow_92f84 5 = .ok (.istore_n 2, 1) := by decide +kernel
theorem dJx4a65c_grow_92f84_6 : decode cJx4a65c_grow_92f84 6 = .ok (.iload_n 2, 1) := by decide +kernel
theorem dJx4a65c_grow_92f84_7 : decode cJx4a65c_grow_92f84 7 = .ok (.ifCond .gt 13, 3) := by decide +kernel
theorem dJx4a65c_grow_92f84_10 : decode cJx4a65c_grow_92f84 10 = .ok (.aload_n 0, 1) := by decide +kernel
theorem dJx4a65c_grow_92f84_11 : decode cJx4a65c_grow_92f84 11 = .ok (.getfield 9, 3) := by decide +kernel
theorem dJx4a65c_grow_92f84_14 : decode cJx4a65c_grow_92f84 14 = .ok (.getstatic 39, 3) := by decide +kernel
theorem dJx4a65c_grow_92f84_17 : decode cJx4a65c_grow_92f84 17 = .ok (.if_acmp .eq 28, 3) := by decide +kernel
theorem dJx4a65c_grow_92f84_20 : decode cJx4a65c_grow_92f84 20 = .ok (.iload_n 2, 1) := by decide +kernel
theorem dJx4a65c_grow_92f84_21 : decode cJx4a65c_grow_92f84 21 = .ok (.iload_n 1, 1) := by decide +kernel
theorem dJx4a65c_grow_92f84_22 : decode cJx4a65c_grow_92f84 22 = .ok (.iload_n 2, 1) := by decide +kernel
theorem dJx4a65c_grow_92f84_23 : decode cJx4a65c_grow_92f84 23 = .ok (.isub, 1) := by decide +kernel
theorem dJx4a65c_grow_92f84_24 : decode cJx4a65c_grow_92f84 24 = .ok (.iload_n 2, 1) := by decide +kernel
theorem dJx4a65c_grow_92f84_25 : decode cJx4a65c_grow_92f84 25 = .ok (.iconst 1, 1) := by decide +kernel
theorem dJx4a65c_grow_92f84_26 : decode cJx4a65c_grow_92f84 26 = .ok (.ishr, 1) := by decide +kernel
theorem dJx4a65c_grow_92f84_27 : decode cJx4a65c_grow_92f84 27 = .ok (.invokestatic 73, 3) := by decide +kernel
theorem dJx4a65c_grow_92f84_30 : decode cJx4a65c_grow_92f84 30 = .ok (.istore_n 3, 1) := by decide +kernel
theorem dJx4a65c_grow_92f84_31 : decode cJx4a65c_grow_92f84 31 = .ok (.aload_n 0, 1) := by decide +kernel
theorem dJx4a65c_grow_92f84_32 : decode cJx4a65c_grow_92f84 32 = .ok (.aload_n 0, 1) := by decide +kernel
theorem dJx4a65c_grow_92f84_33 : decode cJx4a65c_grow_92f84 33 = .ok (.getfield 9, 3) := by decide +kernel
theorem dJx4a65c_grow_92f84_36 : decode cJx4a65c_grow_92f84 36 = .ok (.iload_n 3, 1) := by decide +kernel
theorem dJx4a65c_grow_92f84_37 : decode cJx4a65c_grow_92f84 37 = .ok (.invokestatic 66, 3) := by decide +kernel
theorem dJx4a65c_grow_92f84_40 : decode cJx4a65c_grow_92f84 40 = .ok (.dup_x1, 1) := by decide +kernel
theorem dJx4a65c_grow_92f84_41 : decode cJx4a65c_grow_92f84 41 = .ok (.putfield 9, 3) := by decide +kernel
theorem dJx4a65c_grow_92f84_44 : decode cJx4a65c_grow_92f84 44 = .ok (.areturn, 1) := by decide +kernel
theorem dJx4a65c_grow_92f84_45 : decode cJx4a65c_grow_92f84 45 = .ok (.aload_n 0, 1) := by decide +kernel
theorem dJx4a65c_grow_92f84_46 : decode cJx4a65c_grow_92f84 46 = .ok (.bipush 10, 2) := by decide +kernel
theorem dJx4a65c_grow_92f84_48 : decode cJx4a65c_grow_92f84 48 = .ok (.iload_n 1, 1) := by decide +kernel
theorem dJx4a65c_grow_92f84_49 : decode cJx4a65c_grow_92f84 49 = .ok (.invokestatic 79, 3) := by decide +kernel
theorem dJx4a65c_grow_92f84_52 : decode cJx4a65c_grow_92f84 52 = .ok (.anewarray 7, 3) := by decide +kernel
theorem dJx4a65c_grow_92f84_55 : decode cJx4a65c_grow_92f84 55 = .ok (.dup_x1, 1) := by decide +kernel
theorem dJx4a65c_grow_92f84_56 : decode cJx4a65c_grow_92f84 56 = .ok (.putfield 9, 3) := by decide +kernel
theorem dJx4a65c_grow_92f84_59 : decode cJx4a65c_grow_92f84 59 = .ok (.areturn, 1) := by decide +kernel
set_option maxRecDepth 20000 in
theorem ggJx4a65c_grow_d5877_Jx4a65c_grow_92f84 : GoodIn wsJx4a65c_grow_d5877 wsJx4a65c_grow_92f84 := goodIn_r _ [6, 7, 8, 9, 10, 11, 12, 13, 14, 15, 16, 17, 18, 19, 20, 21, 22, 23, 24, 25, 26, 27, 28, 29, 30, 31, 32, 33, 34, 35, 36, 37, 38, 39, 40, 41, 42, 43, 44, 45] (by decide +kernel) (by decide +kernel)
set_option maxRecDepth 20000 in
theorem gJx4a65c_grow_d5877_Jx4a65c_grow_92f84 : GoodIn wsJx4a65c_grow_d5877 (wsV RJx4a65c 69 RJx4a65c yJx4a65c_grow_92f84 wsJx4a65c_grow_92f84) := goodIn_app (goodIn_of _ (by decide +kernel)) ggJx4a65c_grow_d5877_Jx4a65c_grow_92f84
theorem dJx4a65c_grow_d5877_0 : decode cJx4a65c_grow_d5877 0 = .ok (.aload_n 0, 1) := by decide +kernel
theorem dJx4a65c_grow_d5877_1 : decode cJx4a65c_grow_d5877 1 = .ok (.aload_n 0, 1) := by decide +kernel
theorem dJx4a65c_grow_d5877_2 : decode cJx4a65c_grow_d5877 2 = .ok (.getfield 48, 3) := by decide +kernel
theorem dJx4a65c_grow_d5877_5 : decode cJx4a65c_grow_d5877 5 = .ok (.iconst 1, 1) := by decide +kernel
theorem dJx4a65c_grow_d5877_6 : decode cJx4a65c_grow_d5877 6 = .ok (.iadd, 1) := by decide +kernel
theorem dJx4a65c_grow_d5877_7 : decode cJx4a65c_grow_d5877 7 = .ok (.invokevirtual 69, 3) := by decide +kernel
theorem dJx4a65c_grow_d5877_10 : decode cJx4a65c_grow_d5877 10 = .ok (.areturn, 1) := by decide +kernel
theorem dJx4a65c_size_8abf5_0 : decode cJx4a65c_size_8abf5 0 = .ok (.aload_n 0, 1) := by decide +kernel
theorem dJx4a65c_size_8abf5_1 : decode cJx4a65c_size_8abf5 1 = .ok (.getfield 48, 3) := by decide +kernel
theorem dJx4a65c_size_8abf5_4 : decode cJx4a65c_size_8abf5 4 = .ok (.ireturn, 1) := by decide +kernel
theorem dJx4a65c_isEmpty_aae02_0 : decode cJx4a65c_isEmpty_aae02 0 = .ok (.aload_n 0, 1) := by decide +kernel
theorem dJx4a65c_isEmpty_aae02_1 : decode cJx4a65c_isEmpty_aae02 1 = .ok (.getfield 48, 3) := by decide +kernel
theorem dJx4a65c_isEmpty_aae02_4 : decode cJx4a65c_isEmpty_aae02 4 = .ok (.ifCond .ne 7, 3) := by decide +kernel
theorem dJx4a65c_isEmpty_aae02_7 : decode cJx4a65c_isEmpty_aae02 7 = .ok (.iconst 1, 1) := by decide +kernel
theorem dJx4a65c_isEmpty_aae02_8 : decode cJx4a65c_isEmpty_aae02 8 = .ok (.goto 4, 3) := by decide +kernel
theorem dJx4a65c_isEmpty_aae02_11 : decode cJx4a65c_isEmpty_aae02 11 = .ok (.iconst 0, 1) := by decide +kernel
theorem dJx4a65c_isEmpty_aae02_12 : decode cJx4a65c_isEmpty_aae02 12 = .ok (.ireturn, 1) := by decide +kernel
theorem dJx4a65c_elementData_915e3_0 : decode cJx4a65c_elementData_915e3 0 = .ok (.aload_n 0, 1) := by decide +kernel
theorem dJx4a65c_elementData_915e3_1 : decode cJx4a65c_elementData_915e3 1 = .ok (.getfield 9, 3) := by decide +kernel
theorem dJx4a65c_elementData_915e3_4 : decode cJx4a65c_elementData_915e3 4 = .ok (.iload_n 1, 1) := by decide +kernel
theorem dJx4a65c_elementData_915e3_5 : decode cJx4a65c_elementData_915e3 5 = .ok (.aaload, 1) := by decide +kernel
theorem dJx4a65c_elementData_915e3_6 : decode cJx4a65c_elementData_915e3 6 = .ok (.areturn, 1) := by decide +kernel
set_option maxRecDepth 20000 in
theorem ggJx4a65c_get_915e3_J15_checkIndex_7cf53 : GoodIn wsJx4a65c_get_915e3 wsJ15_checkIndex_7cf53 := goodIn_r _ [5, 6, 7, 8, 9] (by decide +kernel) (by decide +kernel)
set_option maxRecDepth 20000 in
theorem gJx4a65c_get_915e3_J15_checkIndex_7cf53 : GoodIn wsJx4a65c_get_915e3 (va_wsS RJx4a65c 118 yJ15_checkIndex_7cf53 wsJ15_checkIndex_7cf53) := goodIn_app (goodIn_of _ (by decide +kernel)) ggJx4a65c_get_915e3_J15_checkIndex_7cf53
set_option maxRecDepth 20000 in
theorem ggJx4a65c_get_915e3_Jx4a65c_elementData_915e3 : GoodIn wsJx4a65c_get_915e3 wsJx4a65c_elementData_915e3 := goodIn_r _ [14, 15, 16, 17, 18] (by decide +kernel) (by decide +kernel)
set_option maxRecDepth 20000 in
theorem gJx4a65c_get_915e3_Jx4a65c_elementData_915e3 : GoodIn wsJx4a65c_get_915e3 (wsV RJx4a65c 123 RJx4a65c yJx4a65c_elementData_915e3 wsJx4a65c_elementData_915e3) := goodIn_app (goodIn_of _ (by decide +kernel)) ggJx4a65c_get_915e3_Jx4a65c_elementData_915e3
theorem dJx4a65c_get_915e3_0 : decode cJx4a65c_get_915e3 0 = .ok (.iload_n 1, 1) := by decide +kernel
theorem dJx4a65c_get_915e3_1 : decode cJx4a65c_get_915e3 1 = .ok (.aload_n 0, 1) := by decide +kernel
theorem dJx4a65c_get_915e3_2 : decode cJx4a65c_get_915e3 2 = .ok (.getfield 48, 3) := by decide +kernel
theorem dJx4a65c_get_915e3_5 : decode cJx4a65c_get_915e3 5 = .ok (.invokestatic 118, 3) := by decide +kernel
theorem dJx4a65c_get_915e3_8 : decode cJx4a65c_get_915e3 8 = .ok (.pop, 1) := by decide +kernel
theorem dJx4a65c_get_915e3_9 : decode cJx4a65c_get_915e3 9 = .ok (.aload_n 0, 1) := by decide +kernel
theorem dJx4a65c_get_915e3_10 : decode cJx4a65c_get_915e3 10 = .ok (.iload_n 1, 1) := by decide +kernel
theorem dJx4a65c_get_915e3_11 : decode cJx4a65c_get_915e3 11 = .ok (.invokevirtual 123, 3) := by decide +kernel
theorem dJx4a65c_get_915e3_14 : decode cJx4a65c_get_915e3 14 = .ok (.areturn, 1) := by decide +kernel
set_option maxRecDepth 20000 in
theorem ggJx4a65c_add_72be8_Jx4a65c_grow_d5877 : GoodIn wsJx4a65c_add_72be8 wsJx4a65c_grow_d5877 := goodIn_r _ [6, 1, 7, 8, 9, 5, 10, 11, 12, 13, 14, 15, 16, 17, 18, 19, 20, 21, 22, 23, 24, 25, 26, 27, 28, 29, 30, 31, 32, 33, 34, 35, 36, 37, 38, 39, 40, 41, 42, 43, 44, 45, 46, 47, 48, 49] (by decide +kernel) (by decide +kernel)
set_option maxRecDepth 20000 in
theorem gJx4a65c_add_72be8_Jx4a65c_grow_d5877 : GoodIn wsJx4a65c_add_72be8 (wsV RJx4a65c 129 RJx4a65c yJx4a65c_grow_d5877 wsJx4a65c_grow_d5877) := goodIn_app (goodIn_of _ (by decide +kernel)) ggJx4a65c_add_72be8_Jx4a65c_grow_d5877
theorem dJx4a65c_add_72be8_0 : decode cJx4a65c_add_72be8 0 = .ok (.iload_n 3, 1) := by decide +kernel
theorem dJx4a65c_add_72be8_1 : decode cJx4a65c_add_72be8 1 = .ok (.aload_n 2, 1) := by decide +kernel
theorem dJx4a65c_add_72be8_2 : decode cJx4a65c_add_72be8 2 = .ok (.arraylength, 1) := by decide +kernel
theorem dJx4a65c_add_72be8_3 : decode cJx4a65c_add_72be8 3 = .ok (.if_icmp .ne 8, 3) := by decide +kernel
theorem dJx4a65c_add_72be8_6 : decode cJx4a65c_add_72be8 6 = .ok (.aload_n 0, 1) := by decide +kernel
theorem dJx4a65c_add_72be8_7 : decode cJx4a65c_add_72be8 7 = .ok (.invokevirtual 129, 3) := by decide +kernel
theorem dJx4a65c_add_72be8_10 : decode cJx4a65c_add_72be8 10 = .ok (.astore_n 2, 1) := by decide +kernel
theorem dJx4a65c_add_72be8_11 : decode cJx4a65c_add_72be8 11 = .ok (.aload_n 2, 1) := by decide +kernel
theorem dJx4a65c_add_72be8_12 : decode cJx4a65c_add_72be8 12 = .ok (.iload_n 3, 1) := by decide +kernel
theorem dJx4a65c_add_72be8_13 : decode cJx4a65c_add_72be8 13 = .ok (.aload_n 1, 1) := by decide +kernel
theorem dJx4a65c_add_72be8_14 : decode cJx4a65c_add_72be8 14 = .ok (.aastore, 1) := by decide +kernel
theorem dJx4a65c_add_72be8_15 : decode cJx4a65c_add_72be8 15 = .ok (.aload_n 0, 1) := by decide +kernel
theorem dJx4a65c_add_72be8_16 : decode cJx4a65c_add_72be8 16 = .ok (.iload_n 3, 1) := by decide +kernel
theorem dJx4a65c_add_72be8_17 : decode cJx4a65c_add_72be8 17 = .ok (.iconst 1, 1) := by decide +kernel
theorem dJx4a65c_add_72be8_18 : decode cJx4a65c_add_72be8 18 = .ok (.iadd, 1) := by decide +kernel
theorem dJx4a65c_add_72be8_19 : decode cJx4a65c_add_72be8 19 = .ok (.putfield 48, 3) := by decide +kernel
theorem dJx4a65c_add_72be8_22 : decode cJx4a65c_add_72be8 22 = .ok (.return_, 1) := by decide +kernel
set_option maxRecDepth 20000 in
theorem ggJx4a65c_add_9ea2d_Jx4a65c_add_72be8 : GoodIn wsJx4a65c_add_9ea2d wsJx4a65c_add_72be8 := goodIn_r _ [9, 4, 10, 11, 12, 8, 13, 14, 15, 16, 17, 3, 18, 19, 20, 21, 22, 23, 24, 25, 26, 27, 28, 29, 30, 31, 32, 33, 34, 35, 36, 37, 38, 39, 40, 41, 42, 43, 44, 45, 46, 47, 48, 49, 50, 51, 52, 53, 54, 55] (by decide +kernel) (by decide +kernel)
set_option maxRecDepth 20000 in
theorem gJx4a65c_add_9ea2d_Jx4a65c_add_72be8 : GoodIn wsJx4a65c_add_9ea2d (wsV RJx4a65c 131 RJx4a65c yJx4a65c_add_72be8 wsJx4a65c_add_72be8) := goodIn_app (goodIn_of _ (by decide +kernel)) ggJx4a65c_add_9ea2d_Jx4a65c_add_72be8
theorem dJx4a65c_add_9ea2d_0 : decode cJx4a65c_add_9ea2d 0 = .ok (.aload_n 0, 1) := by decide +kernel
theorem dJx4a65c_add_9ea2d_1 : decode cJx4a65c_add_9ea2d 1 = .ok (.dup, 1) := by decide +kernel
theorem dJx4a65c_add_9ea2d_2 : decode cJx4a65c_add_9ea2d 2 = .ok (.getfield 63, 3) := by decide +kernel
theorem dJx4a65c_add_9ea2d_5 : decode cJx4a65c_add_9ea2d 5 = .ok (.iconst 1, 1) := by decide +kernel
theorem dJx4a65c_add_9ea2d_6 : decode cJx4a65c_add_9ea2d 6 = .ok (.iadd, 1) := by decide +kernel
theorem dJx4a65c_add_9ea2d_7 : decode cJx4a65c_add_9ea2d 7 = .ok (.putfield 63, 3) := by decide +kernel
theorem dJx4a65c_add_9ea2d_10 : decode cJx4a65c_add_9ea2d 10 = .ok (.aload_n 0, 1) := by decide +kernel
theorem dJx4a65c_add_9ea2d_11 : decode cJx4a65c_add_9ea2d 11 = .ok (.aload_n 1, 1) := by decide +kernel
theorem dJx4a65c_add_9ea2d_12 : decode cJx4a65c_add_9ea2d 12 = .ok (.aload_n 0, 1) := by decide +kernel
theorem dJx4a65c_add_9ea2d_13 : decode cJx4a65c_add_9ea2d 13 = .ok (.getfield 9, 3) := by decide +kernel
theorem dJx4a65c_add_9ea2d_16 : decode cJx4a65c_add_9ea2d 16 = .ok (.aload_n 0, 1) := by decide +kernel
theorem dJx4a65c_add_9ea2d_17 : decode cJx4a65c_add_9ea2d 17 = .ok (.getfield 48, 3) := by decide +kernel
theorem dJx4a65c_add_9ea2d_20 : decode cJx4a65c_add_9ea2d 20 = .ok (.invokevirtual 131, 3) := by decide +kernel
theorem dJx4a65c_add_9ea2d_23 : decode cJx4a65c_add_9ea2d 23 = .ok (.iconst 1, 1) := by decide +kernel
theorem dJx4a65c_add_9ea2d_24 : decode cJx4a65c_add_9ea2d 24 = .ok (.ireturn, 1) := by decide +kernel
set_option maxRecDepth 20000 in
theorem ggJx4a65c_iterator_32c93_Jx35411_init_45d68 : GoodIn wsJx4a65c_iterator_32c93 wsJx35411_init_45d68 := goodIn_r _ [6, 7, 8, 9, 10, 11, 12, 13, 14, 15, 16, 17, 18, 19, 20, 21] (by decide +kernel) (by decide +kernel)
set_option maxRecDepth 20000 in
theorem gJx4a65c_iterator_32c93_Jx35411_init_45d68 : GoodIn wsJx4a65c_iterator_32c93 (wsJx35411_init_45d68) := ggJx4a65c_iterator_32c93_Jx35411_init_45d68
theorem dJx4a65c_iterator_32c93_0 : decode cJx4a65c_iterator_32c93 0 = .ok (.new 267, 3) := by decide +kernel
theorem dJx4a65c_iterator_32c93_3 : decode cJx4a65c_iterator_32c93 3 = .ok (.dup, 1) := by decide +kernel
theorem dJx4a65c_iterator_32c93_4 : decode cJx4a65c_iterator_32c93 4 = .ok (.aload_n 0, 1) := by decide +kernel
theorem dJx4a65c_iterator_32c93_5 : decode cJx4a65c_iterator_32c93 5 = .ok (.invokespecial 269, 3) := by decide +kernel
theorem dJx4a65c_iterator_32c93_8 : decode cJx4a65c_iterator_32c93 8 = .ok (.areturn, 1) := by decide +kernel
theorem dJ7_fill_53178_0 : decode cJ7_fill_53178 0 = .ok (.iconst 0, 1) := by decide +kernel
theorem dJ7_fill_53178_1 : decode cJ7_fill_53178 1 = .ok (.istore_n 2, 1) := by decide +kernel
theorem dJ7_fill_53178_2 : decode cJ7_fill_53178 2 = .ok (.aload_n 0, 1) := by decide +kernel
theorem dJ7_fill_53178_3 : decode cJ7_fill_53178 3 = .ok (.arraylength, 1) := by decide +kernel
theorem dJ7_fill_53178_4 : decode cJ7_fill_53178 4 = .ok (.istore_n 3, 1) := by decide +kernel
theorem dJ7_fill_53178_5 : decode cJ7_fill_53178 5 = .ok (.iload_n 2, 1) := by decide +kernel
theorem dJ7_fill_53178_6 : decode cJ7_fill_53178 6 = .ok (.iload_n 3, 1) := by decide +kernel
theorem dJ7_fill_53178_7 : decode cJ7_fill_53178 7 = .ok (.if_icmp .ge 13, 3) := by decide +kernel
theorem dJ7_fill_53178_10 : decode cJ7_fill_53178 10 = .ok (.aload_n 0, 1) := by decide +kernel
theorem dJ7_fill_53178_11 : decode cJ7_fill_53178 11 = .ok (.iload_n 2, 1) := by decide +kernel
theorem dJ7_fill_53178_12 : decode cJ7_fill_53178 12 = .ok (.iload_n 1, 1) := by decide +kernel
theorem dJ7_fill_53178_13 : decode cJ7_fill_53178 13 = .ok (.iastore, 1) := by decide +kernel
theorem dJ7_fill_53178_14 : decode cJ7_fill_53178 14 = .ok (.iinc 2 1, 3) := by decide +kernel
theorem dJ7_fill_53178_17 : decode cJ7_fill_53178 17 = .ok (.goto (-12), 3) := by decide +kernel
theorem dJ7_fill_53178_20 : decode cJ7_fill_53178 20 = .ok (.return_, 1) := by decide +kernel
set_option maxRecDepth 20000 in
theorem ggJ7_copyOf_1904c_J7_copyOf_6403c : GoodIn wsJ7_copyOf_1904c wsJ7_copyOf_6403c := goodIn_r _ [8, 9, 10, 11, 12, 13, 14, 15, 16, 17, 18] (by decide +kernel) (by decide +kernel)
set_option maxRecDepth 20000 in
theorem gJ7_copyOf_1904c_J7_copyOf_6403c : GoodIn wsJ7_copyOf_1904c (va_wsS RJ7 300 yJ7_copyOf_6403c wsJ7_copyOf_6403c) := goodIn_app (goodIn_of _ (by decide +kernel)) ggJ7_copyOf_1904c_J7_copyOf_6403c
theorem dJ7_copyOf_1904c_0 : decode cJ7_copyOf_1904c 0 = .ok (.aload_n 0, 1) := by decide +kernel
theorem dJ7_copyOf_1904c_1 : decode cJ7_copyOf_1904c 1 = .ok (.iload_n 1, 1) := by decide +kernel
theorem dJ7_copyOf_1904c_2 : decode cJ7_copyOf_1904c 2 = .ok (.aload_n 0, 1) := by decide +kernel
theorem dJ7_copyOf_1904c_3 : decode cJ7_copyOf_1904c 3 = .ok (.invokevirtual 86, 3) := by decide +kernel
theorem dJ7_copyOf_1904c_6 : decode cJ7_copyOf_1904c 6 = .ok (.invokestatic 300, 3) := by decide +kernel
theorem dJ7_copyOf_1904c_9 : decode cJ7_copyOf_1904c 9 = .ok (.areturn, 1) := by decide +kernel
theorem dJ7_copyOf_6403c_0 : decode cJ7_copyOf_6403c 0 = .ok (.aload_n 2, 1) := by decide +kernel
theorem dJ7_copyOf_6403c_1 : decode cJ7_copyOf_6403c 1 = .ok (.ldc 110, 2) := by decide +kernel
theorem dJ7_copyOf_6403c_3 : decode cJ7_copyOf_6403c 3 = .ok (.if_acmp .ne 10, 3) := by decide +kernel
theorem dJ7_copyOf_6403c_6 : decode cJ7_copyOf_6403c 6 = .ok (.iload_n 1, 1) := by decide +kernel
theorem dJ7_copyOf_6403c_7 : decode cJ7_copyOf_6403c 7 = .ok (.anewarray 2, 3) := by decide +kernel
theorem dJ7_copyOf_6403c_10 : decode cJ7_copyOf_6403c 10 = .ok (.goto 14, 3) := by decide +kernel
theorem dJ7_copyOf_6403c_13 : decode cJ7_copyOf_6403c 13 = .ok (.aload_n 2, 1) := by decide +kernel
theorem dJ7_copyOf_6403c_14 : decode cJ7_copyOf_6403c 14 = .ok (.invokevirtual 90, 3) := by decide +kernel
theorem dJ7_copyOf_6403c_17 : decode cJ7_copyOf_6403c 17 = .ok (.iload_n 1, 1) := by decide +kernel
theorem dJ7_copyOf_6403c_18 : decode cJ7_copyOf_6403c 18 = .ok (.invokestatic 95, 3) := by decide +kernel
theorem dJ7_copyOf_6403c_21 : decode cJ7_copyOf_6403c 21 = .ok (.checkcast 110, 3) := by decide +kernel
theorem dJ7_copyOf_6403c_24 : decode cJ7_copyOf_6403c 24 = .ok (.astore_n 3, 1) := by decide +kernel
theorem dJ7_copyOf_6403c_25 : decode cJ7_copyOf_6403c 25 = .ok (.aload_n 0, 1) := by decide +kernel
theorem dJ7_copyOf_6403c_26 : decode cJ7_copyOf_6403c 26 = .ok (.iconst 0, 1) := by decide +kernel
theorem dJ7_copyOf_6403c_27 : decode cJ7_copyOf_6403c 27 = .ok (.aload_n 3, 1) := by decide +kernel
theorem dJ7_copyOf_6403c_28 : decode cJ7_copyOf_6403c 28 = .ok (.iconst 0, 1) := by decide +kernel
theorem dJ7_copyOf_6403c_29 : decode cJ7_copyOf_6403c 29 = .ok (.aload_n 0, 1) := by decide +kernel
theorem dJ7_copyOf_6403c_30 : decode cJ7_copyOf_6403c 30 = .ok (.arraylength, 1) := by decide +kernel
theorem dJ7_copyOf_6403c_31 : decode cJ7_copyOf_6403c 31 = .ok (.iload_n 1, 1) := by decide +kernel
theorem dJ7_copyOf_6403c_32 : decode cJ7_copyOf_6403c 32 = .ok (.invokestatic 304, 3) := by decide +kernel
theorem dJ7_copyOf_6403c_35 : decode cJ7_copyOf_6403c 35 = .ok (.invokestatic 150, 3) := by decide +kernel
theorem dJ7_copyOf_6403c_38 : decode cJ7_copyOf_6403c 38 = .ok (.aload_n 3, 1) := by decide +kernel
theorem dJ7_copyOf_6403c_39 : decode cJ7_copyOf_6403c 39 = .ok (.areturn, 1) := by decide +kernel
set_option maxRecDepth 20000 in
theorem ggJ15_checkIndex_7cf53_J3_checkIndex_8e157 : GoodIn wsJ15_checkIndex_7cf53 wsJ3_checkIndex_8e157 := goodIn_r _ [4] (by decide +kernel) (by decide +kernel)
set_option maxRecDepth 20000 in
theorem gJ15_checkIndex_7cf53_J3_checkIndex_8e157 : GoodIn wsJ15_checkIndex_7cf53 (va_wsS RJ15 105 yJ3_checkIndex_8e157 wsJ3_checkIndex_8e157) := goodIn_app (goodIn_of _ (by decide +kernel)) ggJ15_checkIndex_7cf53_J3_checkIndex_8e157
theorem dJ15_checkIndex_7cf53_0 : decode cJ15_checkIndex_7cf53 0 = .ok (.iload_n 0, 1) := by decide +kernel
theorem dJ15_checkIndex_7cf53_1 : decode cJ15_checkIndex_7cf53 1 = .ok (.iload_n 1, 1) := by decide +kernel
theorem dJ15_checkIndex_7cf53_2 : decode cJ15_checkIndex_7cf53 2 = .ok (.aconst_null, 1) := by decide +kernel
theorem dJ15_checkIndex_7cf53_3 : decode cJ15_checkIndex_7cf53 3 = .ok (.invokestatic 105, 3) := by decide +kernel
theorem dJ15_checkIndex_7cf53_6 : decode cJ15_checkIndex_7cf53 6 = .ok (.ireturn, 1) := by decide +kernel
set_option maxRecDepth 20000 in
theorem ggJ8_newLength_cabcc_J8_hugeLength_7cf53 : GoodIn wsJ8_newLength_cabcc wsJ8_hugeLength_7cf53 := goodIn_r _ [9, 5] (by decide +kernel) (by decide +kernel)
set_option maxRecDepth 20000 in
theorem gJ8_newLength_cabcc_J8_hugeLength_7cf53 : GoodIn wsJ8_newLength_cabcc (va_wsS RJ8 201 yJ8_hugeLength_7cf53 wsJ8_hugeLength_7cf53) := goodIn_app (goodIn_of _ (by decide +kernel)) ggJ8_newLength_cabcc_J8_hugeLength_7cf53
theorem dJ8_newLength_cabcc_0 : decode cJ8_newLength_cabcc 0 = .ok (.iload_n 0, 1) := by decide +kernel
theorem dJ8_newLength_cabcc_1 : decode cJ8_newLength_cabcc 1 = .ok (.iload_n 1, 1) := by decide +kernel
theorem dJ8_newLength_cabcc_2 : decode cJ8_newLength_cabcc 2 = .ok (.iload_n 2, 1) := by decide +kernel
theorem dJ8_newLength_cabcc_3 : decode cJ8_newLength_cabcc 3 = .ok (.invokestatic 194, 3) := by decide +kernel
theorem dJ8_newLength_cabcc_6 : decode cJ8_newLength_cabcc 6 = .ok (.iadd, 1) := by decide +kernel
theorem dJ8_newLength_cabcc_7 : decode cJ8_newLength_cabcc 7 = .ok (.istore_n 3, 1) := by decide +kernel
theorem dJ8_newLength_cabcc_8 : decode cJ8_newLength_cabcc 8 = .ok (.iconst 0, 1) := by decide +kernel
theorem dJ8_newLength_cabcc_9 : decode cJ8_newLength_cabcc 9 = .ok (.iload_n 3, 1) := by decide +kernel
theorem dJ8_newLength_cabcc_10 : decode cJ8_newLength_cabcc 10 = .ok (.if_icmp .ge 11, 3) := by decide +kernel
theorem dJ8_newLength_cabcc_13 : decode cJ8_newLength_cabcc 13 = .ok (.iload_n 3, 1) := by decide +kernel
theorem dJ8_newLength_cabcc_14 : decode cJ8_newLength_cabcc 14 = .ok (.ldc 200, 2) := by decide +kernel
theorem dJ8_newLength_cabcc_16 : decode cJ8_newLength_cabcc 16 = .ok (.if_icmp .gt 5, 3) := by decide +kernel
theorem dJ8_newLength_cabcc_19 : decode cJ8_newLength_cabcc 19 = .ok (.iload_n 3, 1) := by decide +kernel
theorem dJ8_newLength_cabcc_20 : decode cJ8_newLength_cabcc 20 = .ok (.ireturn, 1) := by decide +kernel
theorem dJ8_newLength_cabcc_21 : decode cJ8_newLength_cabcc 21 = .ok (.iload_n 0, 1) := by decide +kernel
theorem dJ8_newLength_cabcc_22 : decode cJ8_newLength_cabcc 22 = .ok (.iload_n 1, 1) := by decide +kernel
theorem dJ8_newLength_cabcc_23 : decode cJ8_newLength_cabcc 23 = .ok (.invokestatic 201, 3) := by decide +kernel
theorem dJ8_newLength_cabcc_26 : decode cJ8_newLength_cabcc 26 = .ok (.ireturn, 1) := by decide +kernel
theorem dJ8_hugeLength_7cf53_0 : decode cJ8_hugeLength_7cf53 0 = .ok (.iload_n 0, 1) := by decide +kernel
theorem dJ8_hugeLength_7cf53_1 : decode cJ8_hugeLength_7cf53 1 = .ok (.iload_n 1, 1) := by decide +kernel
theorem dJ8_hugeLength_7cf53_2 : decode cJ8_hugeLength_7cf53 2 = .ok (.iadd, 1) := by decide +kernel
theorem dJ8_hugeLength_7cf53_3 : decode cJ8_hugeLength_7cf53 3 = .ok (.istore_n 2, 1) := by decide +kernel
theorem dJ8_hugeLength_7cf53_4 : decode cJ8_hugeLength_7cf53 4 = .ok (.iload_n 2, 1) := by decide +kernel
theorem dJ8_hugeLength_7cf53_5 : decode cJ8_hugeLength_7cf53 5 = .ok (.ifCond .ge 44, 3) := by decide +kernel
theorem dJ8_hugeLength_7cf53_8 : decode cJ8_hugeLength_7cf53 8 = .ok (.new 204, 3) := by decide +kernel
theorem dJ8_hugeLength_7cf53_11 : decode cJ8_hugeLength_7cf53 11 = .ok (.dup, 1) := by decide +kernel
theorem dJ8_hugeLength_7cf53_12 : decode cJ8_hugeLength_7cf53 12 = .ok (.new 89, 3) := by decide +kernel
theorem dJ8_hugeLength_7cf53_15 : decode cJ8_hugeLength_7cf53 15 = .ok (.dup, 1) := by decide +kernel
theorem dJ8_hugeLength_7cf53_16 : decode cJ8_hugeLength_7cf53 16 = .ok (.invokespecial 91, 3) := by decide +kernel
theorem dJ8_hugeLength_7cf53_19 : decode cJ8_hugeLength_7cf53 19 = .ok (.ldc 206, 2) := by decide +kernel
theorem dJ8_hugeLength_7cf53_21 : decode cJ8_hugeLength_7cf53 21 = .ok (.invokevirtual 94, 3) := by decide +kernel
theorem dJ8_hugeLength_7cf53_24 : decode cJ8_hugeLength_7cf53 24 = .ok (.iload_n 0, 1) := by decide +kernel
theorem dJ8_hugeLength_7cf53_25 : decode cJ8_hugeLength_7cf53 25 = .ok (.invokevirtual 98, 3) := by decide +kernel
theorem dJ8_hugeLength_7cf53_28 : decode cJ8_hugeLength_7cf53 28 = .ok (.ldc 208, 2) := by decide +kernel
theorem dJ8_hugeLength_7cf53_30 : decode cJ8_hugeLength_7cf53 30 = .ok (.invokevirtual 94, 3) := by decide +kernel
theorem dJ8_hugeLength_7cf53_33 : decode cJ8_hugeLength_7cf53 33 = .ok (.iload_n 1, 1) := by decide +kernel
theorem dJ8_hugeLength_7cf53_34 : decode cJ8_hugeLength_7cf53 34 = .ok (.invokevirtual 98, 3) := by decide +kernel
theorem dJ8_hugeLength_7cf53_37 : decode cJ8_hugeLength_7cf53 37 = .ok (.ldc 210, 2) := by decide +kernel
theorem dJ8_hugeLength_7cf53_39 : decode cJ8_hugeLength_7cf53 39 = .ok (.invokevirtual 94, 3) := by decide +kernel
theorem dJ8_hugeLength_7cf53_42 : decode cJ8_hugeLength_7cf53 42 = .ok (.invokevirtual 101, 3) := by decide +kernel
theorem dJ8_hugeLength_7cf53_45 : decode cJ8_hugeLength_7cf53 45 = .ok (.invokespecial 212, 3) := by decide +kernel
theorem dJ8_hugeLength_7cf53_48 : decode cJ8_hugeLength_7cf53 48 = .ok (.athrow, 1) := by decide +kernel
theorem dJ8_hugeLength_7cf53_49 : decode cJ8_hugeLength_7cf53 49 = .ok (.iload_n 2, 1) := by decide +kernel
theorem dJ8_hugeLength_7cf53_50 : decode cJ8_hugeLength_7cf53 50 = .ok (.ldc 200, 2) := by decide +kernel
theorem dJ8_hugeLength_7cf53_52 : decode cJ8_hugeLength_7cf53 52 = .ok (.if_icmp .gt 6, 3) := by decide +kernel
theorem dJ8_hugeLength_7cf53_55 : decode cJ8_hugeLength_7cf53 55 = .ok (.ldc 200, 2) := by decide +kernel
theorem dJ8_hugeLength_7cf53_57 : decode cJ8_hugeLength_7cf53 57 = .ok (.ireturn, 1) := by decide +kernel
theorem dJ8_hugeLength_7cf53_58 : decode cJ8_hugeLength_7cf53 58 = .ok (.iload_n 2, 1) := by decide +kernel
theorem dJ8_hugeLength_7cf53_59 : decode cJ8_hugeLength_7cf53 59 = .ok (.ireturn, 1) := by decide +kernel
theorem dJ3_checkIndex_8e157_0 : decode cJ3_checkIndex_8e157 0 = .ok (.iload_n 0, 1) := by decide +kernel
theorem dJ3_checkIndex_8e157_1 : decode cJ3_checkIndex_8e157 1 = .ok (.ifCond .lt 8, 3) := by decide +kernel
theorem dJ3_checkIndex_8e157_4 : decode cJ3_checkIndex_8e157 4 = .ok (.iload_n 0, 1) := by decide +kernel
theorem dJ3_checkIndex_8e157_5 : decode cJ3_checkIndex_8e157 5 = .ok (.iload_n 1, 1) := by decide +kernel
theorem dJ3_checkIndex_8e157_6 : decode cJ3_checkIndex_8e157 6 = .ok (.if_icmp .lt 10, 3) := by decide +kernel
theorem dJ3_checkIndex_8e157_9 : decode cJ3_checkIndex_8e157 9 = .ok (.aload_n 2, 1) := by decide +kernel
theorem dJ3_checkIndex_8e157_10 : decode cJ3_checkIndex_8e157 10 = .ok (.iload_n 0, 1) := by decide +kernel
theorem dJ3_checkIndex_8e157_11 : decode cJ3_checkIndex_8e157 11 = .ok (.iload_n 1, 1) := by decide +kernel
theorem dJ3_checkIndex_8e157_12 : decode cJ3_checkIndex_8e157 12 = .ok (.invokestatic 95, 3) := by decide +kernel
theorem dJ3_checkIndex_8e157_15 : decode cJ3_checkIndex_8e157 15 = .ok (.athrow, 1) := by decide +kernel
theorem dJ3_checkIndex_8e157_16 : decode cJ3_checkIndex_8e157 16 = .ok (.iload_n 0, 1) := by decide +kernel
theorem dJ3_checkIndex_8e157_17 : decode cJ3_checkIndex_8e157 17 = .ok (.ireturn, 1) := by decide +kernel
set_option maxRecDepth 20000 in
theorem ggL_type_X11_type : GoodIn wsL_type wsX11_type := goodIn_ca (goodIn_ca (goodIn_ca (goodIn_r _ [6, 7, 8, 9, 10, 11, 12, 13, 14, 15, 16, 17, 18, 19, 20, 21, 22, 23, 24, 25, 26, 27, 28, 29, 30, 31, 32, 33, 34, 35, 36, 37, 38, 39, 40, 41, 42, 43, 44, 45, 46, 47, 48, 49, 50, 51, 52, 53, 54, 55, 56, 57, 58, 59, 60, 61, 62, 63, 64, 65, 66, 67, 68, 69, 70, 71, 72, 73, 74, 75, 76, 77, 78, 79, 80, 81, 82, 83, 84, 85, 86, 87, 88, 89, 90, 91, 92, 93, 94, 95, 96, 97, 98, 99, 100, 101, 102, 103, 104, 105, 5, 106, 107, 108, 109, 110, 111, 112, 113, 114, 115, 116, 117, 118, 119, 120, 121, 122, 123, 124, 125, 126, 127, 128, 129, 130, 131, 132, 133, 134, 135, 136, 137, 138, 139, 140, 141, 142, 143, 144, 145, 146, 147] (by decide +kernel) (by decide +kernel)) (goodIn_sub (fun _ h => List.mem_cons_of_mem _ (List.mem_append_left _ (List.mem_append_right _ h))) (by decide +kernel))) (goodIn_sub (fun _ h => List.mem_cons_of_mem _ (List.mem_append_right _ h)) (by decide +kernel))) (goodIn_sub (fun _ h => List.mem_cons_of_mem _ (List.mem_append_left _ (List.mem_append_left _ (List.mem_append_right _ h)))) (by decide +kernel))
set_option maxRecDepth 20000 in
theorem gL_type_X11_type : GoodIn wsL_type (wsV RL 7 RX11 yX11_type wsX11_type) := goodIn_app (goodIn_of _ (by decide +kernel)) ggL_type_X11_type
theorem dL_type_0 : decode cL_type 0 = .ok (.aload_n 2, 1) := by decide +kernel
theorem dL_type_1 : decode cL_type 1 = .ok (.iconst 0, 1) := by decide +kernel
theorem dL_type_2 : decode cL_type 2 = .ok (.aload_n 0, 1) := by decide +kernel
theorem dL_type_3 : decode cL_type 3 = .ok (.iload_n 1, 1) := by decide +kernel
theorem dL_type_4 : decode cL_type 4 = .ok (.invokevirtual 7, 3) := by decide +kernel
theorem dL_type_7 : decode cL_type 7 = .ok (.i2l, 1) := by decide +kernel
theorem dL_type_8 : decode cL_type 8 = .ok (.lastore, 1) := by decide +kernel
theorem dL_type_9 : decode cL_type 9 = .ok (.goto 9, 3) := by decide +kernel
theorem dL_type_12 : decode cL_type 12 = .ok (.astore_n 3, 1) := by decide +kernel
theorem dL_type_13 : decode cL_type 13 = .ok (.iconst 1, 1) := by decide +kernel
theorem dL_type_14 : decode cL_type 14 = .ok (.ireturn, 1) := by decide +kernel
theorem dL_type_15 : decode cL_type 15 = .ok (.astore_n 3, 1) := by decide +kernel
theorem dL_type_16 : decode cL_type 16 = .ok (.iconst 2, 1) := by decide +kernel
theorem dL_type_17 : decode cL_type 17 = .ok (.ireturn, 1) := by decide +kernel
theorem dL_type_18 : decode cL_type 18 = .ok (.iconst 0, 1) := by decide +kernel
theorem dL_type_19 : decode cL_type 19 = .ok (.ireturn, 1) := by decide +kernel
set_option maxRecDepth 20000 in
theorem ggL_point_X11_point : GoodIn wsL_point wsX11_point := goodIn_ca (goodIn_ca (goodIn_ca (goodIn_r _ [6, 7, 8, 9, 10, 5, 11, 12, 13, 14, 15, 16, 17, 18, 19, 20, 21, 22, 23, 24, 25, 26, 27, 28, 29, 30, 31, 32, 33, 34, 35, 36, 37, 38, 39, 40, 41, 42, 43, 44, 45, 46, 47, 48, 49, 50, 51, 52, 53, 54, 55, 56, 57, 58, 59, 60, 61, 62, 63, 64, 65, 66, 67, 68, 69, 70, 71, 72, 73, 74, 75, 76, 77, 78, 79, 80, 81, 82, 83, 84, 85, 86, 87, 88, 89, 90, 91, 92, 93, 94, 95, 96, 97, 98, 99, 100, 101, 102, 103, 104, 105, 106, 107, 108, 109, 110, 111, 112, 113, 114, 115, 116, 117, 118, 119, 120, 121, 122, 123, 124, 125, 126, 127, 128, 129, 130, 131, 132, 133, 134, 135, 136, 137, 138, 139, 140, 141, 142, 143, 144, 145, 146, 147, 148, 149, 150, 151, 152, 153, 154, 155, 156, 157, 158, 159, 160, 161, 162, 163, 164, 165, 166, 167, 168, 169, 170, 171, 172, 173, 174, 175, 176, 177, 178, 179, 180, 181, 182, 183, 184, 185, 186, 187, 188, 189, 190, 191, 192, 193, 194, 195, 196, 197, 198, 199, 200, 201, 202, 203, 204, 205, 206, 207, 208, 209, 210, 211, 212] (by decide +kernel) (by decide +kernel)) (goodIn_sub (fun _ h => List.mem_cons_of_mem _ (List.mem_append_left _ (List.mem_append_right _ h))) (by decide +kernel))) (goodIn_sub (fun _ h => List.mem_cons_of_mem _ (List.mem_append_right _ h)) (by decide +kernel))) (goodIn_sub (fun _ h => List.mem_cons_of_mem _ (List.mem_append_left _ (List.mem_append_left _ (List.mem_append_right _ h)))) (by decide +kernel))
set_option maxRecDepth 20000 in
theorem gL_point_X11_point : GoodIn wsL_point (wsV RL 17 RX11 yX11_point wsX11_point) := goodIn_app (goodIn_of _ (by decide +kernel)) ggL_point_X11_point
theorem dL_point_0 : decode cL_point 0 = .ok (.aload_n 3, 1) := by decide +kernel
theorem dL_point_1 : decode cL_point 1 = .ok (.iconst 0, 1) := by decide +kernel
theorem dL_point_2 : decode cL_point 2 = .ok (.aload_n 0, 1) := by decide +kernel
theorem dL_point_3 : decode cL_point 3 = .ok (.iload_n 1, 1) := by decide +kernel
theorem dL_point_4 : decode cL_point 4 = .ok (.iload_n 2, 1) := by decide +kernel
theorem dL_point_5 : decode cL_point 5 = .ok (.invokevirtual 17, 3) := by decide +kernel
theorem dL_point_8 : decode cL_point 8 = .ok (.i2l, 1) := by decide +kernel
theorem dL_point_9 : decode cL_point 9 = .ok (.lastore, 1) := by decide +kernel
theorem dL_point_10 : decode cL_point 10 = .ok (.goto 11, 3) := by decide +kernel
theorem dL_point_13 : decode cL_point 13 = .ok (.astore 4, 2) := by decide +kernel
theorem dL_point_15 : decode cL_point 15 = .ok (.iconst 1, 1) := by decide +kernel
theorem dL_point_16 : decode cL_point 16 = .ok (.ireturn, 1) := by decide +kernel
theorem dL_point_17 : decode cL_point 17 = .ok (.astore 4, 2) := by decide +kernel
theorem dL_point_19 : decode cL_point 19 = .ok (.iconst 2, 1) := by decide +kernel
theorem dL_point_20 : decode cL_point 20 = .ok (.ireturn, 1) := by decide +kernel
theorem dL_point_21 : decode cL_point 21 = .ok (.iconst 0, 1) := by decide +kernel
theorem dL_point_22 : decode cL_point 22 = .ok (.ireturn, 1) := by decide +kernel
set_option maxRecDepth 20000 in
theorem ggL_points_X11_points : GoodIn wsL_points wsX11_points := goodIn_ca (goodIn_ca (goodIn_ca (goodIn_r _ [6, 7, 8, 9, 10, 11, 5, 12, 13, 14, 15, 16, 17, 18, 19, 20, 21, 22, 23, 24, 25, 26, 27, 28, 29, 30, 31, 32, 33, 34, 35, 36, 37, 38, 39, 40, 41, 42, 43, 44, 45, 46, 47, 48, 49, 50, 51, 52, 53, 54, 55, 56, 57, 58, 59, 60, 61, 62, 63, 64, 65, 66, 67, 68, 69, 70, 71, 72, 73, 74, 75, 76, 77, 78, 79, 80, 81, 82, 83, 84, 85, 86, 87, 88, 89, 90, 91, 92, 93, 94, 95, 96, 97, 98, 99, 100, 101, 102, 103, 104, 105, 106, 107, 108, 109, 110, 111, 112, 113, 114, 115, 116, 117, 118, 119, 120, 121, 122, 123, 124, 125, 126, 127, 128, 129, 130, 131, 132, 133, 134, 135, 136, 137, 138, 139, 140, 141, 142, 143, 144, 145, 146, 147, 148, 149, 150, 151, 152, 153, 154, 155, 156, 157, 158, 159, 160, 161, 162, 163, 164, 165, 166, 167, 168, 169, 170, 171, 172, 173, 174, 175, 176, 177, 178, 179, 180, 181, 182, 183, 184, 185, 186, 187, 188, 189, 190, 191, 192, 193, 194, 195, 196, 197, 198, 199, 200, 201, 202, 203, 204, 205, 206, 207, 208, 209, 210, 211, 212, 213, 214, 215, 216, 217, 218, 219, 220, 221, 222, 223, 224, 225, 226, 227, 228] (by decide +kernel) (by decide +kernel)) (goodIn_sub (fun _ h => List.mem_cons_of_mem _ (List.mem_append_left _ (List.mem_append_right _ h))) (by decide +kernel))) (goodIn_sub (fun _ h => List.mem_cons_of_mem _ (List.mem_append_right _ h)) (by decide +kernel))) (goodIn_sub (fun _ h => List.mem_cons_of_mem _ (List.mem_append_left _ (List.mem_append_left _ (List.mem_append_right _ h)))) (by decide +kernel))
set_option maxRecDepth 20000 in
theorem gL_points_X11_points : GoodIn wsL_points (wsV RL 25 RX11 yX11_points wsX11_points) := goodIn_app (goodIn_of _ (by decide +kernel)) ggL_points_X11_points
theorem dL_points_0 : decode cL_points 0 = .ok (.aload_n 3, 1) := by decide +kernel
theorem dL_points_1 : decode cL_points 1 = .ok (.iconst 0, 1) := by decide +kernel
theorem dL_points_2 : decode cL_points 2 = .ok (.aload_n 0, 1) := by decide +kernel
theorem dL_points_3 : decode cL_points 3 = .ok (.iload_n 1, 1) := by decide +kernel
theorem dL_points_4 : decode cL_points 4 = .ok (.iload_n 2, 1) := by decide +kernel
theorem dL_points_5 : decode cL_points 5 = .ok (.invokevirtual 25, 3) := by decide +kernel
theorem dL_points_8 : decode cL_points 8 = .ok (.i2l, 1) := by decide +kernel
theorem dL_points_9 : decode cL_points 9 = .ok (.lastore, 1) := by decide +kernel
theorem dL_points_10 : decode cL_points 10 = .ok (.goto 11, 3) := by decide +kernel
theorem dL_points_13 : decode cL_points 13 = .ok (.astore 4, 2) := by decide +kernel
theorem dL_points_15 : decode cL_points 15 = .ok (.iconst 1, 1) := by decide +kernel
theorem dL_points_16 : decode cL_points 16 = .ok (.ireturn, 1) := by decide +kernel
theorem dL_points_17 : decode cL_points 17 = .ok (.astore 4, 2) := by decide +kernel
theorem dL_points_19 : decode cL_points 19 = .ok (.iconst 2, 1) := by decide +kernel
theorem dL_points_20 : decode cL_points 20 = .ok (.ireturn, 1) := by decide +kernel
theorem dL_points_21 : decode cL_points 21 = .ok (.iconst 0, 1) := by decide +kernel
theorem dL_points_22 : decode cL_points 22 = .ok (.ireturn, 1) := by decide +kernel
set_option maxRecDepth 20000 in
theorem ggL_breaks_X11_breaks : GoodIn wsL_breaks wsX11_breaks := goodIn_ca (goodIn_r _ [6, 7, 8, 9, 10, 5, 11, 12, 13, 14, 15, 16, 17, 18, 19, 20, 21, 22, 23, 24, 25, 26, 27, 28, 29, 30, 31, 32, 33, 34, 35, 36, 37, 38, 39, 40, 41, 42, 43, 44, 45, 46, 47, 48, 49, 50, 51, 52, 53, 54, 55, 56, 57, 58, 59, 60, 61, 62, 63, 64, 65, 66, 67, 68, 69] (by decide +kernel) (by decide +kernel)) (goodIn_sub (fun _ h => List.mem_cons_of_mem _ (List.mem_append_right _ h)) (by decide +kernel))
set_option maxRecDepth 20000 in
theorem gL_breaks_X11_breaks : GoodIn wsL_breaks (wsV RL 28 RX11 yX11_breaks wsX11_breaks) := goodIn_app (goodIn_of _ (by decide +kernel)) ggL_breaks_X11_breaks
theorem dL_breaks_0 : decode cL_breaks 0 = .ok (.aload_n 1, 1) := by decide +kernel
theorem dL_breaks_1 : decode cL_breaks 1 = .ok (.iconst 0, 1) := by decide +kernel
theorem dL_breaks_2 : decode cL_breaks 2 = .ok (.aload_n 0, 1) := by decide +kernel
theorem dL_breaks_3 : decode cL_breaks 3 = .ok (.invokevirtual 28, 3) := by decide +kernel
theorem dL_breaks_6 : decode cL_breaks 6 = .ok (.i2l, 1) := by decide +kernel
theorem dL_breaks_7 : decode cL_breaks 7 = .ok (.lastore, 1) := by decide +kernel
theorem dL_breaks_8 : decode cL_breaks 8 = .ok (.goto 6, 3) := by decide +kernel
theorem dL_breaks_11 : decode cL_breaks 11 = .ok (.astore_n 2, 1) := by decide +kernel
theorem dL_breaks_12 : decode cL_breaks 12 = .ok (.iconst 1, 1) := by decide +kernel
theorem dL_breaks_13 : decode cL_breaks 13 = .ok (.ireturn, 1) := by decide +kernel
theorem dL_breaks_14 : decode cL_breaks 14 = .ok (.iconst 0, 1) := by decide +kernel
theorem dL_breaks_15 : decode cL_breaks 15 = .ok (.ireturn, 1) := by decide +kernel
set_option maxRecDepth 20000 in
theorem ggL_drawn_X11_drawn : GoodIn wsL_drawn wsX11_drawn := goodIn_ca (goodIn_ca (goodIn_ca (goodIn_r _ [6, 7, 8, 9, 10, 11, 12, 13, 14, 15, 16, 17, 5, 18, 19, 20, 21, 22, 23, 24, 25, 26, 27, 28, 29, 30, 31, 32, 33, 34, 35, 36, 37, 38, 39, 40, 41, 42, 43, 44, 45, 46, 47, 48, 49, 50, 51, 52, 53, 54, 55, 56, 57, 58, 59, 60, 61, 62, 63, 64, 65, 66, 67, 68, 69, 70, 71, 72, 73, 74, 75, 76, 77, 78, 79, 80, 81, 82, 83, 84, 85, 86, 87, 88, 89, 90, 91, 92, 93, 94, 95, 96, 97, 98, 99, 100, 101, 102, 103, 104, 105, 106, 107, 108, 109, 110, 111, 112, 113, 114, 115, 116, 117, 118, 119, 120, 121, 122, 123, 124, 125, 126, 127, 128, 129, 130, 131, 132, 133, 134, 135, 136, 137, 138, 139, 140, 141, 142, 143, 144, 145, 146, 147, 148, 149, 150, 151, 152, 153, 154, 155, 156, 157, 158, 159, 160, 161, 162, 163, 164, 165, 166, 167, 168, 169, 170, 171, 172, 173, 174, 175, 176, 177, 178, 179, 180, 181, 182, 183, 184, 185, 186, 187, 188, 189, 190, 191, 192, 193, 194, 195, 196, 197, 198, 199, 200, 201, 202, 203, 204, 205, 206, 207] (by decide +kernel) (by decide +kernel)) (goodIn_sub (fun _ h => List.mem_cons_of_mem _ (List.mem_append_left _ (List.mem_append_right _ h))) (by decide +kernel))) (goodIn_sub (fun _ h => List.mem_cons_of_mem _ (List.mem_append_right _ h)) (by decide +kernel))) (goodIn_sub (fun _ h => List.mem_cons_of_mem _ (List.mem_append_left _ (List.mem_append_left _ (List.mem_append_right _ h)))) (by decide +kernel))
set_option maxRecDepth 20000 in
theorem gL_drawn_X11_drawn : GoodIn wsL_drawn (wsV RL 32 RX11 yX11_drawn wsX11_drawn) := goodIn_app (goodIn_of _ (by decide +kernel)) ggL_drawn_X11_drawn
theorem dL_drawn_0 : decode cL_drawn 0 = .ok (.aload_n 3, 1) := by decide +kernel
theorem dL_drawn_1 : decode cL_drawn 1 = .ok (.iconst 0, 1) := by decide +kernel
theorem dL_drawn_2 : decode cL_drawn 2 = .ok (.aload_n 0, 1) := by decide +kernel
theorem dL_drawn_3 : decode cL_drawn 3 = .ok (.iload_n 1, 1) := by decide +kernel
theorem dL_drawn_4 : decode cL_drawn 4 = .ok (.iload_n 2, 1) := by decide +kernel
theorem dL_drawn_5 : decode cL_drawn 5 = .ok (.invokevirtual 32, 3) := by decide +kernel
theorem dL_drawn_8 : decode cL_drawn 8 = .ok (.i2l, 1) := by decide +kernel
theorem dL_drawn_9 : decode cL_drawn 9 = .ok (.lastore, 1) := by decide +kernel
theorem dL_drawn_10 : decode cL_drawn 10 = .ok (.goto 11, 3) := by decide +kernel
theorem dL_drawn_13 : decode cL_drawn 13 = .ok (.astore 4, 2) := by decide +kernel
theorem dL_drawn_15 : decode cL_drawn 15 = .ok (.iconst 1, 1) := by decide +kernel
theorem dL_drawn_16 : decode cL_drawn 16 = .ok (.ireturn, 1) := by decide +kernel
theorem dL_drawn_17 : decode cL_drawn 17 = .ok (.astore 4, 2) := by decide +kernel
theorem dL_drawn_19 : decode cL_drawn 19 = .ok (.iconst 2, 1) := by decide +kernel
theorem dL_drawn_20 : decode cL_drawn 20 = .ok (.ireturn, 1) := by decide +kernel
theorem dL_drawn_21 : decode cL_drawn 21 = .ok (.iconst 0, 1) := by decide +kernel
theorem dL_drawn_22 : decode cL_drawn 22 = .ok (.ireturn, 1) := by decide +kernel
set_option maxRecDepth 20000 in
theorem ggL_meant_X11_meant : GoodIn wsL_meant wsX11_meant := goodIn_ca (goodIn_ca (goodIn_ca (goodIn_r _ [6, 7, 8, 9, 10, 11, 12, 5, 13, 14, 15, 16, 17, 18, 19, 20, 21, 22, 23, 24, 25, 26, 27, 28, 29, 30, 31, 32, 33, 34, 35, 36, 37, 38, 39, 40, 41, 42, 43, 44, 45, 46, 47, 48, 49] (by decide +kernel) (by decide +kernel)) (goodIn_sub (fun _ h => List.mem_cons_of_mem _ (List.mem_append_left _ (List.mem_append_right _ h))) (by decide +kernel))) (goodIn_sub (fun _ h => List.mem_cons_of_mem _ (List.mem_append_right _ h)) (by decide +kernel))) (goodIn_sub (fun _ h => List.mem_cons_of_mem _ (List.mem_append_left _ (List.mem_append_left _ (List.mem_append_right _ h)))) (by decide +kernel))
set_option maxRecDepth 20000 in
theorem gL_meant_X11_meant : GoodIn wsL_meant (wsV RL 38 RX11 yX11_meant wsX11_meant) := goodIn_app (goodIn_of _ (by decide +kernel)) ggL_meant_X11_meant
theorem dL_meant_0 : decode cL_meant 0 = .ok (.aload_n 2, 1) := by decide +kernel
theorem dL_meant_1 : decode cL_meant 1 = .ok (.iconst 0, 1) := by decide +kernel
theorem dL_meant_2 : decode cL_meant 2 = .ok (.aload_n 0, 1) := by decide +kernel
theorem dL_meant_3 : decode cL_meant 3 = .ok (.iload_n 1, 1) := by decide +kernel
theorem dL_meant_4 : decode cL_meant 4 = .ok (.invokevirtual 38, 3) := by decide +kernel
theorem dL_meant_7 : decode cL_meant 7 = .ok (.i2l, 1) := by decide +kernel
theorem dL_meant_8 : decode cL_meant 8 = .ok (.lastore, 1) := by decide +kernel
theorem dL_meant_9 : decode cL_meant 9 = .ok (.goto 9, 3) := by decide +kernel
theorem dL_meant_12 : decode cL_meant 12 = .ok (.astore_n 3, 1) := by decide +kernel
theorem dL_meant_13 : decode cL_meant 13 = .ok (.iconst 1, 1) := by decide +kernel
theorem dL_meant_14 : decode cL_meant 14 = .ok (.ireturn, 1) := by decide +kernel
theorem dL_meant_15 : decode cL_meant 15 = .ok (.astore_n 3, 1) := by decide +kernel
theorem dL_meant_16 : decode cL_meant 16 = .ok (.iconst 2, 1) := by decide +kernel
theorem dL_meant_17 : decode cL_meant 17 = .ok (.ireturn, 1) := by decide +kernel
theorem dL_meant_18 : decode cL_meant 18 = .ok (.iconst 0, 1) := by decide +kernel
theorem dL_meant_19 : decode cL_meant 19 = .ok (.ireturn, 1) := by decide +kernel
set_option maxRecDepth 20000 in
theorem ggL_fewest_X11_fewest : GoodIn wsL_fewest wsX11_fewest := goodIn_ca (goodIn_ca (goodIn_r _ [6, 7, 8, 9, 10, 11, 5, 12, 13, 14, 15, 16, 17, 18, 19, 20, 21, 22, 23, 24, 25, 26, 27, 28, 29, 30, 31, 32, 33, 34, 35, 36, 37, 38, 39, 40, 41, 42, 43, 44, 45, 46, 47, 48, 49, 50, 51, 52, 53, 54, 55, 56, 57, 58, 59, 60, 61, 62, 63, 64, 65, 66, 67, 68, 69, 70, 71, 72, 73, 74, 75, 76, 77, 78, 79, 80, 81, 82, 83, 84, 85, 86, 87, 88, 89, 90, 91, 92, 93, 94, 95, 96, 97, 98, 99, 100, 101, 102, 103, 104, 105, 106, 107, 108, 109, 110, 111, 112, 113, 114, 115, 116, 117, 118, 119, 120, 121, 122, 123, 124, 125, 126, 127, 128, 129, 130, 131, 132, 133, 134, 135, 136, 137, 138, 139, 140, 141, 142, 143, 144, 145, 146, 147, 148, 149, 150, 151, 152, 153, 154, 155, 156, 157, 158, 159, 160, 161, 162, 163, 164, 165, 166, 167, 168, 169, 170, 171, 172, 173, 174, 175, 176, 177, 178, 179, 180, 181, 182, 183, 184, 185, 186, 187, 188, 189, 190, 191, 192, 193, 194, 195, 196, 197, 198, 199, 200, 201, 202, 203, 204, 205, 206, 207, 208, 209, 210, 211, 212, 213, 214, 215, 216, 217, 218, 219, 220, 221, 222, 223, 224, 225, 226, 227, 228, 229, 230, 231, 232, 233, 234, 235, 236, 237, 238, 239, 240, 241, 242, 243, 244, 245, 246, 247, 248, 249, 250, 251, 252, 253, 254, 255, 256, 257, 258, 259, 260, 261, 262, 263, 264, 265, 266, 267, 268, 269, 270, 271, 272, 273, 274, 275, 276, 277, 278, 279, 280, 281, 282, 283, 284, 285, 286, 287, 288, 289, 290, 291, 292, 293, 294, 295, 296, 297, 298, 299, 300, 301, 302, 303, 304, 305, 306, 307, 308] (by decide +kernel) (by decide +kernel)) (goodIn_sub (fun _ h => List.mem_cons_of_mem _ (List.mem_append_right _ h)) (by decide +kernel))) (goodIn_sub (fun _ h => List.mem_cons_of_mem _ (List.mem_append_left _ (List.mem_append_right _ h))) (by decide +kernel))
set_option maxRecDepth 20000 in
theorem gL_fewest_X11_fewest : GoodIn wsL_fewest (wsV RL 41 RX11 yX11_fewest wsX11_fewest) := goodIn_app (goodIn_of _ (by decide +kernel)) ggL_fewest_X11_fewest
theorem dL_fewest_0 : decode cL_fewest 0 = .ok (.aload_n 1, 1) := by decide +kernel
theorem dL_fewest_1 : decode cL_fewest 1 = .ok (.iconst 0, 1) := by decide +kernel
theorem dL_fewest_2 : decode cL_fewest 2 = .ok (.aload_n 0, 1) := by decide +kernel
theorem dL_fewest_3 : decode cL_fewest 3 = .ok (.invokevirtual 41, 3) := by decide +kernel
theorem dL_fewest_6 : decode cL_fewest 6 = .ok (.i2l, 1) := by decide +kernel
theorem dL_fewest_7 : decode cL_fewest 7 = .ok (.lastore, 1) := by decide +kernel
theorem dL_fewest_8 : decode cL_fewest 8 = .ok (.goto 6, 3) := by decide +kernel
theorem dL_fewest_11 : decode cL_fewest 11 = .ok (.astore_n 2, 1) := by decide +kernel
theorem dL_fewest_12 : decode cL_fewest 12 = .ok (.iconst 1, 1) := by decide +kernel
theorem dL_fewest_13 : decode cL_fewest 13 = .ok (.ireturn, 1) := by decide +kernel
theorem dL_fewest_14 : decode cL_fewest 14 = .ok (.iconst 0, 1) := by decide +kernel
theorem dL_fewest_15 : decode cL_fewest 15 = .ok (.ireturn, 1) := by decide +kernel
set_option maxRecDepth 20000 in
theorem ggL_fewestAt_X11_fewestAt : GoodIn wsL_fewestAt wsX11_fewestAt := goodIn_ca (goodIn_ca (goodIn_ca (goodIn_r _ [6, 7, 8, 9, 10, 11, 12, 13, 5, 14, 15, 16, 17, 18, 19, 20, 21, 22, 23, 24, 25, 26, 27, 28, 29, 30, 31, 32, 33, 34, 35, 36, 37, 38, 39, 40, 41, 42, 43, 44, 45, 46, 47, 48, 49, 50, 51, 52, 53, 54, 55, 56, 57, 58, 59, 60, 61, 62, 63, 64, 65, 66, 67, 68, 69, 70, 71, 72, 73, 74, 75, 76, 77, 78, 79, 80, 81, 82, 83, 84, 85, 86, 87, 88, 89, 90, 91, 92, 93, 94, 95, 96, 97, 98, 99, 100, 101, 102, 103, 104, 105, 106, 107, 108, 109, 110, 111, 112, 113, 114, 115, 116, 117, 118, 119, 120, 121, 122, 123, 124, 125, 126, 127, 128, 129, 130, 131, 132, 133, 134, 135, 136, 137, 138, 139, 140, 141, 142, 143, 144, 145, 146, 147, 148, 149, 150, 151, 152, 153, 154, 155, 156, 157, 158, 159, 160, 161, 162, 163, 164, 165, 166, 167, 168, 169, 170, 171, 172, 173, 174, 175, 176, 177, 178, 179, 180, 181, 182, 183, 184, 185, 186, 187, 188, 189, 190, 191, 192, 193, 194, 195, 196, 197, 198, 199, 200, 201, 202, 203, 204, 205, 206, 207, 208, 209, 210, 211, 212, 213, 214, 215, 216, 217, 218, 219, 220, 221, 222, 223, 224, 225, 226, 227, 228, 229, 230, 231, 232, 233, 234, 235, 236, 237, 238, 239, 240, 241, 242, 243, 244, 245, 246, 247, 248, 249, 250, 251, 252, 253, 254, 255, 256, 257, 258, 259, 260, 261, 262, 263, 264, 265, 266, 267, 268, 269, 270, 271, 272, 273, 274, 275, 276, 277, 278, 279, 280, 281, 282, 283, 284, 285, 286, 287, 288, 289, 290, 291, 292, 293, 294, 295, 296, 297, 298, 299, 300, 301, 302, 303, 304, 305, 306, 307, 308, 309, 310, 311, 312, 313, 314] (by decide +kernel) (by decide +kernel)) (goodIn_sub (fun _ h => List.mem_cons_of_mem _ (List.mem_append_left _ (List.mem_append_right _ h))) (by decide +kernel))) (goodIn_sub (fun _ h => List.mem_cons_of_mem _ (List.mem_append_right _ h)) (by decide +kernel))) (goodIn_sub (fun _ h => List.mem_cons_of_mem _ (List.mem_append_left _ (List.mem_append_left _ (List.mem_append_right _ h)))) (by decide +kernel))
set_option maxRecDepth 20000 in
theorem gL_fewestAt_X11_fewestAt : GoodIn wsL_fewestAt (wsV RL 44 RX11 yX11_fewestAt wsX11_fewestAt) := goodIn_app (goodIn_of _ (by decide +kernel)) ggL_fewestAt_X11_fewestAt
theorem dL_fewestAt_0 : decode cL_fewestAt 0 = .ok (.aload_n 2, 1) := by decide +kernel
theorem dL_fewestAt_1 : decode cL_fewestAt 1 = .ok (.iconst 0, 1) := by decide +kernel
theorem dL_fewestAt_2 : decode cL_fewestAt 2 = .ok (.aload_n 0, 1) := by decide +kernel
theorem dL_fewestAt_3 : decode cL_fewestAt 3 = .ok (.iload_n 1, 1) := by decide +kernel
theorem dL_fewestAt_4 : decode cL_fewestAt 4 = .ok (.invokevirtual 44, 3) := by decide +kernel
theorem dL_fewestAt_7 : decode cL_fewestAt 7 = .ok (.i2l, 1) := by decide +kernel
theorem dL_fewestAt_8 : decode cL_fewestAt 8 = .ok (.lastore, 1) := by decide +kernel
theorem dL_fewestAt_9 : decode cL_fewestAt 9 = .ok (.goto 9, 3) := by decide +kernel
theorem dL_fewestAt_12 : decode cL_fewestAt 12 = .ok (.astore_n 3, 1) := by decide +kernel
theorem dL_fewestAt_13 : decode cL_fewestAt 13 = .ok (.iconst 1, 1) := by decide +kernel
theorem dL_fewestAt_14 : decode cL_fewestAt 14 = .ok (.ireturn, 1) := by decide +kernel
theorem dL_fewestAt_15 : decode cL_fewestAt 15 = .ok (.astore_n 3, 1) := by decide +kernel
theorem dL_fewestAt_16 : decode cL_fewestAt 16 = .ok (.iconst 2, 1) := by decide +kernel
theorem dL_fewestAt_17 : decode cL_fewestAt 17 = .ok (.ireturn, 1) := by decide +kernel
theorem dL_fewestAt_18 : decode cL_fewestAt 18 = .ok (.iconst 0, 1) := by decide +kernel
theorem dL_fewestAt_19 : decode cL_fewestAt 19 = .ok (.ireturn, 1) := by decide +kernel
set_option maxRecDepth 20000 in
theorem ggL_losses_X11_losses : GoodIn wsL_losses wsX11_losses := goodIn_ca (goodIn_ca (goodIn_ca (goodIn_r _ [6, 7, 8, 9, 10, 5, 11, 12, 13, 14, 15, 16, 17, 18, 19, 20, 21, 22, 23, 24, 25, 26, 27, 28, 29, 30, 31, 32, 33, 34, 35, 36, 37, 38, 39, 40, 41, 42, 43, 44, 45, 46, 47, 48, 49, 50, 51, 52, 53, 54, 55, 56, 57, 58, 59, 60] (by decide +kernel) (by decide +kernel)) (goodIn_sub (fun _ h => List.mem_cons_of_mem _ (List.mem_append_left _ (List.mem_append_right _ h))) (by decide +kernel))) (goodIn_sub (fun _ h => List.mem_cons_of_mem _ (List.mem_append_right _ h)) (by decide +kernel))) (goodIn_sub (fun _ h => List.mem_cons_of_mem _ (List.mem_append_left _ (List.mem_append_left _ (List.mem_append_right _ h)))) (by decide +kernel))
set_option maxRecDepth 20000 in
theorem gL_losses_X11_losses : GoodIn wsL_losses (wsV RL 47 RX11 yX11_losses wsX11_losses) := goodIn_app (goodIn_of _ (by decide +kernel)) ggL_losses_X11_losses
theorem dL_losses_0 : decode cL_losses 0 = .ok (.aload_n 2, 1) := by decide +kernel
theorem dL_losses_1 : decode cL_losses 1 = .ok (.iconst 0, 1) := by decide +kernel
theorem dL_losses_2 : decode cL_losses 2 = .ok (.aload_n 0, 1) := by decide +kernel
theorem dL_losses_3 : decode cL_losses 3 = .ok (.iload_n 1, 1) := by decide +kernel
theorem dL_losses_4 : decode cL_losses 4 = .ok (.invokevirtual 47, 3) := by decide +kernel
theorem dL_losses_7 : decode cL_losses 7 = .ok (.i2l, 1) := by decide +kernel
theorem dL_losses_8 : decode cL_losses 8 = .ok (.lastore, 1) := by decide +kernel
theorem dL_losses_9 : decode cL_losses 9 = .ok (.goto 9, 3) := by decide +kernel
theorem dL_losses_12 : decode cL_losses 12 = .ok (.astore_n 3, 1) := by decide +kernel
theorem dL_losses_13 : decode cL_losses 13 = .ok (.iconst 1, 1) := by decide +kernel
theorem dL_losses_14 : decode cL_losses 14 = .ok (.ireturn, 1) := by decide +kernel
theorem dL_losses_15 : decode cL_losses 15 = .ok (.astore_n 3, 1) := by decide +kernel
theorem dL_losses_16 : decode cL_losses 16 = .ok (.iconst 2, 1) := by decide +kernel
theorem dL_losses_17 : decode cL_losses 17 = .ok (.ireturn, 1) := by decide +kernel
theorem dL_losses_18 : decode cL_losses 18 = .ok (.iconst 0, 1) := by decide +kernel
theorem dL_losses_19 : decode cL_losses 19 = .ok (.ireturn, 1) := by decide +kernel
set_option maxRecDepth 20000 in
theorem ggL_translated_X11_translated : GoodIn wsL_translated wsX11_translated := goodIn_ca (goodIn_ca (goodIn_ca (goodIn_ca (goodIn_r _ [6, 7, 8, 9, 10, 11, 12, 5, 13, 14, 15, 16, 17, 18, 19, 20, 21, 22, 23, 24, 25, 26, 27, 28, 29, 30, 31, 32, 33, 34, 35, 36, 37, 38, 39, 40, 41, 42, 43, 44, 45, 46, 47, 48, 49, 50, 51, 52, 53, 54, 55, 56, 57, 58, 59, 60, 61, 62] (by decide +kernel) (by decide +kernel)) (goodIn_sub (fun _ h => List.mem_cons_of_mem _ (List.mem_append_left _ (List.mem_append_left _ (List.mem_append_right _ h)))) (by decide +kernel))) (goodIn_sub (fun _ h => List.mem_cons_of_mem _ (List.mem_append_left _ (List.mem_append_right _ h))) (by decide +kernel))) (goodIn_sub (fun _ h => List.mem_cons_of_mem _ (List.mem_append_right _ h)) (by decide +kernel))) (goodIn_sub (fun _ h => List.mem_cons_of_mem _ (List.mem_append_left _ (List.mem_append_left _ (List.mem_append_left _ (List.mem_append_right _ h))))) (by decide +kernel))
set_option maxRecDepth 20000 in
theorem gL_translated_X11_translated : GoodIn wsL_translated (wsV RL 50 RX11 yX11_translated wsX11_translated) := goodIn_app (goodIn_of _ (by decide +kernel)) ggL_translated_X11_translated
theorem dL_translated_0 : decode cL_translated 0 = .ok (.aload_n 3, 1) := by decide +kernel
theorem dL_translated_1 : decode cL_translated 1 = .ok (.iconst 0, 1) := by decide +kernel
theorem dL_translated_2 : decode cL_translated 2 = .ok (.aload_n 0, 1) := by decide +kernel
theorem dL_translated_3 : decode cL_translated 3 = .ok (.iload_n 1, 1) := by decide +kernel
theorem dL_translated_4 : decode cL_translated 4 = .ok (.iload_n 2, 1) := by decide +kernel
theorem dL_translated_5 : decode cL_translated 5 = .ok (.invokevirtual 50, 3) := by decide +kernel
theorem dL_translated_8 : decode cL_translated 8 = .ok (.i2l, 1) := by decide +kernel
theorem dL_translated_9 : decode cL_translated 9 = .ok (.lastore, 1) := by decide +kernel
theorem dL_translated_10 : decode cL_translated 10 = .ok (.goto 15, 3) := by decide +kernel
theorem dL_translated_13 : decode cL_translated 13 = .ok (.astore 4, 2) := by decide +kernel
theorem dL_translated_15 : decode cL_translated 15 = .ok (.iconst 1, 1) := by decide +kernel
theorem dL_translated_16 : decode cL_translated 16 = .ok (.ireturn, 1) := by decide +kernel
theorem dL_translated_17 : decode cL_translated 17 = .ok (.astore 4, 2) := by decide +kernel
theorem dL_translated_19 : decode cL_translated 19 = .ok (.iconst 2, 1) := by decide +kernel
theorem dL_translated_20 : decode cL_translated 20 = .ok (.ireturn, 1) := by decide +kernel
theorem dL_translated_21 : decode cL_translated 21 = .ok (.astore 4, 2) := by decide +kernel
theorem dL_translated_23 : decode cL_translated 23 = .ok (.iconst 3, 1) := by decide +kernel
theorem dL_translated_24 : decode cL_translated 24 = .ok (.ireturn, 1) := by decide +kernel
theorem dL_translated_25 : decode cL_translated 25 = .ok (.iconst 0, 1) := by decide +kernel
theorem dL_translated_26 : decode cL_translated 26 = .ok (.ireturn, 1) := by decide +kernel
set_option maxRecDepth 20000 in
theorem ggL_pass_X11_pass : GoodIn wsL_pass wsX11_pass := goodIn_ca (goodIn_ca (goodIn_r _ [6, 7, 8, 9, 10, 11, 12, 13, 14, 15, 16, 17, 18, 19, 20, 21, 22, 23, 24, 25] (by decide +kernel) (by decide +kernel)) (goodIn_sub (fun _ h => List.mem_cons_of_mem _ (List.mem_append_left _ (List.mem_append_right _ h))) (by decide +kernel))) (goodIn_sub (fun _ h => List.mem_cons_of_mem _ (List.mem_append_right _ h)) (by decide +kernel))
set_option maxRecDepth 20000 in
theorem gL_pass_X11_pass : GoodIn wsL_pass (wsV RL 53 RX11 yX11_pass wsX11_pass) := goodIn_app (goodIn_of _ (by decide +kernel)) ggL_pass_X11_pass
theorem dL_pass_0 : decode cL_pass 0 = .ok (.aload_n 2, 1) := by decide +kernel
theorem dL_pass_1 : decode cL_pass 1 = .ok (.iconst 0, 1) := by decide +kernel
theorem dL_pass_2 : decode cL_pass 2 = .ok (.aload_n 0, 1) := by decide +kernel
theorem dL_pass_3 : decode cL_pass 3 = .ok (.iload_n 1, 1) := by decide +kernel
theorem dL_pass_4 : decode cL_pass 4 = .ok (.invokevirtual 53, 3) := by decide +kernel
theorem dL_pass_7 : decode cL_pass 7 = .ok (.i2l, 1) := by decide +kernel
theorem dL_pass_8 : decode cL_pass 8 = .ok (.lastore, 1) := by decide +kernel
theorem dL_pass_9 : decode cL_pass 9 = .ok (.goto 9, 3) := by decide +kernel
theorem dL_pass_12 : decode cL_pass 12 = .ok (.astore_n 3, 1) := by decide +kernel
theorem dL_pass_13 : decode cL_pass 13 = .ok (.iconst 1, 1) := by decide +kernel
theorem dL_pass_14 : decode cL_pass 14 = .ok (.ireturn, 1) := by decide +kernel
theorem dL_pass_15 : decode cL_pass 15 = .ok (.astore_n 3, 1) := by decide +kernel
theorem dL_pass_16 : decode cL_pass 16 = .ok (.iconst 2, 1) := by decide +kernel
theorem dL_pass_17 : decode cL_pass 17 = .ok (.ireturn, 1) := by decide +kernel
theorem dL_pass_18 : decode cL_pass 18 = .ok (.iconst 0, 1) := by decide +kernel
theorem dL_pass_19 : decode cL_pass 19 = .ok (.ireturn, 1) := by decide +kernel
set_option maxRecDepth 20000 in
theorem ggL_birth_X11_birth : GoodIn wsL_birth wsX11_birth := goodIn_ca (goodIn_ca (goodIn_ca (goodIn_ca (goodIn_r _ [6, 7, 8, 9, 10, 11, 12, 13, 14, 15, 5, 16, 17, 18, 19, 20, 21, 22, 23, 24, 25, 26, 27, 28, 29, 30, 31, 32, 33, 34, 35, 36, 37, 38, 39, 40, 41, 42, 43, 44, 45, 46, 47, 48, 49, 50, 51, 52, 53, 54, 55, 56, 57, 58, 59, 60, 61, 62, 63, 64, 65, 66, 67, 68, 69, 70, 71, 72, 73, 74, 75, 76, 77, 78, 79, 80, 81, 82, 83, 84, 85, 86, 87, 88, 89, 90, 91, 92, 93, 94, 95, 96, 97, 98, 99, 100, 101, 102, 103, 104, 105, 106, 107, 108, 109, 110, 111, 112, 113, 114, 115, 116, 117, 118, 119, 120, 121, 122, 123, 124, 125, 126, 127, 128, 129, 130, 131, 132, 133, 134, 135, 136, 137, 138, 139, 140, 141, 142, 143, 144, 145, 146, 147, 148, 149, 150, 151, 152, 153, 154, 155, 156, 157, 158, 159, 160, 161, 162, 163, 164, 165, 166, 167, 168, 169, 170, 171, 172, 173, 174, 175, 176, 177, 178, 179, 180, 181, 182, 183, 184, 185, 186, 187, 188, 189, 190, 191, 192, 193, 194, 195, 196, 197, 198, 199, 200, 201, 202, 203, 204, 205, 206, 207, 208, 209, 210, 211, 212, 213, 214, 215, 216, 217, 218, 219, 220, 221, 222, 223, 224, 225, 226, 227, 228, 229, 230, 231, 232, 233, 234, 235, 236, 237, 238, 239, 240, 241, 242, 243, 244, 245, 246, 247, 248, 249, 250, 251, 252] (by decide +kernel) (by decide +kernel)) (goodIn_sub (fun _ h => List.mem_cons_of_mem _ (List.mem_append_left _ (List.mem_append_left _ (List.mem_append_right _ h)))) (by decide +kernel))) (goodIn_sub (fun _ h => List.mem_cons_of_mem _ (List.mem_append_left _ (List.mem_append_right _ h))) (by decide +kernel))) (goodIn_sub (fun _ h => List.mem_cons_of_mem _ (List.mem_append_right _ h)) (by decide +kernel))) (goodIn_sub (fun _ h => List.mem_cons_of_mem _ (List.mem_append_left _ (List.mem_append_left _ (List.mem_append_left _ (List.mem_append_right _ h))))) (by decide +kernel))
set_option maxRecDepth 20000 in
theorem gL_birth_X11_birth : GoodIn wsL_birth (wsV RL 56 RX11 yX11_birth wsX11_birth) := goodIn_app (goodIn_of _ (by decide +kernel)) ggL_birth_X11_birth
theorem dL_birth_0 : decode cL_birth 0 = .ok (.aload 4, 2) := by decide +kernel
theorem dL_birth_2 : decode cL_birth 2 = .ok (.iconst 0, 1) := by decide +kernel
theorem dL_birth_3 : decode cL_birth 3 = .ok (.aload_n 0, 1) := by decide +kernel
theorem dL_birth_4 : decode cL_birth 4 = .ok (.iload_n 1, 1) := by decide +kernel
theorem dL_birth_5 : decode cL_birth 5 = .ok (.iload_n 2, 1) := by decide +kernel
theorem dL_birth_6 : decode cL_birth 6 = .ok (.iload_n 3, 1) := by decide +kernel
theorem dL_birth_7 : decode cL_birth 7 = .ok (.invokevirtual 56, 3) := by decide +kernel
theorem dL_birth_10 : decode cL_birth 10 = .ok (.i2l, 1) := by decide +kernel
theorem dL_birth_11 : decode cL_birth 11 = .ok (.lastore, 1) := by decide +kernel
theorem dL_birth_12 : decode cL_birth 12 = .ok (.goto 15, 3) := by decide +kernel
theorem dL_birth_15 : decode cL_birth 15 = .ok (.astore 5, 2) := by decide +kernel
theorem dL_birth_17 : decode cL_birth 17 = .ok (.iconst 1, 1) := by decide +kernel
theorem dL_birth_18 : decode cL_birth 18 = .ok (.ireturn, 1) := by decide +kernel
theorem dL_birth_19 : decode cL_birth 19 = .ok (.astore 5, 2) := by decide +kernel
theorem dL_birth_21 : decode cL_birth 21 = .ok (.iconst 2, 1) := by decide +kernel
theorem dL_birth_22 : decode cL_birth 22 = .ok (.ireturn, 1) := by decide +kernel
theorem dL_birth_23 : decode cL_birth 23 = .ok (.astore 5, 2) := by decide +kernel
theorem dL_birth_25 : decode cL_birth 25 = .ok (.iconst 3, 1) := by decide +kernel
theorem dL_birth_26 : decode cL_birth 26 = .ok (.ireturn, 1) := by decide +kernel
theorem dL_birth_27 : decode cL_birth 27 = .ok (.iconst 0, 1) := by decide +kernel
theorem dL_birth_28 : decode cL_birth 28 = .ok (.ireturn, 1) := by decide +kernel
set_option maxRecDepth 20000 in
theorem ggL_death_X11_death : GoodIn wsL_death wsX11_death := goodIn_ca (goodIn_ca (goodIn_ca (goodIn_r _ [6, 7, 8, 9, 10, 11, 5, 12, 13, 14, 15, 16, 17, 18, 19, 20, 21, 22, 23, 24, 25, 26, 27, 28, 29, 30, 31, 32, 33, 34, 35, 36, 37, 38, 39, 40, 41, 42, 43, 44, 45, 46, 47, 48, 49, 50, 51, 52, 53, 54, 55, 56, 57, 58, 59, 60, 61, 62, 63, 64, 65, 66, 67, 68, 69, 70, 71, 72, 73, 74, 75, 76, 77, 78, 79, 80, 81, 82, 83, 84, 85, 86, 87, 88, 89, 90, 91, 92, 93, 94, 95, 96, 97, 98, 99, 100, 101, 102, 103, 104, 105, 106, 107, 108, 109, 110, 111, 112, 113, 114, 115, 116, 117, 118, 119, 120, 121, 122, 123, 124, 125, 126, 127, 128, 129, 130, 131, 132, 133, 134, 135, 136, 137, 138, 139, 140, 141, 142, 143, 144, 145, 146, 147, 148, 149, 150, 151, 152, 153, 154, 155, 156, 157, 158, 159, 160, 161, 162, 163, 164, 165, 166, 167, 168, 169, 170, 171, 172, 173, 174, 175, 176, 177, 178, 179, 180, 181, 182, 183, 184, 185, 186, 187, 188, 189, 190, 191, 192, 193, 194, 195, 196, 197, 198, 199, 200, 201, 202, 203, 204, 205, 206, 207, 208, 209, 210, 211, 212, 213, 214, 215, 216, 217, 218, 219, 220, 221, 222, 223, 224, 225, 226, 227, 228, 229, 230, 231, 232, 233, 234, 235, 236, 237, 238, 239, 240, 241, 242, 243, 244, 245, 246, 247, 248, 249, 250, 251, 252, 253, 254, 255, 256, 257, 258, 259, 260, 261, 262, 263, 264, 265, 266, 267, 268, 269] (by decide +kernel) (by decide +kernel)) (goodIn_sub (fun _ h => List.mem_cons_of_mem _ (List.mem_append_left _ (List.mem_append_right _ h))) (by decide +kernel))) (goodIn_sub (fun _ h => List.mem_cons_of_mem _ (List.mem_append_right _ h)) (by decide +kernel))) (goodIn_sub (fun _ h => List.mem_cons_of_mem _ (List.mem_append_left _ (List.mem_append_left _ (List.mem_append_right _ h)))) (by decide +kernel))
set_option maxRecDepth 20000 in
theorem gL_death_X11_death : GoodIn wsL_death (wsV RL 60 RX11 yX11_death wsX11_death) := goodIn_app (goodIn_of _ (by decide +kernel)) ggL_death_X11_death
theorem dL_death_0 : decode cL_death 0 = .ok (.aload_n 2, 1) := by decide +kernel
theorem dL_death_1 : decode cL_death 1 = .ok (.iconst 0, 1) := by decide +kernel
theorem dL_death_2 : decode cL_death 2 = .ok (.aload_n 0, 1) := by decide +kernel
theorem dL_death_3 : decode cL_death 3 = .ok (.iload_n 1, 1) := by decide +kernel
theorem dL_death_4 : decode cL_death 4 = .ok (.invokevirtual 60, 3) := by decide +kernel
theorem dL_death_7 : decode cL_death 7 = .ok (.i2l, 1) := by decide +kernel
theorem dL_death_8 : decode cL_death 8 = .ok (.lastore, 1) := by decide +kernel
theorem dL_death_9 : decode cL_death 9 = .ok (.goto 9, 3) := by decide +kernel
theorem dL_death_12 : decode cL_death 12 = .ok (.astore_n 3, 1) := by decide +kernel
theorem dL_death_13 : decode cL_death 13 = .ok (.iconst 1, 1) := by decide +kernel
theorem dL_death_14 : decode cL_death 14 = .ok (.ireturn, 1) := by decide +kernel
theorem dL_death_15 : decode cL_death 15 = .ok (.astore_n 3, 1) := by decide +kernel
theorem dL_death_16 : decode cL_death 16 = .ok (.iconst 2, 1) := by decide +kernel
theorem dL_death_17 : decode cL_death 17 = .ok (.ireturn, 1) := by decide +kernel
theorem dL_death_18 : decode cL_death 18 = .ok (.iconst 0, 1) := by decide +kernel
theorem dL_death_19 : decode cL_death 19 = .ok (.ireturn, 1) := by decide +kernel
set_option maxRecDepth 20000 in
theorem ggL_marry_X11_marry : GoodIn wsL_marry wsX11_marry := goodIn_ca (goodIn_ca (goodIn_ca (goodIn_r _ [6, 7, 8, 9, 10, 11, 12, 5, 13, 14, 15, 16, 17, 18, 19, 20, 21, 22, 23, 24, 25, 26, 27, 28, 29, 30, 31, 32, 33, 34, 35, 36, 37, 38, 39, 40, 41, 42, 43, 44, 45, 46, 47, 48, 49, 50, 51, 52, 53, 54, 55, 56, 57, 58, 59, 60, 61, 62, 63, 64, 65, 66, 67, 68, 69, 70, 71, 72, 73, 74] (by decide +kernel) (by decide +kernel)) (goodIn_sub (fun _ h => List.mem_cons_of_mem _ (List.mem_append_left _ (List.mem_append_right _ h))) (by decide +kernel))) (goodIn_sub (fun _ h => List.mem_cons_of_mem _ (List.mem_append_right _ h)) (by decide +kernel))) (goodIn_sub (fun _ h => List.mem_cons_of_mem _ (List.mem_append_left _ (List.mem_append_left _ (List.mem_append_right _ h)))) (by decide +kernel))
set_option maxRecDepth 20000 in
theorem gL_marry_X11_marry : GoodIn wsL_marry (wsV RL 63 RX11 yX11_marry wsX11_marry) := goodIn_app (goodIn_of _ (by decide +kernel)) ggL_marry_X11_marry
theorem dL_marry_0 : decode cL_marry 0 = .ok (.aload_n 3, 1) := by decide +kernel
theorem dL_marry_1 : decode cL_marry 1 = .ok (.iconst 0, 1) := by decide +kernel
theorem dL_marry_2 : decode cL_marry 2 = .ok (.aload_n 0, 1) := by decide +kernel
theorem dL_marry_3 : decode cL_marry 3 = .ok (.iload_n 1, 1) := by decide +kernel
theorem dL_marry_4 : decode cL_marry 4 = .ok (.iload_n 2, 1) := by decide +kernel
theorem dL_marry_5 : decode cL_marry 5 = .ok (.invokevirtual 63, 3) := by decide +kernel
theorem dL_marry_8 : decode cL_marry 8 = .ok (.ifCond .eq 7, 3) := by decide +kernel
theorem dL_marry_11 : decode cL_marry 11 = .ok (.lconst 1, 1) := by decide +kernel
theorem dL_marry_12 : decode cL_marry 12 = .ok (.goto 4, 3) := by decide +kernel
theorem dL_marry_15 : decode cL_marry 15 = .ok (.lconst 0, 1) := by decide +kernel
theorem dL_marry_16 : decode cL_marry 16 = .ok (.lastore, 1) := by decide +kernel
theorem dL_marry_17 : decode cL_marry 17 = .ok (.goto 11, 3) := by decide +kernel
theorem dL_marry_20 : decode cL_marry 20 = .ok (.astore 4, 2) := by decide +kernel
theorem dL_marry_22 : decode cL_marry 22 = .ok (.iconst 1, 1) := by decide +kernel
theorem dL_marry_23 : decode cL_marry 23 = .ok (.ireturn, 1) := by decide +kernel
theorem dL_marry_24 : decode cL_marry 24 = .ok (.astore 4, 2) := by decide +kernel
theorem dL_marry_26 : decode cL_marry 26 = .ok (.iconst 2, 1) := by decide +kernel
theorem dL_marry_27 : decode cL_marry 27 = .ok (.ireturn, 1) := by decide +kernel
theorem dL_marry_28 : decode cL_marry 28 = .ok (.iconst 0, 1) := by decide +kernel
theorem dL_marry_29 : decode cL_marry 29 = .ok (.ireturn, 1) := by decide +kernel
set_option maxRecDepth 20000 in
theorem ggL_lives_X11_lives : GoodIn wsL_lives wsX11_lives := goodIn_ca (goodIn_ca (goodIn_r _ [6, 7, 8, 9, 10, 5, 11, 12, 13, 14, 15, 16, 17, 18, 19, 20, 21, 22, 23, 24, 25, 26, 27, 28, 29, 30, 31, 32, 33, 34, 35, 36, 37, 38, 39, 40, 41, 42, 43, 44, 45, 46, 47, 48] (by decide +kernel) (by decide +kernel)) (goodIn_sub (fun _ h => List.mem_cons_of_mem _ (List.mem_append_right _ h)) (by decide +kernel))) (goodIn_sub (fun _ h => List.mem_cons_of_mem _ (List.mem_append_left _ (List.mem_append_right _ h))) (by decide +kernel))
set_option maxRecDepth 20000 in
theorem gL_lives_X11_lives : GoodIn wsL_lives (wsV RL 67 RX11 yX11_lives wsX11_lives) := goodIn_app (goodIn_of _ (by decide +kernel)) ggL_lives_X11_lives
theorem dL_lives_0 : decode cL_lives 0 = .ok (.aload_n 2, 1) := by decide +kernel
theorem dL_lives_1 : decode cL_lives 1 = .ok (.iconst 0, 1) := by decide +kernel
theorem dL_lives_2 : decode cL_lives 2 = .ok (.aload_n 0, 1) := by decide +kernel
theorem dL_lives_3 : decode cL_lives 3 = .ok (.iload_n 1, 1) := by decide +kernel
theorem dL_lives_4 : decode cL_lives 4 = .ok (.invokevirtual 67, 3) := by decide +kernel
theorem dL_lives_7 : decode cL_lives 7 = .ok (.ifCond .eq 7, 3) := by decide +kernel
theorem dL_lives_10 : decode cL_lives 10 = .ok (.lconst 1, 1) := by decide +kernel
theorem dL_lives_11 : decode cL_lives 11 = .ok (.goto 4, 3) := by decide +kernel
theorem dL_lives_14 : decode cL_lives 14 = .ok (.lconst 0, 1) := by decide +kernel
theorem dL_lives_15 : decode cL_lives 15 = .ok (.lastore, 1) := by decide +kernel
theorem dL_lives_16 : decode cL_lives 16 = .ok (.goto 6, 3) := by decide +kernel
theorem dL_lives_19 : decode cL_lives 19 = .ok (.astore_n 3, 1) := by decide +kernel
theorem dL_lives_20 : decode cL_lives 20 = .ok (.iconst 1, 1) := by decide +kernel
theorem dL_lives_21 : decode cL_lives 21 = .ok (.ireturn, 1) := by decide +kernel
theorem dL_lives_22 : decode cL_lives 22 = .ok (.iconst 0, 1) := by decide +kernel
theorem dL_lives_23 : decode cL_lives 23 = .ok (.ireturn, 1) := by decide +kernel
set_option maxRecDepth 20000 in
theorem ggL_spouse_X11_spouse : GoodIn wsL_spouse wsX11_spouse := goodIn_ca (goodIn_ca (goodIn_ca (goodIn_r _ [6, 7, 8, 9, 10, 11, 12, 5, 13, 14, 15, 16, 17, 18, 19, 20, 21, 22, 23, 24, 25, 26, 27, 28, 29, 30, 31, 32, 33, 34, 35, 36, 37, 38, 39, 40, 41, 42, 43, 44, 45, 46, 47, 48, 49, 50] (by decide +kernel) (by decide +kernel)) (goodIn_sub (fun _ h => List.mem_cons_of_mem _ (List.mem_append_left _ (List.mem_append_right _ h))) (by decide +kernel))) (goodIn_sub (fun _ h => List.mem_cons_of_mem _ (List.mem_append_right _ h)) (by decide +kernel))) (goodIn_sub (fun _ h => List.mem_cons_of_mem _ (List.mem_append_left _ (List.mem_append_left _ (List.mem_append_right _ h)))) (by decide +kernel))
set_option maxRecDepth 20000 in
theorem gL_spouse_X11_spouse : GoodIn wsL_spouse (wsV RL 71 RX11 yX11_spouse wsX11_spouse) := goodIn_app (goodIn_of _ (by decide +kernel)) ggL_spouse_X11_spouse
theorem dL_spouse_0 : decode cL_spouse 0 = .ok (.aload_n 2, 1) := by decide +kernel
theorem dL_spouse_1 : decode cL_spouse 1 = .ok (.iconst 0, 1) := by decide +kernel
theorem dL_spouse_2 : decode cL_spouse 2 = .ok (.aload_n 0, 1) := by decide +kernel
theorem dL_spouse_3 : decode cL_spouse 3 = .ok (.iload_n 1, 1) := by decide +kernel
theorem dL_spouse_4 : decode cL_spouse 4 = .ok (.invokevirtual 71, 3) := by decide +kernel
theorem dL_spouse_7 : decode cL_spouse 7 = .ok (.i2l, 1) := by decide +kernel
theorem dL_spouse_8 : decode cL_spouse 8 = .ok (.lastore, 1) := by decide +kernel
theorem dL_spouse_9 : decode cL_spouse 9 = .ok (.goto 9, 3) := by decide +kernel
theorem dL_spouse_12 : decode cL_spouse 12 = .ok (.astore_n 3, 1) := by decide +kernel
theorem dL_spouse_13 : decode cL_spouse 13 = .ok (.iconst 1, 1) := by decide +kernel
theorem dL_spouse_14 : decode cL_spouse 14 = .ok (.ireturn, 1) := by decide +kernel
theorem dL_spouse_15 : decode cL_spouse 15 = .ok (.astore_n 3, 1) := by decide +kernel
theorem dL_spouse_16 : decode cL_spouse 16 = .ok (.iconst 2, 1) := by decide +kernel
theorem dL_spouse_17 : decode cL_spouse 17 = .ok (.ireturn, 1) := by decide +kernel
theorem dL_spouse_18 : decode cL_spouse 18 = .ok (.iconst 0, 1) := by decide +kernel
theorem dL_spouse_19 : decode cL_spouse 19 = .ok (.ireturn, 1) := by decide +kernel
set_option maxRecDepth 20000 in
theorem ggL_isHeiress_X11_isHeiress : GoodIn wsL_isHeiress wsX11_isHeiress := goodIn_ca (goodIn_ca (goodIn_r _ [6, 7, 8, 9, 10, 5, 11, 12, 13, 14, 15, 16, 17, 18, 19, 20, 21, 22, 23, 24, 25, 26, 27, 28, 29, 30, 31, 32, 33, 34, 35, 36, 37, 38, 39, 40, 41, 42, 43, 44, 45, 46, 47, 48, 49, 50, 51] (by decide +kernel) (by decide +kernel)) (goodIn_sub (fun _ h => List.mem_cons_of_mem _ (List.mem_append_right _ h)) (by decide +kernel))) (goodIn_sub (fun _ h => List.mem_cons_of_mem _ (List.mem_append_left _ (List.mem_append_right _ h))) (by decide +kernel))
set_option maxRecDepth 20000 in
theorem gL_isHeiress_X11_isHeiress : GoodIn wsL_isHeiress (wsV RL 74 RX11 yX11_isHeiress wsX11_isHeiress) := goodIn_app (goodIn_of _ (by decide +kernel)) ggL_isHeiress_X11_isHeiress
theorem dL_isHeiress_0 : decode cL_isHeiress 0 = .ok (.aload_n 2, 1) := by decide +kernel
theorem dL_isHeiress_1 : decode cL_isHeiress 1 = .ok (.iconst 0, 1) := by decide +kernel
theorem dL_isHeiress_2 : decode cL_isHeiress 2 = .ok (.aload_n 0, 1) := by decide +kernel
theorem dL_isHeiress_3 : decode cL_isHeiress 3 = .ok (.iload_n 1, 1) := by decide +kernel
theorem dL_isHeiress_4 : decode cL_isHeiress 4 = .ok (.invokevirtual 74, 3) := by decide +kernel
theorem dL_isHeiress_7 : decode cL_isHeiress 7 = .ok (.ifCond .eq 7, 3) := by decide +kernel
theorem dL_isHeiress_10 : decode cL_isHeiress 10 = .ok (.lconst 1, 1) := by decide +kernel
theorem dL_isHeiress_11 : decode cL_isHeiress 11 = .ok (.goto 4, 3) := by decide +kernel
theorem dL_isHeiress_14 : decode cL_isHeiress 14 = .ok (.lconst 0, 1) := by decide +kernel
theorem dL_isHeiress_15 : decode cL_isHeiress 15 = .ok (.lastore, 1) := by decide +kernel
theorem dL_isHeiress_16 : decode cL_isHeiress 16 = .ok (.goto 6, 3) := by decide +kernel
theorem dL_isHeiress_19 : decode cL_isHeiress 19 = .ok (.astore_n 3, 1) := by decide +kernel
theorem dL_isHeiress_20 : decode cL_isHeiress 20 = .ok (.iconst 1, 1) := by decide +kernel
theorem dL_isHeiress_21 : decode cL_isHeiress 21 = .ok (.ireturn, 1) := by decide +kernel
theorem dL_isHeiress_22 : decode cL_isHeiress 22 = .ok (.iconst 0, 1) := by decide +kernel
theorem dL_isHeiress_23 : decode cL_isHeiress 23 = .ok (.ireturn, 1) := by decide +kernel
set_option maxRecDepth 20000 in
theorem ggL_lineOf_X11_lineOf : GoodIn wsL_lineOf wsX11_lineOf := goodIn_ca (goodIn_ca (goodIn_r _ [6, 7, 8, 9, 10, 5, 11, 12, 13, 14, 15, 16, 17, 18, 19, 20, 21, 22, 23, 24, 25, 26, 27, 28, 29, 30, 31, 32, 33, 34, 35, 36, 37, 38, 39, 40, 41, 42, 43, 44, 45, 46, 47, 48] (by decide +kernel) (by decide +kernel)) (goodIn_sub (fun _ h => List.mem_cons_of_mem _ (List.mem_append_right _ h)) (by decide +kernel))) (goodIn_sub (fun _ h => List.mem_cons_of_mem _ (List.mem_append_left _ (List.mem_append_right _ h))) (by decide +kernel))
set_option maxRecDepth 20000 in
theorem gL_lineOf_X11_lineOf : GoodIn wsL_lineOf (wsV RL 77 RX11 yX11_lineOf wsX11_lineOf) := goodIn_app (goodIn_of _ (by decide +kernel)) ggL_lineOf_X11_lineOf
theorem dL_lineOf_0 : decode cL_lineOf 0 = .ok (.aload_n 2, 1) := by decide +kernel
theorem dL_lineOf_1 : decode cL_lineOf 1 = .ok (.iconst 0, 1) := by decide +kernel
theorem dL_lineOf_2 : decode cL_lineOf 2 = .ok (.aload_n 0, 1) := by decide +kernel
theorem dL_lineOf_3 : decode cL_lineOf 3 = .ok (.iload_n 1, 1) := by decide +kernel
theorem dL_lineOf_4 : decode cL_lineOf 4 = .ok (.invokevirtual 77, 3) := by decide +kernel
theorem dL_lineOf_7 : decode cL_lineOf 7 = .ok (.i2l, 1) := by decide +kernel
theorem dL_lineOf_8 : decode cL_lineOf 8 = .ok (.lastore, 1) := by decide +kernel
theorem dL_lineOf_9 : decode cL_lineOf 9 = .ok (.goto 6, 3) := by decide +kernel
theorem dL_lineOf_12 : decode cL_lineOf 12 = .ok (.astore_n 3, 1) := by decide +kernel
theorem dL_lineOf_13 : decode cL_lineOf 13 = .ok (.iconst 1, 1) := by decide +kernel
theorem dL_lineOf_14 : decode cL_lineOf 14 = .ok (.ireturn, 1) := by decide +kernel
theorem dL_lineOf_15 : decode cL_lineOf 15 = .ok (.iconst 0, 1) := by decide +kernel
theorem dL_lineOf_16 : decode cL_lineOf 16 = .ok (.ireturn, 1) := by decide +kernel
set_option maxRecDepth 20000 in
theorem ggL_grant_X11_grant : GoodIn wsL_grant wsX11_grant := goodIn_ca (goodIn_ca (goodIn_ca (goodIn_ca (goodIn_ca (goodIn_r _ [6, 7, 8, 9, 10, 11, 12, 13, 5, 14, 15, 16, 17, 18, 19, 20, 21, 22, 23, 24, 25, 26, 27, 28, 29, 30, 31, 32, 33, 34, 35, 36, 37, 38, 39, 40, 41, 42, 43, 44, 45, 46, 47, 48, 49, 50, 51, 52, 53, 54, 55, 56, 57, 58, 59, 60, 61, 62, 63, 64, 65, 66, 67, 68, 69, 70, 71, 72, 73, 74, 75, 76, 77, 78, 79, 80, 81, 82, 83, 84, 85, 86, 87, 88, 89, 90, 91, 92, 93, 94, 95, 96, 97, 98, 99, 100, 101, 102, 103, 104, 105, 106, 107, 108, 109, 110, 111, 112, 113, 114, 115, 116, 117, 118, 119, 120, 121, 122, 123, 124, 125, 126, 127, 128, 129, 130, 131, 132, 133, 134, 135, 136, 137, 138, 139, 140, 141, 142, 143, 144, 145, 146, 147, 148, 149, 150, 151, 152, 153, 154, 155, 156, 157, 158, 159, 160, 161, 162, 163, 164, 165, 166, 167, 168, 169, 170, 171, 172, 173, 174, 175, 176, 177, 178, 179, 180, 181, 182, 183, 184, 185, 186, 187, 188, 189, 190, 191, 192, 193, 194, 195, 196, 197, 198, 199, 200, 201, 202, 203, 204, 205, 206, 207, 208, 209, 210, 211, 212, 213, 214, 215, 216, 217, 218, 219, 220, 221, 222, 223, 224, 225, 226, 227, 228, 229, 230, 231, 232, 233, 234, 235, 236, 237, 238, 239, 240, 241, 242, 243, 244, 245, 246, 247, 248, 249, 250, 251, 252, 253, 254, 255, 256, 257, 258, 259, 260, 261, 262, 263, 264, 265, 266, 267, 268, 269, 270, 271, 272, 273, 274, 275, 276, 277, 278, 279, 280, 281, 282, 283, 284, 285, 286, 287, 288, 289, 290, 291, 292, 293, 294, 295, 296, 297, 298, 299, 300, 301, 302, 303, 304, 305, 306, 307, 308, 309, 310, 311, 312, 313, 314, 315, 316, 317, 318, 319, 320, 321, 322, 323, 324, 325, 326, 327, 328, 329, 330, 331, 332, 333, 334, 335, 336, 337, 338, 339, 340, 341, 342, 343, 344, 345, 346, 347, 348, 349, 350, 351, 352, 353, 354, 355, 356, 357, 358, 359, 360, 361, 362, 363, 364, 365, 366, 367, 368, 369, 370, 371, 372, 373, 374, 375, 376, 377, 378, 379, 380, 381, 382, 383, 384, 385, 386, 387, 388, 389, 390, 391, 392, 393, 394, 395, 396, 397, 398, 399, 400, 401, 402, 403, 404, 405, 406, 407, 408, 409, 410, 411, 412, 413, 414, 415, 416, 417, 418, 419, 420, 421, 422, 423, 424, 425, 426, 427, 428, 429, 430, 431, 432, 433, 434, 435, 436, 437, 438, 439, 440, 441, 442, 443, 444, 445, 446, 447, 448, 449, 450, 451, 452, 453, 454, 455, 456, 457, 458, 459, 460, 461, 462, 463, 464, 465, 466, 467, 468, 469, 470, 471, 472, 473, 474, 475, 476, 477, 478, 479, 480, 481, 482, 483, 484, 485, 486, 487, 488, 489, 490, 491, 492, 493, 494, 495, 496, 497, 498, 499, 500, 501, 502, 503, 504, 505, 506, 507, 508, 509, 510, 511, 512, 513, 514, 515, 516, 517, 518, 519, 520, 521, 522, 523, 524, 525, 526, 527, 528, 529, 530, 531, 532, 533, 534, 535, 536, 537, 538, 539, 540, 541, 542, 543, 544, 545, 546, 547, 548, 549, 550, 551, 552, 553, 554, 555, 556, 557, 558, 559, 560, 561, 562, 563, 564, 565, 566, 567, 568, 569, 570, 571, 572, 573, 574, 575, 576, 577, 578, 579, 580, 581, 582, 583, 584, 585, 586, 587, 588, 589, 590, 591, 592, 593, 594, 595, 596, 597, 598, 599, 600, 601, 602, 603, 604, 605, 606, 607, 608, 609, 610, 611, 612, 613, 614, 615] (by decide +kernel) (by decide +kernel)) (goodIn_sub (fun _ h => List.mem_cons_of_mem _ (List.mem_append_left _ (List.mem_append_left _ (List.mem_append_left _ (List.mem_append_right _ h))))) (by decide +kernel))) (goodIn_sub (fun _ h => List.mem_cons_of_mem _ (List.mem_append_left _ (List.mem_append_left _ (List.mem_append_right _ h)))) (by decide +kernel))) (goodIn_sub (fun _ h => List.mem_cons_of_mem _ (List.mem_append_left _ (List.mem_append_right _ h))) (by decide +kernel))) (goodIn_sub (fun _ h => List.mem_cons_of_mem _ (List.mem_append_left _ (List.mem_append_left _ (List.mem_append_left _ (List.mem_append_left _ (List.mem_append_right _ h)))))) (by decide +kernel))) (goodIn_sub (fun _ h => List.mem_cons_of_mem _ (List.mem_append_right _ h)) (by decide +kernel))
set_option maxRecDepth 20000 in
theorem gL_grant_X11_grant : GoodIn wsL_grant (wsV RL 80 RX11 yX11_grant wsX11_grant) := goodIn_app (goodIn_of _ (by decide +kernel)) ggL_grant_X11_grant
theorem dL_grant_0 : decode cL_grant 0 = .ok (.aload_n 3, 1) := by decide +kernel
theorem dL_grant_1 : decode cL_grant 1 = .ok (.iconst 0, 1) := by decide +kernel
theorem dL_grant_2 : decode cL_grant 2 = .ok (.aload_n 0, 1) := by decide +kernel
theorem dL_grant_3 : decode cL_grant 3 = .ok (.iload_n 1, 1) := by decide +kernel
theorem dL_grant_4 : decode cL_grant 4 = .ok (.iload_n 2, 1) := by decide +kernel
theorem dL_grant_5 : decode cL_grant 5 = .ok (.invokevirtual 80, 3) := by decide +kernel
theorem dL_grant_8 : decode cL_grant 8 = .ok (.i2l, 1) := by decide +kernel
theorem dL_grant_9 : decode cL_grant 9 = .ok (.lastore, 1) := by decide +kernel
theorem dL_grant_10 : decode cL_grant 10 = .ok (.goto 19, 3) := by decide +kernel
theorem dL_grant_13 : decode cL_grant 13 = .ok (.astore 4, 2) := by decide +kernel
theorem dL_grant_15 : decode cL_grant 15 = .ok (.iconst 1, 1) := by decide +kernel
theorem dL_grant_16 : decode cL_grant 16 = .ok (.ireturn, 1) := by decide +kernel
theorem dL_grant_17 : decode cL_grant 17 = .ok (.astore 4, 2) := by decide +kernel
theorem dL_grant_19 : decode cL_grant 19 = .ok (.iconst 2, 1) := by decide +kernel
theorem dL_grant_20 : decode cL_grant 20 = .ok (.ireturn, 1) := by decide +kernel
theorem dL_grant_21 : decode cL_grant 21 = .ok (.astore 4, 2) := by decide +kernel
theorem dL_grant_23 : decode cL_grant 23 = .ok (.iconst 3, 1) := by decide +kernel
theorem dL_grant_24 : decode cL_grant 24 = .ok (.ireturn, 1) := by decide +kernel
theorem dL_grant_25 : decode cL_grant 25 = .ok (.astore 4, 2) := by decide +kernel
theorem dL_grant_27 : decode cL_grant 27 = .ok (.iconst 4, 1) := by decide +kernel
theorem dL_grant_28 : decode cL_grant 28 = .ok (.ireturn, 1) := by decide +kernel
theorem dL_grant_29 : decode cL_grant 29 = .ok (.iconst 0, 1) := by decide +kernel
theorem dL_grant_30 : decode cL_grant 30 = .ok (.ireturn, 1) := by decide +kernel
set_option maxRecDepth 20000 in
theorem ggL_assume_X11_assume : GoodIn wsL_assume wsX11_assume := goodIn_ca (goodIn_ca (goodIn_ca (goodIn_ca (goodIn_ca (goodIn_r _ [6, 7, 8, 9, 10, 11, 12, 13, 5, 14, 15, 16, 17, 18, 19, 20, 21, 22, 23, 24, 25, 26, 27, 28, 29, 30, 31, 32, 33, 34, 35, 36, 37, 38, 39, 40, 41, 42, 43, 44, 45, 46, 47, 48, 49, 50, 51, 52, 53, 54, 55, 56, 57, 58, 59, 60, 61, 62, 63, 64, 65, 66, 67, 68, 69, 70, 71, 72, 73, 74, 75, 76, 77, 78, 79, 80, 81, 82, 83, 84, 85, 86, 87, 88, 89, 90, 91, 92, 93, 94, 95, 96, 97, 98, 99, 100, 101, 102, 103, 104, 105, 106, 107, 108, 109, 110, 111, 112, 113, 114, 115, 116, 117, 118, 119, 120, 121, 122, 123, 124, 125, 126, 127, 128, 129, 130, 131, 132, 133, 134, 135, 136, 137, 138, 139, 140, 141, 142, 143, 144, 145, 146, 147, 148, 149, 150, 151, 152, 153, 154, 155, 156, 157, 158, 159, 160, 161, 162, 163, 164, 165, 166, 167, 168, 169, 170, 171, 172, 173, 174, 175, 176, 177, 178, 179, 180, 181, 182, 183, 184, 185, 186, 187, 188, 189, 190, 191, 192, 193, 194, 195, 196, 197, 198, 199, 200, 201, 202, 203, 204, 205, 206, 207, 208, 209, 210, 211, 212, 213, 214, 215, 216, 217, 218, 219, 220, 221, 222, 223, 224, 225, 226, 227, 228, 229, 230, 231, 232, 233, 234, 235, 236, 237, 238, 239, 240, 241, 242, 243, 244, 245, 246, 247, 248, 249, 250, 251, 252, 253, 254, 255, 256, 257, 258, 259, 260, 261, 262, 263, 264, 265, 266, 267, 268, 269, 270, 271, 272, 273, 274, 275, 276, 277, 278, 279, 280, 281, 282, 283, 284, 285, 286, 287, 288, 289, 290, 291, 292, 293, 294, 295, 296, 297, 298, 299, 300, 301, 302, 303, 304, 305, 306, 307, 308, 309, 310, 311, 312, 313, 314, 315, 316, 317, 318, 319, 320, 321, 322, 323, 324, 325, 326, 327, 328, 329, 330, 331, 332, 333, 334, 335, 336, 337, 338, 339, 340, 341, 342, 343, 344, 345, 346, 347, 348, 349, 350, 351, 352, 353, 354, 355, 356, 357, 358, 359, 360, 361, 362, 363, 364, 365, 366, 367, 368, 369, 370, 371, 372, 373, 374, 375, 376, 377, 378, 379, 380, 381, 382, 383, 384, 385, 386, 387, 388, 389, 390, 391, 392, 393, 394, 395, 396, 397, 398, 399, 400, 401, 402, 403, 404, 405, 406, 407, 408, 409, 410, 411, 412, 413, 414, 415, 416, 417, 418, 419, 420, 421, 422, 423, 424, 425, 426, 427, 428, 429, 430, 431, 432, 433, 434, 435, 436, 437, 438, 439, 440, 441, 442, 443, 444, 445, 446, 447, 448, 449, 450, 451, 452, 453, 454, 455, 456, 457, 458, 459, 460, 461, 462, 463, 464, 465, 466, 467, 468, 469, 470, 471, 472, 473, 474, 475, 476, 477, 478, 479, 480, 481, 482, 483, 484, 485, 486, 487, 488, 489, 490, 491, 492, 493, 494, 495, 496, 497, 498, 499, 500, 501, 502, 503, 504, 505, 506, 507, 508, 509, 510, 511, 512, 513, 514, 515, 516, 517, 518, 519, 520, 521, 522, 523, 524, 525, 526, 527, 528, 529, 530, 531, 532, 533, 534, 535, 536, 537, 538, 539, 540, 541, 542, 543, 544, 545, 546, 547, 548, 549, 550, 551, 552, 553, 554, 555, 556, 557, 558, 559, 560, 561] (by decide +kernel) (by decide +kernel)) (goodIn_sub (fun _ h => List.mem_cons_of_mem _ (List.mem_append_left _ (List.mem_append_left _ (List.mem_append_left _ (List.mem_append_right _ h))))) (by decide +kernel))) (goodIn_sub (fun _ h => List.mem_cons_of_mem _ (List.mem_append_left _ (List.mem_append_left _ (List.mem_append_right _ h)))) (by decide +kernel))) (goodIn_sub (fun _ h => List.mem_cons_of_mem _ (List.mem_append_left _ (List.mem_append_right _ h))) (by decide +kernel))) (goodIn_sub (fun _ h => List.mem_cons_of_mem _ (List.mem_append_left _ (List.mem_append_left _ (List.mem_append_left _ (List.mem_append_left _ (List.mem_append_right _ h)))))) (by decide +kernel))) (goodIn_sub (fun _ h => List.mem_cons_of_mem _ (List.mem_append_right _ h)) (by decide +kernel))
set_option maxRecDepth 20000 in
theorem gL_assume_X11_assume : GoodIn wsL_assume (wsV RL 83 RX11 yX11_assume wsX11_assume) := goodIn_app (goodIn_of _ (by decide +kernel)) ggL_assume_X11_assume
theorem dL_assume_0 : decode cL_assume 0 = .ok (.aload_n 3, 1) := by decide +kernel
theorem dL_assume_1 : decode cL_assume 1 = .ok (.iconst 0, 1) := by decide +kernel
theorem dL_assume_2 : decode cL_assume 2 = .ok (.aload_n 0, 1) := by decide +kernel
theorem dL_assume_3 : decode cL_assume 3 = .ok (.iload_n 1, 1) := by decide +kernel
theorem dL_assume_4 : decode cL_assume 4 = .ok (.iload_n 2, 1) := by decide +kernel
theorem dL_assume_5 : decode cL_assume 5 = .ok (.invokevirtual 83, 3) := by decide +kernel
theorem dL_assume_8 : decode cL_assume 8 = .ok (.i2l, 1) := by decide +kernel
theorem dL_assume_9 : decode cL_assume 9 = .ok (.lastore, 1) := by decide +kernel
theorem dL_assume_10 : decode cL_assume 10 = .ok (.goto 19, 3) := by decide +kernel
theorem dL_assume_13 : decode cL_assume 13 = .ok (.astore 4, 2) := by decide +kernel
theorem dL_assume_15 : decode cL_assume 15 = .ok (.iconst 1, 1) := by decide +kernel
theorem dL_assume_16 : decode cL_assume 16 = .ok (.ireturn, 1) := by decide +kernel
theorem dL_assume_17 : decode cL_assume 17 = .ok (.astore 4, 2) := by decide +kernel
theorem dL_assume_19 : decode cL_assume 19 = .ok (.iconst 2, 1) := by decide +kernel
theorem dL_assume_20 : decode cL_assume 20 = .ok (.ireturn, 1) := by decide +kernel
theorem dL_assume_21 : decode cL_assume 21 = .ok (.astore 4, 2) := by decide +kernel
theorem dL_assume_23 : decode cL_assume 23 = .ok (.iconst 3, 1) := by decide +kernel
theorem dL_assume_24 : decode cL_assume 24 = .ok (.ireturn, 1) := by decide +kernel
theorem dL_assume_25 : decode cL_assume 25 = .ok (.astore 4, 2) := by decide +kernel
theorem dL_assume_27 : decode cL_assume 27 = .ok (.iconst 4, 1) := by decide +kernel
theorem dL_assume_28 : decode cL_assume 28 = .ok (.ireturn, 1) := by decide +kernel
theorem dL_assume_29 : decode cL_assume 29 = .ok (.iconst 0, 1) := by decide +kernel
theorem dL_assume_30 : decode cL_assume 30 = .ok (.ireturn, 1) := by decide +kernel
set_option maxRecDepth 20000 in
theorem ggL_cameBy_X11_cameBy : GoodIn wsL_cameBy wsX11_cameBy := goodIn_ca (goodIn_ca (goodIn_r _ [6, 7, 8, 9, 10, 5, 11, 12, 13, 14, 15, 16, 17, 18, 19, 20, 21, 22, 23, 24, 25, 26, 27, 28, 29, 30, 31, 32, 33, 34, 35, 36, 37, 38, 39, 40, 41, 42, 43, 44, 45, 46, 47, 48, 49, 50, 51] (by decide +kernel) (by decide +kernel)) (goodIn_sub (fun _ h => List.mem_cons_of_mem _ (List.mem_append_right _ h)) (by decide +kernel))) (goodIn_sub (fun _ h => List.mem_cons_of_mem _ (List.mem_append_left _ (List.mem_append_right _ h))) (by decide +kernel))
set_option maxRecDepth 20000 in
theorem gL_cameBy_X11_cameBy : GoodIn wsL_cameBy (wsV RL 86 RX11 yX11_cameBy wsX11_cameBy) := goodIn_app (goodIn_of _ (by decide +kernel)) ggL_cameBy_X11_cameBy
theorem dL_cameBy_0 : decode cL_cameBy 0 = .ok (.aload_n 2, 1) := by decide +kernel
theorem dL_cameBy_1 : decode cL_cameBy 1 = .ok (.iconst 0, 1) := by decide +kernel
theorem dL_cameBy_2 : decode cL_cameBy 2 = .ok (.aload_n 0, 1) := by decide +kernel
theorem dL_cameBy_3 : decode cL_cameBy 3 = .ok (.iload_n 1, 1) := by decide +kernel
theorem dL_cameBy_4 : decode cL_cameBy 4 = .ok (.invokevirtual 86, 3) := by decide +kernel
theorem dL_cameBy_7 : decode cL_cameBy 7 = .ok (.i2l, 1) := by decide +kernel
theorem dL_cameBy_8 : decode cL_cameBy 8 = .ok (.lastore, 1) := by decide +kernel
theorem dL_cameBy_9 : decode cL_cameBy 9 = .ok (.goto 6, 3) := by decide +kernel
theorem dL_cameBy_12 : decode cL_cameBy 12 = .ok (.astore_n 3, 1) := by decide +kernel
theorem dL_cameBy_13 : decode cL_cameBy 13 = .ok (.iconst 1, 1) := by decide +kernel
theorem dL_cameBy_14 : decode cL_cameBy 14 = .ok (.ireturn, 1) := by decide +kernel
theorem dL_cameBy_15 : decode cL_cameBy 15 = .ok (.iconst 0, 1) := by decide +kernel
theorem dL_cameBy_16 : decode cL_cameBy 16 = .ok (.ireturn, 1) := by decide +kernel
set_option maxRecDepth 20000 in
theorem ggL_yearOf_X11_yearOf : GoodIn wsL_yearOf wsX11_yearOf := goodIn_ca (goodIn_ca (goodIn_r _ [6, 7, 8, 9, 10, 5, 11, 12, 13, 14, 15, 16, 17, 18, 19, 20, 21, 22, 23, 24, 25, 26, 27, 28, 29, 30, 31, 32, 33, 34, 35, 36, 37, 38, 39, 40, 41, 42, 43, 44, 45, 46, 47, 48, 49, 50, 51] (by decide +kernel) (by decide +kernel)) (goodIn_sub (fun _ h => List.mem_cons_of_mem _ (List.mem_append_right _ h)) (by decide +kernel))) (goodIn_sub (fun _ h => List.mem_cons_of_mem _ (List.mem_append_left _ (List.mem_append_right _ h))) (by decide +kernel))
set_option maxRecDepth 20000 in
theorem gL_yearOf_X11_yearOf : GoodIn wsL_yearOf (wsV RL 90 RX11 yX11_yearOf wsX11_yearOf) := goodIn_app (goodIn_of _ (by decide +kernel)) ggL_yearOf_X11_yearOf
theorem dL_yearOf_0 : decode cL_yearOf 0 = .ok (.aload_n 2, 1) := by decide +kernel
theorem dL_yearOf_1 : decode cL_yearOf 1 = .ok (.iconst 0, 1) := by decide +kernel
theorem dL_yearOf_2 : decode cL_yearOf 2 = .ok (.aload_n 0, 1) := by decide +kernel
theorem dL_yearOf_3 : decode cL_yearOf 3 = .ok (.iload_n 1, 1) := by decide +kernel
theorem dL_yearOf_4 : decode cL_yearOf 4 = .ok (.invokevirtual 90, 3) := by decide +kernel
theorem dL_yearOf_7 : decode cL_yearOf 7 = .ok (.i2l, 1) := by decide +kernel
theorem dL_yearOf_8 : decode cL_yearOf 8 = .ok (.lastore, 1) := by decide +kernel
theorem dL_yearOf_9 : decode cL_yearOf 9 = .ok (.goto 6, 3) := by decide +kernel
theorem dL_yearOf_12 : decode cL_yearOf 12 = .ok (.astore_n 3, 1) := by decide +kernel
theorem dL_yearOf_13 : decode cL_yearOf 13 = .ok (.iconst 1, 1) := by decide +kernel
theorem dL_yearOf_14 : decode cL_yearOf 14 = .ok (.ireturn, 1) := by decide +kernel
theorem dL_yearOf_15 : decode cL_yearOf 15 = .ok (.iconst 0, 1) := by decide +kernel
theorem dL_yearOf_16 : decode cL_yearOf 16 = .ok (.ireturn, 1) := by decide +kernel
set_option maxRecDepth 20000 in
theorem ggL_borne_X11_borne : GoodIn wsL_borne wsX11_borne := goodIn_ca (goodIn_ca (goodIn_ca (goodIn_r _ [6, 7, 8, 9, 10, 5, 11, 12, 13, 14, 15, 16, 17, 18, 19, 20, 21, 22, 23, 24, 25, 26, 27, 28, 29, 30, 31, 32, 33, 34, 35, 36, 37, 38, 39, 40, 41, 42, 43, 44, 45, 46, 47, 48, 49, 50, 51, 52, 53, 54, 55, 56, 57, 58, 59, 60, 61, 62, 63, 64, 65, 66, 67, 68] (by decide +kernel) (by decide +kernel)) (goodIn_sub (fun _ h => List.mem_cons_of_mem _ (List.mem_append_left _ (List.mem_append_right _ h))) (by decide +kernel))) (goodIn_sub (fun _ h => List.mem_cons_of_mem _ (List.mem_append_right _ h)) (by decide +kernel))) (goodIn_sub (fun _ h => List.mem_cons_of_mem _ (List.mem_append_left _ (List.mem_append_left _ (List.mem_append_right _ h)))) (by decide +kernel))
set_option maxRecDepth 20000 in
theorem gL_borne_X11_borne : GoodIn wsL_borne (wsV RL 93 RX11 yX11_borne wsX11_borne) := goodIn_app (goodIn_of _ (by decide +kernel)) ggL_borne_X11_borne
theorem dL_borne_0 : decode cL_borne 0 = .ok (.aload_n 2, 1) := by decide +kernel
theorem dL_borne_1 : decode cL_borne 1 = .ok (.iconst 0, 1) := by decide +kernel
theorem dL_borne_2 : decode cL_borne 2 = .ok (.aload_n 0, 1) := by decide +kernel
theorem dL_borne_3 : decode cL_borne 3 = .ok (.iload_n 1, 1) := by decide +kernel
theorem dL_borne_4 : decode cL_borne 4 = .ok (.invokevirtual 93, 3) := by decide +kernel
theorem dL_borne_7 : decode cL_borne 7 = .ok (.i2l, 1) := by decide +kernel
theorem dL_borne_8 : decode cL_borne 8 = .ok (.lastore, 1) := by decide +kernel
theorem dL_borne_9 : decode cL_borne 9 = .ok (.goto 9, 3) := by decide +kernel
theorem dL_borne_12 : decode cL_borne 12 = .ok (.astore_n 3, 1) := by decide +kernel
theorem dL_borne_13 : decode cL_borne 13 = .ok (.iconst 1, 1) := by decide +kernel
theorem dL_borne_14 : decode cL_borne 14 = .ok (.ireturn, 1) := by decide +kernel
theorem dL_borne_15 : decode cL_borne 15 = .ok (.astore_n 3, 1) := by decide +kernel
theorem dL_borne_16 : decode cL_borne 16 = .ok (.iconst 2, 1) := by decide +kernel
theorem dL_borne_17 : decode cL_borne 17 = .ok (.ireturn, 1) := by decide +kernel
theorem dL_borne_18 : decode cL_borne 18 = .ok (.iconst 0, 1) := by decide +kernel
theorem dL_borne_19 : decode cL_borne 19 = .ok (.ireturn, 1) := by decide +kernel
set_option maxRecDepth 20000 in
theorem ggL_differences_X11_differences : GoodIn wsL_differences wsX11_differences := goodIn_ca (goodIn_ca (goodIn_ca (goodIn_r _ [6, 7, 8, 9, 10, 5, 11, 12, 13, 14, 15, 16, 17, 18, 19, 20, 21, 22, 23, 24, 25, 26, 27, 28, 29, 30, 31, 32, 33, 34, 35, 36, 37, 38, 39, 40, 41, 42, 43, 44, 45, 46, 47, 48, 49, 50, 51, 52, 53, 54, 55, 56, 57, 58, 59, 60, 61, 62, 63, 64, 65, 66, 67, 68, 69, 70, 71, 72, 73] (by decide +kernel) (by decide +kernel)) (goodIn_sub (fun _ h => List.mem_cons_of_mem _ (List.mem_append_left _ (List.mem_append_right _ h))) (by decide +kernel))) (goodIn_sub (fun _ h => List.mem_cons_of_mem _ (List.mem_append_right _ h)) (by decide +kernel))) (goodIn_sub (fun _ h => List.mem_cons_of_mem _ (List.mem_append_left _ (List.mem_append_left _ (List.mem_append_right _ h)))) (by decide +kernel))
set_option maxRecDepth 20000 in
theorem gL_differences_X11_differences : GoodIn wsL_differences (wsV RL 96 RX11 yX11_differences wsX11_differences) := goodIn_app (goodIn_of _ (by decide +kernel)) ggL_differences_X11_differences
theorem dL_differences_0 : decode cL_differences 0 = .ok (.aload_n 2, 1) := by decide +kernel
theorem dL_differences_1 : decode cL_differences 1 = .ok (.iconst 0, 1) := by decide +kernel
theorem dL_differences_2 : decode cL_differences 2 = .ok (.aload_n 0, 1) := by decide +kernel
theorem dL_differences_3 : decode cL_differences 3 = .ok (.iload_n 1, 1) := by decide +kernel
theorem dL_differences_4 : decode cL_differences 4 = .ok (.invokevirtual 96, 3) := by decide +kernel
theorem dL_differences_7 : decode cL_differences 7 = .ok (.i2l, 1) := by decide +kernel
theorem dL_differences_8 : decode cL_differences 8 = .ok (.lastore, 1) := by decide +kernel
theorem dL_differences_9 : decode cL_differences 9 = .ok (.goto 9, 3) := by decide +kernel
theorem dL_differences_12 : decode cL_differences 12 = .ok (.astore_n 3, 1) := by decide +kernel
theorem dL_differences_13 : decode cL_differences 13 = .ok (.iconst 1, 1) := by decide +kernel
theorem dL_differences_14 : decode cL_differences 14 = .ok (.ireturn, 1) := by decide +kernel
theorem dL_differences_15 : decode cL_differences 15 = .ok (.astore_n 3, 1) := by decide +kernel
theorem dL_differences_16 : decode cL_differences 16 = .ok (.iconst 2, 1) := by decide +kernel
theorem dL_differences_17 : decode cL_differences 17 = .ok (.ireturn, 1) := by decide +kernel
theorem dL_differences_18 : decode cL_differences 18 = .ok (.iconst 0, 1) := by decide +kernel
theorem dL_differences_19 : decode cL_differences 19 = .ok (.ireturn, 1) := by decide +kernel
set_option maxRecDepth 20000 in
theorem ggL_difference_X11_difference : GoodIn wsL_difference wsX11_difference := goodIn_ca (goodIn_ca (goodIn_ca (goodIn_r _ [6, 7, 8, 9, 10, 11, 12, 5, 13, 14, 15, 16, 17, 18, 19, 20, 21, 22, 23, 24, 25, 26, 27, 28, 29, 30, 31, 32, 33, 34, 35, 36, 37, 38, 39, 40, 41, 42, 43, 44, 45, 46, 47, 48, 49, 50, 51, 52, 53, 54, 55, 56, 57, 58, 59, 60, 61, 62, 63, 64, 65, 66, 67, 68, 69, 70, 71, 72, 73, 74, 75, 76, 77, 78] (by decide +kernel) (by decide +kernel)) (goodIn_sub (fun _ h => List.mem_cons_of_mem _ (List.mem_append_left _ (List.mem_append_right _ h))) (by decide +kernel))) (goodIn_sub (fun _ h => List.mem_cons_of_mem _ (List.mem_append_right _ h)) (by decide +kernel))) (goodIn_sub (fun _ h => List.mem_cons_of_mem _ (List.mem_append_left _ (List.mem_append_left _ (List.mem_append_right _ h)))) (by decide +kernel))
set_option maxRecDepth 20000 in
theorem gL_difference_X11_difference : GoodIn wsL_difference (wsV RL 99 RX11 yX11_difference wsX11_difference) := goodIn_app (goodIn_of _ (by decide +kernel)) ggL_difference_X11_difference
theorem dL_difference_0 : decode cL_difference 0 = .ok (.aload_n 3, 1) := by decide +kernel
theorem dL_difference_1 : decode cL_difference 1 = .ok (.iconst 0, 1) := by decide +kernel
theorem dL_difference_2 : decode cL_difference 2 = .ok (.aload_n 0, 1) := by decide +kernel
theorem dL_difference_3 : decode cL_difference 3 = .ok (.iload_n 1, 1) := by decide +kernel
theorem dL_difference_4 : decode cL_difference 4 = .ok (.iload_n 2, 1) := by decide +kernel
theorem dL_difference_5 : decode cL_difference 5 = .ok (.invokevirtual 99, 3) := by decide +kernel
theorem dL_difference_8 : decode cL_difference 8 = .ok (.i2l, 1) := by decide +kernel
theorem dL_difference_9 : decode cL_difference 9 = .ok (.lastore, 1) := by decide +kernel
theorem dL_difference_10 : decode cL_difference 10 = .ok (.goto 11, 3) := by decide +kernel
theorem dL_difference_13 : decode cL_difference 13 = .ok (.astore 4, 2) := by decide +kernel
theorem dL_difference_15 : decode cL_difference 15 = .ok (.iconst 1, 1) := by decide +kernel
theorem dL_difference_16 : decode cL_difference 16 = .ok (.ireturn, 1) := by decide +kernel
theorem dL_difference_17 : decode cL_difference 17 = .ok (.astore 4, 2) := by decide +kernel
theorem dL_difference_19 : decode cL_difference 19 = .ok (.iconst 2, 1) := by decide +kernel
theorem dL_difference_20 : decode cL_difference 20 = .ok (.ireturn, 1) := by decide +kernel
theorem dL_difference_21 : decode cL_difference 21 = .ok (.iconst 0, 1) := by decide +kernel
theorem dL_difference_22 : decode cL_difference 22 = .ok (.ireturn, 1) := by decide +kernel
set_option maxRecDepth 20000 in
theorem ggL_isInAbeyance_X11_isInAbeyance : GoodIn wsL_isInAbeyance wsX11_isInAbeyance := goodIn_ca (goodIn_ca (goodIn_r _ [6, 7, 8, 9, 10, 5, 11, 12, 13, 14, 15, 16, 17, 18, 19, 20, 21, 22, 23, 24, 25, 26, 27, 28, 29, 30, 31, 32, 33, 34, 35, 36, 37, 38, 39, 40, 41, 42, 43, 44, 45, 46, 47, 48, 49, 50, 51, 52, 53, 54, 55, 56, 57, 58, 59] (by decide +kernel) (by decide +kernel)) (goodIn_sub (fun _ h => List.mem_cons_of_mem _ (List.mem_append_right _ h)) (by decide +kernel))) (goodIn_sub (fun _ h => List.mem_cons_of_mem _ (List.mem_append_left _ (List.mem_append_right _ h))) (by decide +kernel))
set_option maxRecDepth 20000 in
theorem gL_isInAbeyance_X11_isInAbeyance : GoodIn wsL_isInAbeyance (wsV RL 102 RX11 yX11_isInAbeyance wsX11_isInAbeyance) := goodIn_app (goodIn_of _ (by decide +kernel)) ggL_isInAbeyance_X11_isInAbeyance
theorem dL_isInAbeyance_0 : decode cL_isInAbeyance 0 = .ok (.aload_n 2, 1) := by decide +kernel
theorem dL_isInAbeyance_1 : decode cL_isInAbeyance 1 = .ok (.iconst 0, 1) := by decide +kernel
theorem dL_isInAbeyance_2 : decode cL_isInAbeyance 2 = .ok (.aload_n 0, 1) := by decide +kernel
theorem dL_isInAbeyance_3 : decode cL_isInAbeyance 3 = .ok (.iload_n 1, 1) := by decide +kernel
theorem dL_isInAbeyance_4 : decode cL_isInAbeyance 4 = .ok (.invokevirtual 102, 3) := by decide +kernel
theorem dL_isInAbeyance_7 : decode cL_isInAbeyance 7 = .ok (.ifCond .eq 7, 3) := by decide +kernel
theorem dL_isInAbeyance_10 : decode cL_isInAbeyance 10 = .ok (.lconst 1, 1) := by decide +kernel
theorem dL_isInAbeyance_11 : decode cL_isInAbeyance 11 = .ok (.goto 4, 3) := by decide +kernel
theorem dL_isInAbeyance_14 : decode cL_isInAbeyance 14 = .ok (.lconst 0, 1) := by decide +kernel
theorem dL_isInAbeyance_15 : decode cL_isInAbeyance 15 = .ok (.lastore, 1) := by decide +kernel
theorem dL_isInAbeyance_16 : decode cL_isInAbeyance 16 = .ok (.goto 6, 3) := by decide +kernel
theorem dL_isInAbeyance_19 : decode cL_isInAbeyance 19 = .ok (.astore_n 3, 1) := by decide +kernel
theorem dL_isInAbeyance_20 : decode cL_isInAbeyance 20 = .ok (.iconst 1, 1) := by decide +kernel
theorem dL_isInAbeyance_21 : decode cL_isInAbeyance 21 = .ok (.ireturn, 1) := by decide +kernel
theorem dL_isInAbeyance_22 : decode cL_isInAbeyance 22 = .ok (.iconst 0, 1) := by decide +kernel
theorem dL_isInAbeyance_23 : decode cL_isInAbeyance 23 = .ok (.ireturn, 1) := by decide +kernel
set_option maxRecDepth 20000 in
theorem ggL_call_X11_call : GoodIn wsL_call wsX11_call := goodIn_ca (goodIn_ca (goodIn_ca (goodIn_r _ [6, 7, 8, 9, 10, 11, 12, 13, 5, 14, 15, 16, 17, 18, 19, 20, 21, 22, 23, 24, 25, 26, 27, 28, 29, 30, 31, 32, 33, 34, 35, 36, 37, 38, 39, 40, 41, 42, 43, 44, 45, 46, 47, 48, 49, 50, 51, 52, 53, 54, 55, 56, 57, 58, 59, 60, 61, 62, 63, 64, 65, 66, 67, 68, 69, 70, 71, 72, 73, 74, 75, 76, 77, 78, 79, 80, 81, 82, 83, 84, 85, 86, 87, 88, 89, 90, 91, 92, 93, 94, 95, 96, 97, 98, 99, 100, 101, 102, 103, 104, 105, 106, 107, 108, 109, 110, 111, 112, 113, 114, 115, 116, 117, 118, 119, 120, 121, 122, 123, 124, 125, 126, 127, 128, 129, 130, 131, 132, 133, 134, 135, 136, 137, 138, 139, 140, 141, 142, 143, 144, 145, 146, 147, 148, 149, 150, 151, 152, 153, 154, 155, 156, 157, 158, 159, 160, 161, 162, 163, 164, 165, 166, 167, 168, 169, 170, 171, 172, 173, 174, 175, 176, 177, 178, 179, 180, 181, 182, 183, 184, 185, 186, 187, 188, 189, 190, 191, 192, 193, 194, 195, 196, 197, 198, 199, 200, 201, 202, 203, 204, 205, 206, 207, 208, 209, 210, 211, 212, 213, 214, 215, 216, 217, 218, 219, 220, 221, 222, 223, 224, 225, 226, 227, 228, 229, 230, 231, 232, 233, 234, 235, 236, 237, 238, 239, 240, 241, 242, 243, 244, 245, 246, 247, 248, 249, 250, 251, 252, 253, 254, 255, 256, 257, 258, 259, 260, 261] (by decide +kernel) (by decide +kernel)) (goodIn_sub (fun _ h => List.mem_cons_of_mem _ (List.mem_append_left _ (List.mem_append_right _ h))) (by decide +kernel))) (goodIn_sub (fun _ h => List.mem_cons_of_mem _ (List.mem_append_right _ h)) (by decide +kernel))) (goodIn_sub (fun _ h => List.mem_cons_of_mem _ (List.mem_append_left _ (List.mem_append_left _ (List.mem_append_right _ h)))) (by decide +kernel))
set_option maxRecDepth 20000 in
theorem gL_call_X11_call : GoodIn wsL_call (wsV RL 105 RX11 yX11_call wsX11_call) := goodIn_app (goodIn_of _ (by decide +kernel)) ggL_call_X11_call
theorem dL_call_0 : decode cL_call 0 = .ok (.aload_n 3, 1) := by decide +kernel
theorem dL_call_1 : decode cL_call 1 = .ok (.iconst 0, 1) := by decide +kernel
theorem dL_call_2 : decode cL_call 2 = .ok (.aload_n 0, 1) := by decide +kernel
theorem dL_call_3 : decode cL_call 3 = .ok (.iload_n 1, 1) := by decide +kernel
theorem dL_call_4 : decode cL_call 4 = .ok (.iload_n 2, 1) := by decide +kernel
theorem dL_call_5 : decode cL_call 5 = .ok (.invokevirtual 105, 3) := by decide +kernel
theorem dL_call_8 : decode cL_call 8 = .ok (.i2l, 1) := by decide +kernel
theorem dL_call_9 : decode cL_call 9 = .ok (.lastore, 1) := by decide +kernel
theorem dL_call_10 : decode cL_call 10 = .ok (.goto 11, 3) := by decide +kernel
theorem dL_call_13 : decode cL_call 13 = .ok (.astore 4, 2) := by decide +kernel
theorem dL_call_15 : decode cL_call 15 = .ok (.iconst 1, 1) := by decide +kernel
theorem dL_call_16 : decode cL_call 16 = .ok (.ireturn, 1) := by decide +kernel
theorem dL_call_17 : decode cL_call 17 = .ok (.astore 4, 2) := by decide +kernel
theorem dL_call_19 : decode cL_call 19 = .ok (.iconst 2, 1) := by decide +kernel
theorem dL_call_20 : decode cL_call 20 = .ok (.ireturn, 1) := by decide +kernel
theorem dL_call_21 : decode cL_call 21 = .ok (.iconst 0, 1) := by decide +kernel
theorem dL_call_22 : decode cL_call 22 = .ok (.ireturn, 1) := by decide +kernel
set_option maxRecDepth 20000 in
theorem ggL_isExtinct_X11_isExtinct : GoodIn wsL_isExtinct wsX11_isExtinct := goodIn_ca (goodIn_ca (goodIn_r _ [6, 7, 8, 9, 10, 5, 11, 12, 13, 14, 15, 16, 17, 18, 19, 20, 21, 22, 23, 24, 25, 26, 27, 28, 29, 30, 31, 32, 33, 34, 35, 36, 37, 38, 39, 40, 41, 42, 43, 44, 45, 46, 47, 48, 49, 50, 51, 52, 53, 54, 55, 56, 57, 58, 59, 60, 61, 62, 63, 64, 65, 66, 67, 68, 69, 70, 71, 72, 73, 74, 75, 76, 77, 78, 79, 80, 81, 82, 83, 84, 85, 86] (by decide +kernel) (by decide +kernel)) (goodIn_sub (fun _ h => List.mem_cons_of_mem _ (List.mem_append_right _ h)) (by decide +kernel))) (goodIn_sub (fun _ h => List.mem_cons_of_mem _ (List.mem_append_left _ (List.mem_append_right _ h))) (by decide +kernel))
set_option maxRecDepth 20000 in
theorem gL_isExtinct_X11_isExtinct : GoodIn wsL_isExtinct (wsV RL 108 RX11 yX11_isExtinct wsX11_isExtinct) := goodIn_app (goodIn_of _ (by decide +kernel)) ggL_isExtinct_X11_isExtinct
theorem dL_isExtinct_0 : decode cL_isExtinct 0 = .ok (.aload_n 2, 1) := by decide +kernel
theorem dL_isExtinct_1 : decode cL_isExtinct 1 = .ok (.iconst 0, 1) := by decide +kernel
theorem dL_isExtinct_2 : decode cL_isExtinct 2 = .ok (.aload_n 0, 1) := by decide +kernel
theorem dL_isExtinct_3 : decode cL_isExtinct 3 = .ok (.iload_n 1, 1) := by decide +kernel
theorem dL_isExtinct_4 : decode cL_isExtinct 4 = .ok (.invokevirtual 108, 3) := by decide +kernel
theorem dL_isExtinct_7 : decode cL_isExtinct 7 = .ok (.ifCond .eq 7, 3) := by decide +kernel
theorem dL_isExtinct_10 : decode cL_isExtinct 10 = .ok (.lconst 1, 1) := by decide +kernel
theorem dL_isExtinct_11 : decode cL_isExtinct 11 = .ok (.goto 4, 3) := by decide +kernel
theorem dL_isExtinct_14 : decode cL_isExtinct 14 = .ok (.lconst 0, 1) := by decide +kernel
theorem dL_isExtinct_15 : decode cL_isExtinct 15 = .ok (.lastore, 1) := by decide +kernel
theorem dL_isExtinct_16 : decode cL_isExtinct 16 = .ok (.goto 6, 3) := by decide +kernel
theorem dL_isExtinct_19 : decode cL_isExtinct 19 = .ok (.astore_n 3, 1) := by decide +kernel
theorem dL_isExtinct_20 : decode cL_isExtinct 20 = .ok (.iconst 1, 1) := by decide +kernel
theorem dL_isExtinct_21 : decode cL_isExtinct 21 = .ok (.ireturn, 1) := by decide +kernel
theorem dL_isExtinct_22 : decode cL_isExtinct 22 = .ok (.iconst 0, 1) := by decide +kernel
theorem dL_isExtinct_23 : decode cL_isExtinct 23 = .ok (.ireturn, 1) := by decide +kernel
set_option maxRecDepth 20000 in
theorem ggL_bearers_X11_bearers : GoodIn wsL_bearers wsX11_bearers := goodIn_ca (goodIn_ca (goodIn_r _ [6, 7, 8, 9, 10, 5, 11, 12, 13, 14, 15, 16, 17, 18, 19, 20, 21, 22, 23, 24, 25, 26, 27, 28, 29, 30, 31, 32, 33, 34, 35, 36, 37, 38, 39, 40, 41, 42, 43, 44, 45, 46, 47, 48, 49, 50, 51, 52, 53, 54, 55, 56, 57, 58, 59, 60, 61, 62, 63, 64, 65, 66, 67, 68, 69, 70, 71, 72, 73, 74, 75, 76, 77, 78, 79, 80] (by decide +kernel) (by decide +kernel)) (goodIn_sub (fun _ h => List.mem_cons_of_mem _ (List.mem_append_right _ h)) (by decide +kernel))) (goodIn_sub (fun _ h => List.mem_cons_of_mem _ (List.mem_append_left _ (List.mem_append_right _ h))) (by decide +kernel))
set_option maxRecDepth 20000 in
theorem gL_bearers_X11_bearers : GoodIn wsL_bearers (wsV RL 111 RX11 yX11_bearers wsX11_bearers) := goodIn_app (goodIn_of _ (by decide +kernel)) ggL_bearers_X11_bearers
theorem dL_bearers_0 : decode cL_bearers 0 = .ok (.aload_n 2, 1) := by decide +kernel
theorem dL_bearers_1 : decode cL_bearers 1 = .ok (.iconst 0, 1) := by decide +kernel
theorem dL_bearers_2 : decode cL_bearers 2 = .ok (.aload_n 0, 1) := by decide +kernel
theorem dL_bearers_3 : decode cL_bearers 3 = .ok (.iload_n 1, 1) := by decide +kernel
theorem dL_bearers_4 : decode cL_bearers 4 = .ok (.invokevirtual 111, 3) := by decide +kernel
theorem dL_bearers_7 : decode cL_bearers 7 = .ok (.i2l, 1) := by decide +kernel
theorem dL_bearers_8 : decode cL_bearers 8 = .ok (.lastore, 1) := by decide +kernel
theorem dL_bearers_9 : decode cL_bearers 9 = .ok (.goto 6, 3) := by decide +kernel
theorem dL_bearers_12 : decode cL_bearers 12 = .ok (.astore_n 3, 1) := by decide +kernel
theorem dL_bearers_13 : decode cL_bearers 13 = .ok (.iconst 1, 1) := by decide +kernel
theorem dL_bearers_14 : decode cL_bearers 14 = .ok (.ireturn, 1) := by decide +kernel
theorem dL_bearers_15 : decode cL_bearers 15 = .ok (.iconst 0, 1) := by decide +kernel
theorem dL_bearers_16 : decode cL_bearers 16 = .ok (.ireturn, 1) := by decide +kernel
set_option maxRecDepth 20000 in
theorem ggL_ofArms_X11_ofArms : GoodIn wsL_ofArms wsX11_ofArms := goodIn_ca (goodIn_ca (goodIn_r _ [6, 7, 8, 9, 10, 5, 11, 12, 13, 14, 15, 16, 17, 18, 19, 20, 21, 22, 23, 24, 25, 26, 27, 28, 29, 30, 31, 32, 33, 34, 35, 36, 37, 38, 39, 40, 41, 42, 43, 44, 45, 46, 47, 48, 49, 50, 51, 52, 53, 54, 55, 56, 57, 58, 59, 60, 61, 62, 63] (by decide +kernel) (by decide +kernel)) (goodIn_sub (fun _ h => List.mem_cons_of_mem _ (List.mem_append_right _ h)) (by decide +kernel))) (goodIn_sub (fun _ h => List.mem_cons_of_mem _ (List.mem_append_left _ (List.mem_append_right _ h))) (by decide +kernel))
set_option maxRecDepth 20000 in
theorem gL_ofArms_X11_ofArms : GoodIn wsL_ofArms (wsV RL 114 RX11 yX11_ofArms wsX11_ofArms) := goodIn_app (goodIn_of _ (by decide +kernel)) ggL_ofArms_X11_ofArms
theorem dL_ofArms_0 : decode cL_ofArms 0 = .ok (.aload 4, 2) := by decide +kernel
theorem dL_ofArms_2 : decode cL_ofArms 2 = .ok (.iconst 0, 1) := by decide +kernel
theorem dL_ofArms_3 : decode cL_ofArms 3 = .ok (.aload_n 0, 1) := by decide +kernel
theorem dL_ofArms_4 : decode cL_ofArms 4 = .ok (.iload_n 1, 1) := by decide +kernel
theorem dL_ofArms_5 : decode cL_ofArms 5 = .ok (.iload_n 2, 1) := by decide +kernel
theorem dL_ofArms_6 : decode cL_ofArms 6 = .ok (.iload_n 3, 1) := by decide +kernel
theorem dL_ofArms_7 : decode cL_ofArms 7 = .ok (.invokevirtual 114, 3) := by decide +kernel
theorem dL_ofArms_10 : decode cL_ofArms 10 = .ok (.i2l, 1) := by decide +kernel
theorem dL_ofArms_11 : decode cL_ofArms 11 = .ok (.lastore, 1) := by decide +kernel
theorem dL_ofArms_12 : decode cL_ofArms 12 = .ok (.goto 7, 3) := by decide +kernel
theorem dL_ofArms_15 : decode cL_ofArms 15 = .ok (.astore 5, 2) := by decide +kernel
theorem dL_ofArms_17 : decode cL_ofArms 17 = .ok (.iconst 1, 1) := by decide +kernel
theorem dL_ofArms_18 : decode cL_ofArms 18 = .ok (.ireturn, 1) := by decide +kernel
theorem dL_ofArms_19 : decode cL_ofArms 19 = .ok (.iconst 0, 1) := by decide +kernel
theorem dL_ofArms_20 : decode cL_ofArms 20 = .ok (.ireturn, 1) := by decide +kernel
set_option maxRecDepth 20000 in
theorem ggL_ofShield_X11_ofShield : GoodIn wsL_ofShield wsX11_ofShield := goodIn_ca (goodIn_ca (goodIn_ca (goodIn_r _ [6, 7, 8, 9, 10, 11, 5, 12, 13, 14, 15, 16, 17, 18, 19, 20, 21, 22, 23, 24, 25, 26, 27, 28, 29, 30, 31, 32, 33, 34, 35, 36, 37, 38, 39, 40, 41, 42, 43, 44, 45, 46, 47, 48, 49, 50, 51, 52, 53, 54, 55, 56, 57, 58, 59, 60, 61, 62, 63, 64, 65, 66, 67, 68, 69, 70, 71, 72, 73, 74, 75, 76, 77, 78, 79, 80, 81, 82, 83, 84, 85, 86, 87, 88, 89, 90, 91, 92, 93, 94, 95, 96, 97, 98, 99, 100, 101, 102, 103, 104, 105, 106, 107, 108, 109, 110, 111, 112, 113, 114, 115, 116, 117, 118, 119, 120, 121, 122, 123, 124, 125, 126, 127, 128, 129, 130, 131, 132, 133, 134, 135, 136, 137, 138, 139, 140, 141, 142, 143, 144, 145, 146, 147, 148, 149, 150, 151, 152, 153, 154, 155, 156, 157, 158, 159, 160, 161, 162, 163, 164, 165, 166, 167, 168, 169, 170, 171, 172, 173, 174, 175, 176, 177, 178, 179, 180, 181, 182, 183, 184, 185, 186, 187, 188, 189, 190, 191, 192, 193, 194, 195, 196, 197, 198, 199, 200, 201, 202, 203, 204, 205, 206, 207, 208, 209, 210, 211, 212, 213, 214, 215, 216, 217, 218, 219, 220, 221, 222, 223, 224, 225, 226, 227, 228, 229, 230, 231, 232, 233, 234, 235, 236, 237, 238, 239, 240, 241, 242, 243, 244, 245, 246, 247, 248, 249, 250, 251, 252, 253, 254, 255, 256, 257, 258, 259, 260, 261, 262, 263, 264, 265, 266, 267, 268, 269, 270, 271, 272, 273, 274, 275, 276, 277, 278, 279, 280, 281, 282, 283, 284, 285, 286, 287, 288, 289, 290, 291, 292, 293, 294, 295, 296, 297, 298, 299, 300, 301, 302, 303, 304, 305, 306, 307, 308, 309, 310, 311, 312, 313, 314, 315, 316, 317, 318, 319, 320, 321, 322, 323, 324, 325, 326, 327, 328, 329, 330, 331, 332, 333, 334, 335, 336, 337, 338, 339, 340, 341, 342, 343, 344, 345, 346, 347, 348, 349, 350, 351, 352, 353, 354, 355, 356, 357, 358, 359, 360, 361, 362, 363, 364, 365, 366, 367, 368, 369, 370, 371, 372, 373, 374, 375, 376, 377, 378, 379, 380, 381, 382, 383, 384, 385, 386, 387, 388, 389, 390, 391, 392, 393, 394, 395, 396, 397, 398, 399, 400, 401, 402, 403, 404, 405, 406, 407, 408, 409, 410, 411, 412, 413, 414, 415, 416, 417, 418, 419, 420, 421, 422, 423, 424] (by decide +kernel) (by decide +kernel)) (goodIn_sub (fun _ h => List.mem_cons_of_mem _ (List.mem_append_left _ (List.mem_append_right _ h))) (by decide +kernel))) (goodIn_sub (fun _ h => List.mem_cons_of_mem _ (List.mem_append_right _ h)) (by decide +kernel))) (goodIn_sub (fun _ h => List.mem_cons_of_mem _ (List.mem_append_left _ (List.mem_append_left _ (List.mem_append_right _ h)))) (by decide +kernel))
set_option maxRecDepth 20000 in
theorem gL_ofShield_X11_ofShield : GoodIn wsL_ofShield (wsV RL 118 RX11 yX11_ofShield wsX11_ofShield) := goodIn_app (goodIn_of _ (by decide +kernel)) ggL_ofShield_X11_ofShield
theorem dL_ofShield_0 : decode cL_ofShield 0 = .ok (.aload 4, 2) := by decide +kernel
theorem dL_ofShield_2 : decode cL_ofShield 2 = .ok (.iconst 0, 1) := by decide +kernel
theorem dL_ofShield_3 : decode cL_ofShield 3 = .ok (.aload_n 0, 1) := by decide +kernel
theorem dL_ofShield_4 : decode cL_ofShield 4 = .ok (.iload_n 1, 1) := by decide +kernel
theorem dL_ofShield_5 : decode cL_ofShield 5 = .ok (.iload_n 2, 1) := by decide +kernel
theorem dL_ofShield_6 : decode cL_ofShield 6 = .ok (.iload_n 3, 1) := by decide +kernel
theorem dL_ofShield_7 : decode cL_ofShield 7 = .ok (.invokevirtual 118, 3) := by decide +kernel
theorem dL_ofShield_10 : decode cL_ofShield 10 = .ok (.i2l, 1) := by decide +kernel
theorem dL_ofShield_11 : decode cL_ofShield 11 = .ok (.lastore, 1) := by decide +kernel
theorem dL_ofShield_12 : decode cL_ofShield 12 = .ok (.goto 11, 3) := by decide +kernel
theorem dL_ofShield_15 : decode cL_ofShield 15 = .ok (.astore 5, 2) := by decide +kernel
theorem dL_ofShield_17 : decode cL_ofShield 17 = .ok (.iconst 1, 1) := by decide +kernel
theorem dL_ofShield_18 : decode cL_ofShield 18 = .ok (.ireturn, 1) := by decide +kernel
theorem dL_ofShield_19 : decode cL_ofShield 19 = .ok (.astore 5, 2) := by decide +kernel
theorem dL_ofShield_21 : decode cL_ofShield 21 = .ok (.iconst 2, 1) := by decide +kernel
theorem dL_ofShield_22 : decode cL_ofShield 22 = .ok (.ireturn, 1) := by decide +kernel
theorem dL_ofShield_23 : decode cL_ofShield 23 = .ok (.iconst 0, 1) := by decide +kernel
theorem dL_ofShield_24 : decode cL_ofShield 24 = .ok (.ireturn, 1) := by decide +kernel
set_option maxRecDepth 20000 in
theorem ggL_shield_X11_shield : GoodIn wsL_shield wsX11_shield := goodIn_ca (goodIn_ca (goodIn_ca (goodIn_ca (goodIn_r _ [6, 7, 8, 9, 10, 11, 12, 5, 13, 14, 15, 16, 17, 18, 19, 20, 21, 22, 23, 24, 25, 26, 27, 28, 29, 30, 31, 32, 33, 34, 35, 36, 37, 38, 39, 40, 41, 42, 43, 44, 45, 46, 47, 48, 49, 50, 51, 52, 53, 54, 55, 56, 57, 58, 59, 60, 61, 62, 63, 64, 65, 66, 67, 68, 69, 70, 71, 72, 73, 74, 75, 76, 77, 78, 79, 80, 81, 82, 83, 84, 85, 86, 87, 88, 89, 90, 91, 92, 93, 94, 95, 96, 97, 98, 99, 100, 101, 102, 103, 104, 105, 106, 107, 108, 109, 110, 111, 112, 113, 114, 115, 116, 117, 118, 119, 120, 121, 122, 123, 124, 125, 126, 127, 128, 129, 130, 131, 132, 133, 134, 135, 136, 137, 138, 139, 140, 141, 142, 143, 144, 145, 146, 147, 148, 149, 150, 151, 152, 153, 154, 155, 156, 157, 158, 159, 160, 161, 162, 163, 164, 165, 166, 167, 168, 169, 170, 171, 172, 173, 174, 175, 176, 177, 178, 179, 180, 181, 182, 183, 184, 185, 186, 187, 188, 189, 190, 191, 192, 193, 194, 195, 196, 197, 198, 199, 200, 201, 202, 203, 204, 205, 206, 207, 208, 209, 210, 211, 212, 213, 214, 215, 216, 217, 218, 219, 220, 221, 222, 223, 224, 225, 226, 227, 228, 229, 230, 231, 232, 233, 234, 235, 236, 237, 238, 239, 240, 241, 242, 243, 244, 245, 246, 247, 248, 249, 250, 251, 252, 253, 254, 255, 256, 257, 258, 259, 260, 261, 262, 263, 264, 265, 266, 267, 268, 269, 270, 271, 272, 273, 274, 275, 276, 277, 278, 279, 280, 281, 282, 283, 284, 285, 286, 287, 288, 289, 290, 291, 292, 293, 294, 295, 296, 297, 298, 299, 300, 301, 302, 303, 304, 305, 306, 307, 308, 309, 310, 311, 312, 313, 314, 315, 316, 317, 318, 319, 320, 321, 322, 323, 324, 325, 326, 327, 328, 329, 330, 331, 332, 333, 334, 335, 336, 337, 338, 339, 340, 341, 342, 343, 344, 345, 346, 347, 348, 349, 350, 351, 352, 353, 354, 355, 356, 357, 358, 359, 360, 361, 362, 363, 364, 365, 366, 367, 368, 369, 370, 371, 372, 373, 374, 375, 376, 377, 378, 379, 380, 381, 382, 383, 384, 385, 386, 387, 388, 389, 390, 391, 392, 393, 394, 395, 396, 397, 398, 399, 400, 401, 402, 403, 404, 405, 406, 407, 408, 409, 410, 411, 412, 413, 414, 415, 416, 417, 418, 419, 420, 421, 422, 423, 424, 425, 426, 427, 428, 429, 430, 431, 432, 433, 434, 435, 436, 437, 438, 439, 440, 441, 442, 443] (by decide +kernel) (by decide +kernel)) (goodIn_sub (fun _ h => List.mem_cons_of_mem _ (List.mem_append_left _ (List.mem_append_left _ (List.mem_append_right _ h)))) (by decide +kernel))) (goodIn_sub (fun _ h => List.mem_cons_of_mem _ (List.mem_append_left _ (List.mem_append_right _ h))) (by decide +kernel))) (goodIn_sub (fun _ h => List.mem_cons_of_mem _ (List.mem_append_right _ h)) (by decide +kernel))) (goodIn_sub (fun _ h => List.mem_cons_of_mem _ (List.mem_append_left _ (List.mem_append_left _ (List.mem_append_left _ (List.mem_append_right _ h))))) (by decide +kernel))
set_option maxRecDepth 20000 in
theorem gL_shield_X11_shield : GoodIn wsL_shield (wsV RL 121 RX11 yX11_shield wsX11_shield) := goodIn_app (goodIn_of _ (by decide +kernel)) ggL_shield_X11_shield
theorem dL_shield_0 : decode cL_shield 0 = .ok (.aload 4, 2) := by decide +kernel
theorem dL_shield_2 : decode cL_shield 2 = .ok (.iconst 0, 1) := by decide +kernel
theorem dL_shield_3 : decode cL_shield 3 = .ok (.aload_n 0, 1) := by decide +kernel
theorem dL_shield_4 : decode cL_shield 4 = .ok (.iload_n 1, 1) := by decide +kernel
theorem dL_shield_5 : decode cL_shield 5 = .ok (.iload_n 2, 1) := by decide +kernel
theorem dL_shield_6 : decode cL_shield 6 = .ok (.iload_n 3, 1) := by decide +kernel
theorem dL_shield_7 : decode cL_shield 7 = .ok (.invokevirtual 121, 3) := by decide +kernel
theorem dL_shield_10 : decode cL_shield 10 = .ok (.i2l, 1) := by decide +kernel
theorem dL_shield_11 : decode cL_shield 11 = .ok (.lastore, 1) := by decide +kernel
theorem dL_shield_12 : decode cL_shield 12 = .ok (.goto 15, 3) := by decide +kernel
theorem dL_shield_15 : decode cL_shield 15 = .ok (.astore 5, 2) := by decide +kernel
theorem dL_shield_17 : decode cL_shield 17 = .ok (.iconst 1, 1) := by decide +kernel
theorem dL_shield_18 : decode cL_shield 18 = .ok (.ireturn, 1) := by decide +kernel
theorem dL_shield_19 : decode cL_shield 19 = .ok (.astore 5, 2) := by decide +kernel
theorem dL_shield_21 : decode cL_shield 21 = .ok (.iconst 2, 1) := by decide +kernel
theorem dL_shield_22 : decode cL_shield 22 = .ok (.ireturn, 1) := by decide +kernel
theorem dL_shield_23 : decode cL_shield 23 = .ok (.astore 5, 2) := by decide +kernel
theorem dL_shield_25 : decode cL_shield 25 = .ok (.iconst 3, 1) := by decide +kernel
theorem dL_shield_26 : decode cL_shield 26 = .ok (.ireturn, 1) := by decide +kernel
theorem dL_shield_27 : decode cL_shield 27 = .ok (.iconst 0, 1) := by decide +kernel
theorem dL_shield_28 : decode cL_shield 28 = .ok (.ireturn, 1) := by decide +kernel
set_option maxRecDepth 20000 in
theorem ggL_quarters_X11_quarters : GoodIn wsL_quarters wsX11_quarters := goodIn_ca (goodIn_ca (goodIn_r _ [6, 7, 8, 9, 10, 5, 11, 12, 13, 14, 15, 16, 17, 18, 19, 20, 21, 22, 23, 24, 25, 26, 27, 28, 29, 30, 31, 32, 33, 34, 35, 36, 37, 38, 39, 40, 41, 42, 43, 44, 45, 46, 47, 48, 49, 50, 51, 52, 53, 54, 55, 56, 57, 58, 59, 60, 61] (by decide +kernel) (by decide +kernel)) (goodIn_sub (fun _ h => List.mem_cons_of_mem _ (List.mem_append_right _ h)) (by decide +kernel))) (goodIn_sub (fun _ h => List.mem_cons_of_mem _ (List.mem_append_left _ (List.mem_append_right _ h))) (by decide +kernel))
set_option maxRecDepth 20000 in
theorem gL_quarters_X11_quarters : GoodIn wsL_quarters (wsV RL 124 RX11 yX11_quarters wsX11_quarters) := goodIn_app (goodIn_of _ (by decide +kernel)) ggL_quarters_X11_quarters
theorem dL_quarters_0 : decode cL_quarters 0 = .ok (.aload_n 2, 1) := by decide +kernel
theorem dL_quarters_1 : decode cL_quarters 1 = .ok (.iconst 0, 1) := by decide +kernel
theorem dL_quarters_2 : decode cL_quarters 2 = .ok (.aload_n 0, 1) := by decide +kernel
theorem dL_quarters_3 : decode cL_quarters 3 = .ok (.iload_n 1, 1) := by decide +kernel
theorem dL_quarters_4 : decode cL_quarters 4 = .ok (.invokevirtual 124, 3) := by decide +kernel
theorem dL_quarters_7 : decode cL_quarters 7 = .ok (.i2l, 1) := by decide +kernel
theorem dL_quarters_8 : decode cL_quarters 8 = .ok (.lastore, 1) := by decide +kernel
theorem dL_quarters_9 : decode cL_quarters 9 = .ok (.goto 6, 3) := by decide +kernel
theorem dL_quarters_12 : decode cL_quarters 12 = .ok (.astore_n 3, 1) := by decide +kernel
theorem dL_quarters_13 : decode cL_quarters 13 = .ok (.iconst 1, 1) := by decide +kernel
theorem dL_quarters_14 : decode cL_quarters 14 = .ok (.ireturn, 1) := by decide +kernel
theorem dL_quarters_15 : decode cL_quarters 15 = .ok (.iconst 0, 1) := by decide +kernel
theorem dL_quarters_16 : decode cL_quarters 16 = .ok (.ireturn, 1) := by decide +kernel
set_option maxRecDepth 20000 in
theorem ggL_quarter_X11_quarter : GoodIn wsL_quarter wsX11_quarter := goodIn_ca (goodIn_ca (goodIn_ca (goodIn_r _ [6, 7, 8, 9, 10, 5, 11, 12, 13, 14, 15, 16, 17, 18, 19, 20, 21, 22, 23, 24, 25, 26, 27, 28, 29, 30, 31, 32, 33, 34, 35, 36, 37, 38, 39, 40, 41, 42, 43, 44, 45, 46, 47, 48, 49, 50, 51, 52, 53, 54, 55, 56, 57, 58, 59, 60, 61, 62, 63, 64, 65, 66, 67, 68, 69, 70, 71, 72] (by decide +kernel) (by decide +kernel)) (goodIn_sub (fun _ h => List.mem_cons_of_mem _ (List.mem_append_left _ (List.mem_append_right _ h))) (by decide +kernel))) (goodIn_sub (fun _ h => List.mem_cons_of_mem _ (List.mem_append_right _ h)) (by decide +kernel))) (goodIn_sub (fun _ h => List.mem_cons_of_mem _ (List.mem_append_left _ (List.mem_append_left _ (List.mem_append_right _ h)))) (by decide +kernel))
set_option maxRecDepth 20000 in
theorem gL_quarter_X11_quarter : GoodIn wsL_quarter (wsV RL 127 RX11 yX11_quarter wsX11_quarter) := goodIn_app (goodIn_of _ (by decide +kernel)) ggL_quarter_X11_quarter
theorem dL_quarter_0 : decode cL_quarter 0 = .ok (.aload_n 3, 1) := by decide +kernel
theorem dL_quarter_1 : decode cL_quarter 1 = .ok (.iconst 0, 1) := by decide +kernel
theorem dL_quarter_2 : decode cL_quarter 2 = .ok (.aload_n 0, 1) := by decide +kernel
theorem dL_quarter_3 : decode cL_quarter 3 = .ok (.iload_n 1, 1) := by decide +kernel
theorem dL_quarter_4 : decode cL_quarter 4 = .ok (.iload_n 2, 1) := by decide +kernel
theorem dL_quarter_5 : decode cL_quarter 5 = .ok (.invokevirtual 127, 3) := by decide +kernel
theorem dL_quarter_8 : decode cL_quarter 8 = .ok (.i2l, 1) := by decide +kernel
theorem dL_quarter_9 : decode cL_quarter 9 = .ok (.lastore, 1) := by decide +kernel
theorem dL_quarter_10 : decode cL_quarter 10 = .ok (.goto 11, 3) := by decide +kernel
theorem dL_quarter_13 : decode cL_quarter 13 = .ok (.astore 4, 2) := by decide +kernel
theorem dL_quarter_15 : decode cL_quarter 15 = .ok (.iconst 1, 1) := by decide +kernel
theorem dL_quarter_16 : decode cL_quarter 16 = .ok (.ireturn, 1) := by decide +kernel
theorem dL_quarter_17 : decode cL_quarter 17 = .ok (.astore 4, 2) := by decide +kernel
theorem dL_quarter_19 : decode cL_quarter 19 = .ok (.iconst 2, 1) := by decide +kernel
theorem dL_quarter_20 : decode cL_quarter 20 = .ok (.ireturn, 1) := by decide +kernel
theorem dL_quarter_21 : decode cL_quarter 21 = .ok (.iconst 0, 1) := by decide +kernel
theorem dL_quarter_22 : decode cL_quarter 22 = .ok (.ireturn, 1) := by decide +kernel
set_option maxRecDepth 20000 in
theorem ggL_quarterBy_X11_quarterBy : GoodIn wsL_quarterBy wsX11_quarterBy := goodIn_ca (goodIn_ca (goodIn_ca (goodIn_r _ [6, 7, 8, 9, 10, 5, 11, 12, 13, 14, 15, 16, 17, 18, 19, 20, 21, 22, 23, 24, 25, 26, 27, 28, 29, 30, 31, 32, 33, 34, 35, 36, 37, 38, 39, 40, 41, 42, 43, 44, 45, 46, 47, 48, 49, 50, 51, 52, 53, 54, 55, 56, 57, 58, 59, 60, 61, 62, 63, 64, 65, 66, 67, 68, 69, 70, 71, 72] (by decide +kernel) (by decide +kernel)) (goodIn_sub (fun _ h => List.mem_cons_of_mem _ (List.mem_append_left _ (List.mem_append_right _ h))) (by decide +kernel))) (goodIn_sub (fun _ h => List.mem_cons_of_mem _ (List.mem_append_right _ h)) (by decide +kernel))) (goodIn_sub (fun _ h => List.mem_cons_of_mem _ (List.mem_append_left _ (List.mem_append_left _ (List.mem_append_right _ h)))) (by decide +kernel))
set_option maxRecDepth 20000 in
theorem gL_quarterBy_X11_quarterBy : GoodIn wsL_quarterBy (wsV RL 130 RX11 yX11_quarterBy wsX11_quarterBy) := goodIn_app (goodIn_of _ (by decide +kernel)) ggL_quarterBy_X11_quarterBy
theorem dL_quarterBy_0 : decode cL_quarterBy 0 = .ok (.aload_n 3, 1) := by decide +kernel
theorem dL_quarterBy_1 : decode cL_quarterBy 1 = .ok (.iconst 0, 1) := by decide +kernel
theorem dL_quarterBy_2 : decode cL_quarterBy 2 = .ok (.aload_n 0, 1) := by decide +kernel
theorem dL_quarterBy_3 : decode cL_quarterBy 3 = .ok (.iload_n 1, 1) := by decide +kernel
theorem dL_quarterBy_4 : decode cL_quarterBy 4 = .ok (.iload_n 2, 1) := by decide +kernel
theorem dL_quarterBy_5 : decode cL_quarterBy 5 = .ok (.invokevirtual 130, 3) := by decide +kernel
theorem dL_quarterBy_8 : decode cL_quarterBy 8 = .ok (.i2l, 1) := by decide +kernel
theorem dL_quarterBy_9 : decode cL_quarterBy 9 = .ok (.lastore, 1) := by decide +kernel
theorem dL_quarterBy_10 : decode cL_quarterBy 10 = .ok (.goto 11, 3) := by decide +kernel
theorem dL_quarterBy_13 : decode cL_quarterBy 13 = .ok (.astore 4, 2) := by decide +kernel
theorem dL_quarterBy_15 : decode cL_quarterBy 15 = .ok (.iconst 1, 1) := by decide +kernel
theorem dL_quarterBy_16 : decode cL_quarterBy 16 = .ok (.ireturn, 1) := by decide +kernel
theorem dL_quarterBy_17 : decode cL_quarterBy 17 = .ok (.astore 4, 2) := by decide +kernel
theorem dL_quarterBy_19 : decode cL_quarterBy 19 = .ok (.iconst 2, 1) := by decide +kernel
theorem dL_quarterBy_20 : decode cL_quarterBy 20 = .ok (.ireturn, 1) := by decide +kernel
theorem dL_quarterBy_21 : decode cL_quarterBy 21 = .ok (.iconst 0, 1) := by decide +kernel
theorem dL_quarterBy_22 : decode cL_quarterBy 22 = .ok (.ireturn, 1) := by decide +kernel
set_option maxRecDepth 20000 in
theorem ggL_distance_X11_distance : GoodIn wsL_distance wsX11_distance := goodIn_ca (goodIn_ca (goodIn_r _ [6, 7, 8, 9, 10, 5, 11, 12, 13, 14, 15, 16, 17, 18, 19, 20, 21, 22, 23, 24, 25, 26, 27, 28, 29, 30, 31, 32, 33, 34, 35, 36, 37, 38, 39, 40, 41, 42, 43, 44, 45, 46, 47, 48, 49, 50, 51, 52, 53, 54, 55, 56, 57, 58, 59, 60, 61, 62, 63, 64, 65, 66, 67, 68, 69, 70] (by decide +kernel) (by decide +kernel)) (goodIn_sub (fun _ h => List.mem_cons_of_mem _ (List.mem_append_right _ h)) (by decide +kernel))) (goodIn_sub (fun _ h => List.mem_cons_of_mem _ (List.mem_append_left _ (List.mem_append_right _ h))) (by decide +kernel))
set_option maxRecDepth 20000 in
theorem gL_distance_X11_distance : GoodIn wsL_distance (wsV RL 133 RX11 yX11_distance wsX11_distance) := goodIn_app (goodIn_of _ (by decide +kernel)) ggL_distance_X11_distance
theorem dL_distance_0 : decode cL_distance 0 = .ok (.aload_n 3, 1) := by decide +kernel
theorem dL_distance_1 : decode cL_distance 1 = .ok (.iconst 0, 1) := by decide +kernel
theorem dL_distance_2 : decode cL_distance 2 = .ok (.aload_n 0, 1) := by decide +kernel
theorem dL_distance_3 : decode cL_distance 3 = .ok (.iload_n 1, 1) := by decide +kernel
theorem dL_distance_4 : decode cL_distance 4 = .ok (.iload_n 2, 1) := by decide +kernel
theorem dL_distance_5 : decode cL_distance 5 = .ok (.invokevirtual 133, 3) := by decide +kernel
theorem dL_distance_8 : decode cL_distance 8 = .ok (.i2l, 1) := by decide +kernel
theorem dL_distance_9 : decode cL_distance 9 = .ok (.lastore, 1) := by decide +kernel
theorem dL_distance_10 : decode cL_distance 10 = .ok (.goto 7, 3) := by decide +kernel
theorem dL_distance_13 : decode cL_distance 13 = .ok (.astore 4, 2) := by decide +kernel
theorem dL_distance_15 : decode cL_distance 15 = .ok (.iconst 1, 1) := by decide +kernel
theorem dL_distance_16 : decode cL_distance 16 = .ok (.ireturn, 1) := by decide +kernel
theorem dL_distance_17 : decode cL_distance 17 = .ok (.iconst 0, 1) := by decide +kernel
theorem dL_distance_18 : decode cL_distance 18 = .ok (.ireturn, 1) := by decide +kernel
set_option maxRecDepth 20000 in
theorem ggL_nearest_X11_nearest : GoodIn wsL_nearest wsX11_nearest := goodIn_ca (goodIn_ca (goodIn_ca (goodIn_r _ [6, 7, 8, 9, 10, 11, 12, 13, 5, 14, 15, 16, 17, 18, 19, 20, 21, 22, 23, 24, 25, 26, 27, 28, 29, 30, 31, 32, 33, 34, 35, 36, 37, 38, 39, 40, 41, 42, 43, 44, 45, 46, 47, 48, 49, 50, 51, 52, 53, 54, 55, 56, 57, 58, 59, 60, 61, 62, 63, 64, 65, 66, 67, 68, 69, 70, 71, 72, 73, 74, 75, 76, 77, 78, 79, 80, 81, 82, 83, 84, 85, 86, 87, 88, 89, 90, 91, 92, 93, 94, 95, 96, 97, 98, 99, 100, 101, 102, 103, 104, 105, 106, 107, 108, 109, 110, 111, 112, 113, 114, 115, 116, 117, 118, 119, 120, 121, 122, 123, 124, 125, 126, 127, 128, 129, 130, 131, 132, 133, 134, 135, 136, 137, 138, 139, 140, 141, 142, 143, 144, 145, 146, 147, 148, 149, 150, 151, 152, 153, 154, 155, 156, 157, 158, 159, 160, 161, 162, 163, 164, 165, 166, 167, 168, 169, 170, 171, 172, 173, 174, 175, 176, 177, 178, 179, 180, 181, 182, 183, 184, 185, 186, 187, 188, 189, 190, 191, 192, 193, 194, 195, 196, 197, 198, 199, 200, 201, 202, 203, 204, 205, 206, 207, 208, 209, 210, 211, 212, 213, 214, 215, 216, 217, 218, 219, 220, 221, 222, 223, 224, 225, 226, 227, 228, 229, 230, 231, 232, 233, 234, 235, 236] (by decide +kernel) (by decide +kernel)) (goodIn_sub (fun _ h => List.mem_cons_of_mem _ (List.mem_append_left _ (List.mem_append_right _ h))) (by decide +kernel))) (goodIn_sub (fun _ h => List.mem_cons_of_mem _ (List.mem_append_right _ h)) (by decide +kernel))) (goodIn_sub (fun _ h => List.mem_cons_of_mem _ (List.mem_append_left _ (List.mem_append_left _ (List.mem_append_right _ h)))) (by decide +kernel))
set_option maxRecDepth 20000 in
theorem gL_nearest_X11_nearest : GoodIn wsL_nearest (wsV RL 136 RX11 yX11_nearest wsX11_nearest) := goodIn_app (goodIn_of _ (by decide +kernel)) ggL_nearest_X11_nearest
theorem dL_nearest_0 : decode cL_nearest 0 = .ok (.aload_n 1, 1) := by decide +kernel
theorem dL_nearest_1 : decode cL_nearest 1 = .ok (.iconst 0, 1) := by decide +kernel
theorem dL_nearest_2 : decode cL_nearest 2 = .ok (.aload_n 0, 1) := by decide +kernel
theorem dL_nearest_3 : decode cL_nearest 3 = .ok (.invokevirtual 136, 3) := by decide +kernel
theorem dL_nearest_6 : decode cL_nearest 6 = .ok (.i2l, 1) := by decide +kernel
theorem dL_nearest_7 : decode cL_nearest 7 = .ok (.lastore, 1) := by decide +kernel
theorem dL_nearest_8 : decode cL_nearest 8 = .ok (.goto 9, 3) := by decide +kernel
theorem dL_nearest_11 : decode cL_nearest 11 = .ok (.astore_n 2, 1) := by decide +kernel
theorem dL_nearest_12 : decode cL_nearest 12 = .ok (.iconst 1, 1) := by decide +kernel
theorem dL_nearest_13 : decode cL_nearest 13 = .ok (.ireturn, 1) := by decide +kernel
theorem dL_nearest_14 : decode cL_nearest 14 = .ok (.astore_n 2, 1) := by decide +kernel
theorem dL_nearest_15 : decode cL_nearest 15 = .ok (.iconst 2, 1) := by decide +kernel
theorem dL_nearest_16 : decode cL_nearest 16 = .ok (.ireturn, 1) := by decide +kernel
theorem dL_nearest_17 : decode cL_nearest 17 = .ok (.iconst 0, 1) := by decide +kernel
theorem dL_nearest_18 : decode cL_nearest 18 = .ok (.ireturn, 1) := by decide +kernel
set_option maxRecDepth 20000 in
theorem ggL_conflicts_X11_conflicts : GoodIn wsL_conflicts wsX11_conflicts := goodIn_ca (goodIn_ca (goodIn_ca (goodIn_ca (goodIn_r _ [6, 7, 8, 9, 10, 11, 5, 12, 13, 14, 15, 16, 17, 18, 19, 20, 21, 22, 23, 24, 25, 26, 27, 28, 29, 30, 31, 32, 33, 34, 35, 36, 37, 38, 39, 40, 41, 42, 43, 44, 45, 46, 47, 48, 49, 50, 51, 52, 53, 54, 55, 56, 57, 58, 59, 60, 61, 62, 63, 64, 65, 66, 67, 68, 69, 70, 71, 72, 73, 74, 75, 76, 77, 78, 79, 80, 81, 82, 83, 84, 85, 86, 87, 88, 89, 90, 91, 92, 93, 94, 95, 96, 97, 98, 99, 100, 101, 102, 103, 104, 105, 106, 107, 108, 109, 110, 111, 112, 113, 114, 115, 116, 117, 118, 119, 120, 121, 122, 123, 124, 125, 126, 127, 128, 129, 130, 131, 132, 133, 134, 135, 136, 137, 138, 139, 140, 141, 142, 143, 144, 145, 146, 147, 148, 149, 150, 151, 152, 153, 154, 155, 156, 157, 158, 159, 160, 161, 162, 163, 164, 165, 166, 167, 168, 169, 170, 171, 172, 173, 174, 175, 176, 177, 178, 179, 180, 181, 182, 183, 184, 185, 186, 187, 188, 189, 190, 191, 192, 193, 194, 195, 196, 197, 198, 199, 200, 201, 202, 203, 204, 205, 206, 207, 208, 209, 210, 211, 212, 213, 214, 215, 216, 217, 218, 219, 220, 221, 222, 223, 224, 225, 226, 227, 228, 229, 230, 231, 232, 233, 234, 235, 236, 237, 238, 239, 240, 241, 242, 243, 244, 245, 246, 247, 248, 249, 250, 251, 252, 253, 254, 255, 256, 257, 258, 259, 260, 261, 262, 263, 264, 265, 266, 267, 268, 269, 270, 271, 272, 273, 274, 275, 276, 277, 278, 279, 280, 281, 282, 283, 284, 285, 286, 287, 288, 289, 290, 291, 292, 293, 294, 295, 296, 297, 298, 299, 300, 301, 302, 303, 304, 305, 306, 307, 308, 309, 310, 311, 312, 313, 314, 315, 316, 317, 318, 319, 320] (by decide +kernel) (by decide +kernel)) (goodIn_sub (fun _ h => List.mem_cons_of_mem _ (List.mem_append_left _ (List.mem_append_left _ (List.mem_append_right _ h)))) (by decide +kernel))) (goodIn_sub (fun _ h => List.mem_cons_of_mem _ (List.mem_append_left _ (List.mem_append_right _ h))) (by decide +kernel))) (goodIn_sub (fun _ h => List.mem_cons_of_mem _ (List.mem_append_right _ h)) (by decide +kernel))) (goodIn_sub (fun _ h => List.mem_cons_of_mem _ (List.mem_append_left _ (List.mem_append_left _ (List.mem_append_left _ (List.mem_append_right _ h))))) (by decide +kernel))
set_option maxRecDepth 20000 in
theorem gL_conflicts_X11_conflicts : GoodIn wsL_conflicts (wsV RL 139 RX11 yX11_conflicts wsX11_conflicts) := goodIn_app (goodIn_of _ (by decide +kernel)) ggL_conflicts_X11_conflicts
theorem dL_conflicts_0 : decode cL_conflicts 0 = .ok (.aload_n 3, 1) := by decide +kernel
theorem dL_conflicts_1 : decode cL_conflicts 1 = .ok (.iconst 0, 1) := by decide +kernel
theorem dL_conflicts_2 : decode cL_conflicts 2 = .ok (.aload_n 0, 1) := by decide +kernel
theorem dL_conflicts_3 : decode cL_conflicts 3 = .ok (.iload_n 1, 1) := by decide +kernel
theorem dL_conflicts_4 : decode cL_conflicts 4 = .ok (.iload_n 2, 1) := by decide +kernel
theorem dL_conflicts_5 : decode cL_conflicts 5 = .ok (.invokevirtual 139, 3) := by decide +kernel
theorem dL_conflicts_8 : decode cL_conflicts 8 = .ok (.i2l, 1) := by decide +kernel
theorem dL_conflicts_9 : decode cL_conflicts 9 = .ok (.lastore, 1) := by decide +kernel
theorem dL_conflicts_10 : decode cL_conflicts 10 = .ok (.goto 15, 3) := by decide +kernel
theorem dL_conflicts_13 : decode cL_conflicts 13 = .ok (.astore 4, 2) := by decide +kernel
theorem dL_conflicts_15 : decode cL_conflicts 15 = .ok (.iconst 1, 1) := by decide +kernel
theorem dL_conflicts_16 : decode cL_conflicts 16 = .ok (.ireturn, 1) := by decide +kernel
theorem dL_conflicts_17 : decode cL_conflicts 17 = .ok (.astore 4, 2) := by decide +kernel
theorem dL_conflicts_19 : decode cL_conflicts 19 = .ok (.iconst 2, 1) := by decide +kernel
theorem dL_conflicts_20 : decode cL_conflicts 20 = .ok (.ireturn, 1) := by decide +kernel
theorem dL_conflicts_21 : decode cL_conflicts 21 = .ok (.astore 4, 2) := by decide +kernel
theorem dL_conflicts_23 : decode cL_conflicts 23 = .ok (.iconst 3, 1) := by decide +kernel
theorem dL_conflicts_24 : decode cL_conflicts 24 = .ok (.ireturn, 1) := by decide +kernel
theorem dL_conflicts_25 : decode cL_conflicts 25 = .ok (.iconst 0, 1) := by decide +kernel
theorem dL_conflicts_26 : decode cL_conflicts 26 = .ok (.ireturn, 1) := by decide +kernel
set_option maxRecDepth 20000 in
theorem ggL_visit_X11_visit : GoodIn wsL_visit wsX11_visit := goodIn_ca (goodIn_ca (goodIn_r _ [6, 7, 8, 9, 10, 11, 5, 12, 13, 14, 15, 16, 17, 18, 19, 20, 21, 22, 23, 24, 25, 26, 27, 28, 29, 30, 31, 32, 33, 34, 35, 36, 37, 38, 39, 40, 41, 42, 43, 44, 45, 46, 47, 48, 49, 50, 51, 52, 53, 54, 55, 56, 57, 58, 59, 60, 61, 62, 63, 64, 65, 66, 67, 68, 69, 70, 71, 72, 73, 74, 75, 76, 77, 78, 79, 80, 81, 82, 83, 84, 85, 86, 87, 88, 89, 90, 91, 92, 93, 94, 95, 96, 97, 98, 99, 100, 101, 102, 103, 104, 105, 106, 107, 108, 109, 110, 111, 112, 113, 114, 115, 116, 117, 118, 119, 120, 121, 122, 123, 124, 125, 126, 127, 128, 129, 130, 131, 132, 133, 134, 135, 136, 137, 138, 139, 140, 141, 142, 143, 144, 145, 146, 147, 148, 149, 150, 151, 152, 153, 154, 155, 156, 157, 158, 159, 160, 161, 162, 163, 164, 165, 166, 167, 168, 169, 170, 171, 172, 173, 174, 175, 176, 177, 178, 179, 180, 181, 182, 183, 184, 185, 186, 187, 188, 189, 190, 191, 192, 193, 194, 195, 196, 197, 198, 199, 200, 201, 202, 203, 204, 205, 206, 207, 208, 209, 210, 211, 212, 213, 214, 215, 216, 217, 218, 219, 220, 221, 222, 223, 224, 225, 226, 227, 228, 229, 230, 231, 232, 233, 234, 235, 236, 237, 238, 239, 240, 241, 242, 243, 244, 245, 246, 247, 248, 249, 250, 251, 252, 253, 254, 255, 256, 257, 258, 259, 260, 261, 262, 263, 264, 265, 266, 267, 268, 269, 270, 271, 272, 273, 274, 275, 276, 277, 278, 279, 280, 281, 282, 283, 284, 285, 286, 287, 288, 289, 290, 291, 292, 293, 294, 295, 296, 297, 298, 299, 300, 301, 302, 303, 304, 305, 306, 307, 308, 309, 310, 311] (by decide +kernel) (by decide +kernel)) (goodIn_sub (fun _ h => List.mem_cons_of_mem _ (List.mem_append_right _ h)) (by decide +kernel))) (goodIn_sub (fun _ h => List.mem_cons_of_mem _ (List.mem_append_left _ (List.mem_append_right _ h))) (by decide +kernel))
set_option maxRecDepth 20000 in
theorem gL_visit_X11_visit : GoodIn wsL_visit (wsV RL 142 RX11 yX11_visit wsX11_visit) := goodIn_app (goodIn_of _ (by decide +kernel)) ggL_visit_X11_visit
theorem dL_visit_0 : decode cL_visit 0 = .ok (.aload_n 2, 1) := by decide +kernel
theorem dL_visit_1 : decode cL_visit 1 = .ok (.iconst 0, 1) := by decide +kernel
theorem dL_visit_2 : decode cL_visit 2 = .ok (.aload_n 0, 1) := by decide +kernel
theorem dL_visit_3 : decode cL_visit 3 = .ok (.iload_n 1, 1) := by decide +kernel
theorem dL_visit_4 : decode cL_visit 4 = .ok (.invokevirtual 142, 3) := by decide +kernel
theorem dL_visit_7 : decode cL_visit 7 = .ok (.i2l, 1) := by decide +kernel
theorem dL_visit_8 : decode cL_visit 8 = .ok (.lastore, 1) := by decide +kernel
theorem dL_visit_9 : decode cL_visit 9 = .ok (.goto 6, 3) := by decide +kernel
theorem dL_visit_12 : decode cL_visit 12 = .ok (.astore_n 3, 1) := by decide +kernel
theorem dL_visit_13 : decode cL_visit 13 = .ok (.iconst 1, 1) := by decide +kernel
theorem dL_visit_14 : decode cL_visit 14 = .ok (.ireturn, 1) := by decide +kernel
theorem dL_visit_15 : decode cL_visit 15 = .ok (.iconst 0, 1) := by decide +kernel
theorem dL_visit_16 : decode cL_visit 16 = .ok (.ireturn, 1) := by decide +kernel
set_option maxRecDepth 20000 in
theorem ggL_sue_X11_sue : GoodIn wsL_sue wsX11_sue := goodIn_ca (goodIn_ca (goodIn_ca (goodIn_ca (goodIn_r _ [6, 7, 8, 9, 10, 11, 12, 13, 14, 15, 5, 16, 17, 18, 19, 20, 21, 22, 23, 24, 25, 26, 27, 28, 29, 30, 31, 32, 33, 34, 35, 36, 37, 38, 39, 40, 41, 42, 43, 44, 45, 46, 47, 48, 49, 50, 51, 52, 53, 54, 55, 56, 57, 58, 59, 60, 61, 62, 63, 64, 65, 66, 67, 68, 69, 70, 71, 72, 73, 74, 75, 76, 77, 78, 79, 80, 81, 82, 83, 84, 85, 86, 87, 88, 89, 90, 91, 92, 93, 94, 95, 96, 97, 98, 99, 100, 101, 102, 103, 104, 105, 106, 107, 108, 109, 110, 111, 112, 113, 114, 115, 116, 117, 118, 119, 120, 121, 122, 123, 124, 125, 126, 127, 128, 129, 130, 131, 132, 133, 134, 135, 136, 137, 138, 139, 140, 141, 142, 143, 144, 145, 146, 147, 148, 149, 150, 151, 152, 153, 154, 155, 156, 157, 158, 159, 160, 161, 162, 163, 164, 165, 166, 167, 168, 169, 170, 171, 172, 173, 174, 175, 176, 177, 178, 179, 180, 181, 182, 183, 184, 185, 186, 187, 188, 189, 190, 191, 192, 193, 194, 195, 196, 197, 198, 199, 200, 201, 202, 203, 204, 205, 206, 207, 208, 209, 210, 211, 212, 213, 214, 215, 216, 217, 218, 219, 220, 221, 222, 223, 224, 225, 226, 227, 228, 229, 230, 231, 232, 233, 234, 235, 236, 237, 238, 239, 240, 241, 242, 243, 244, 245, 246, 247, 248, 249, 250, 251, 252, 253, 254, 255, 256, 257, 258, 259, 260, 261, 262, 263, 264, 265, 266, 267, 268, 269, 270, 271, 272, 273, 274, 275, 276, 277, 278, 279, 280, 281, 282, 283, 284, 285, 286, 287, 288, 289, 290, 291, 292, 293, 294, 295, 296, 297, 298, 299, 300, 301, 302, 303, 304, 305, 306, 307, 308, 309, 310, 311, 312, 313, 314, 315, 316, 317, 318, 319, 320, 321, 322, 323, 324, 325, 326, 327, 328, 329, 330, 331, 332, 333, 334, 335, 336, 337, 338, 339, 340, 341] (by decide +kernel) (by decide +kernel)) (goodIn_sub (fun _ h => List.mem_cons_of_mem _ (List.mem_append_left _ (List.mem_append_left _ (List.mem_append_right _ h)))) (by decide +kernel))) (goodIn_sub (fun _ h => List.mem_cons_of_mem _ (List.mem_append_left _ (List.mem_append_right _ h))) (by decide +kernel))) (goodIn_sub (fun _ h => List.mem_cons_of_mem _ (List.mem_append_left _ (List.mem_append_left _ (List.mem_append_left _ (List.mem_append_right _ h))))) (by decide +kernel))) (goodIn_sub (fun _ h => List.mem_cons_of_mem _ (List.mem_append_right _ h)) (by decide +kernel))
set_option maxRecDepth 20000 in
theorem gL_sue_X11_sue : GoodIn wsL_sue (wsV RL 145 RX11 yX11_sue wsX11_sue) := goodIn_app (goodIn_of _ (by decide +kernel)) ggL_sue_X11_sue
theorem dL_sue_0 : decode cL_sue 0 = .ok (.aload_n 3, 1) := by decide +kernel
theorem dL_sue_1 : decode cL_sue 1 = .ok (.iconst 0, 1) := by decide +kernel
theorem dL_sue_2 : decode cL_sue 2 = .ok (.aload_n 0, 1) := by decide +kernel
theorem dL_sue_3 : decode cL_sue 3 = .ok (.iload_n 1, 1) := by decide +kernel
theorem dL_sue_4 : decode cL_sue 4 = .ok (.iload_n 2, 1) := by decide +kernel
theorem dL_sue_5 : decode cL_sue 5 = .ok (.invokevirtual 145, 3) := by decide +kernel
theorem dL_sue_8 : decode cL_sue 8 = .ok (.i2l, 1) := by decide +kernel
theorem dL_sue_9 : decode cL_sue 9 = .ok (.lastore, 1) := by decide +kernel
theorem dL_sue_10 : decode cL_sue 10 = .ok (.goto 15, 3) := by decide +kernel
theorem dL_sue_13 : decode cL_sue 13 = .ok (.astore 4, 2) := by decide +kernel
theorem dL_sue_15 : decode cL_sue 15 = .ok (.iconst 1, 1) := by decide +kernel
theorem dL_sue_16 : decode cL_sue 16 = .ok (.ireturn, 1) := by decide +kernel
theorem dL_sue_17 : decode cL_sue 17 = .ok (.astore 4, 2) := by decide +kernel
theorem dL_sue_19 : decode cL_sue 19 = .ok (.iconst 2, 1) := by decide +kernel
theorem dL_sue_20 : decode cL_sue 20 = .ok (.ireturn, 1) := by decide +kernel
theorem dL_sue_21 : decode cL_sue 21 = .ok (.astore 4, 2) := by decide +kernel
theorem dL_sue_23 : decode cL_sue 23 = .ok (.iconst 3, 1) := by decide +kernel
theorem dL_sue_24 : decode cL_sue 24 = .ok (.ireturn, 1) := by decide +kernel
theorem dL_sue_25 : decode cL_sue 25 = .ok (.iconst 0, 1) := by decide +kernel
theorem dL_sue_26 : decode cL_sue 26 = .ok (.ireturn, 1) := by decide +kernel
set_option maxRecDepth 20000 in
theorem ggL_judged_X11_judged : GoodIn wsL_judged wsX11_judged := goodIn_ca (goodIn_ca (goodIn_r _ [6, 7, 8, 9, 10, 5, 11, 12, 13, 14, 15, 16, 17, 18, 19, 20, 21, 22, 23, 24, 25, 26, 27, 28, 29, 30, 31, 32, 33, 34, 35, 36, 37, 38, 39, 40, 41, 42, 43, 44, 45, 46, 47, 48, 49, 50, 51, 52] (by decide +kernel) (by decide +kernel)) (goodIn_sub (fun _ h => List.mem_cons_of_mem _ (List.mem_append_right _ h)) (by decide +kernel))) (goodIn_sub (fun _ h => List.mem_cons_of_mem _ (List.mem_append_left _ (List.mem_append_right _ h))) (by decide +kernel))
set_option maxRecDepth 20000 in
theorem gL_judged_X11_judged : GoodIn wsL_judged (wsV RL 148 RX11 yX11_judged wsX11_judged) := goodIn_app (goodIn_of _ (by decide +kernel)) ggL_judged_X11_judged
theorem dL_judged_0 : decode cL_judged 0 = .ok (.aload_n 2, 1) := by decide +kernel
theorem dL_judged_1 : decode cL_judged 1 = .ok (.iconst 0, 1) := by decide +kernel
theorem dL_judged_2 : decode cL_judged 2 = .ok (.aload_n 0, 1) := by decide +kernel
theorem dL_judged_3 : decode cL_judged 3 = .ok (.iload_n 1, 1) := by decide +kernel
theorem dL_judged_4 : decode cL_judged 4 = .ok (.invokevirtual 148, 3) := by decide +kernel
theorem dL_judged_7 : decode cL_judged 7 = .ok (.i2l, 1) := by decide +kernel
theorem dL_judged_8 : decode cL_judged 8 = .ok (.lastore, 1) := by decide +kernel
theorem dL_judged_9 : decode cL_judged 9 = .ok (.goto 6, 3) := by decide +kernel
theorem dL_judged_12 : decode cL_judged 12 = .ok (.astore_n 3, 1) := by decide +kernel
theorem dL_judged_13 : decode cL_judged 13 = .ok (.iconst 1, 1) := by decide +kernel
theorem dL_judged_14 : decode cL_judged 14 = .ok (.ireturn, 1) := by decide +kernel
theorem dL_judged_15 : decode cL_judged 15 = .ok (.iconst 0, 1) := by decide +kernel
theorem dL_judged_16 : decode cL_judged 16 = .ok (.ireturn, 1) := by decide +kernel
set_option maxRecDepth 20000 in
theorem ggL_stands_X11_stands : GoodIn wsL_stands wsX11_stands := goodIn_ca (goodIn_ca (goodIn_r _ [6, 7, 8, 9, 10, 5, 11, 12, 13, 14, 15, 16, 17, 18, 19, 20, 21, 22, 23, 24, 25, 26, 27, 28, 29, 30, 31, 32, 33, 34, 35, 36, 37, 38, 39, 40, 41, 42, 43, 44, 45, 46, 47, 48, 49, 50, 51, 52] (by decide +kernel) (by decide +kernel)) (goodIn_sub (fun _ h => List.mem_cons_of_mem _ (List.mem_append_right _ h)) (by decide +kernel))) (goodIn_sub (fun _ h => List.mem_cons_of_mem _ (List.mem_append_left _ (List.mem_append_right _ h))) (by decide +kernel))
set_option maxRecDepth 20000 in
theorem gL_stands_X11_stands : GoodIn wsL_stands (wsV RL 151 RX11 yX11_stands wsX11_stands) := goodIn_app (goodIn_of _ (by decide +kernel)) ggL_stands_X11_stands
theorem dL_stands_0 : decode cL_stands 0 = .ok (.aload_n 2, 1) := by decide +kernel
theorem dL_stands_1 : decode cL_stands 1 = .ok (.iconst 0, 1) := by decide +kernel
theorem dL_stands_2 : decode cL_stands 2 = .ok (.aload_n 0, 1) := by decide +kernel
theorem dL_stands_3 : decode cL_stands 3 = .ok (.iload_n 1, 1) := by decide +kernel
theorem dL_stands_4 : decode cL_stands 4 = .ok (.invokevirtual 151, 3) := by decide +kernel
theorem dL_stands_7 : decode cL_stands 7 = .ok (.ifCond .eq 7, 3) := by decide +kernel
theorem dL_stands_10 : decode cL_stands 10 = .ok (.lconst 1, 1) := by decide +kernel
theorem dL_stands_11 : decode cL_stands 11 = .ok (.goto 4, 3) := by decide +kernel
theorem dL_stands_14 : decode cL_stands 14 = .ok (.lconst 0, 1) := by decide +kernel
theorem dL_stands_15 : decode cL_stands 15 = .ok (.lastore, 1) := by decide +kernel
theorem dL_stands_16 : decode cL_stands 16 = .ok (.goto 6, 3) := by decide +kernel
theorem dL_stands_19 : decode cL_stands 19 = .ok (.astore_n 3, 1) := by decide +kernel
theorem dL_stands_20 : decode cL_stands 20 = .ok (.iconst 1, 1) := by decide +kernel
theorem dL_stands_21 : decode cL_stands 21 = .ok (.ireturn, 1) := by decide +kernel
theorem dL_stands_22 : decode cL_stands 22 = .ok (.iconst 0, 1) := by decide +kernel
theorem dL_stands_23 : decode cL_stands 23 = .ok (.ireturn, 1) := by decide +kernel
set_option maxRecDepth 20000 in
theorem ggL_precedent_X11_precedent : GoodIn wsL_precedent wsX11_precedent := goodIn_ca (goodIn_ca (goodIn_ca (goodIn_r _ [6, 7, 8, 9, 10, 11, 12, 13, 14, 5, 15, 16, 17, 18, 19, 20, 21, 22, 23, 24, 25, 26, 27, 28, 29, 30, 31, 32, 33, 34, 35, 36, 37, 38, 39, 40, 41, 42, 43, 44, 45, 46, 47, 48, 49, 50, 51, 52, 53, 54, 55] (by decide +kernel) (by decide +kernel)) (goodIn_sub (fun _ h => List.mem_cons_of_mem _ (List.mem_append_left _ (List.mem_append_right _ h))) (by decide +kernel))) (goodIn_sub (fun _ h => List.mem_cons_of_mem _ (List.mem_append_right _ h)) (by decide +kernel))) (goodIn_sub (fun _ h => List.mem_cons_of_mem _ (List.mem_append_left _ (List.mem_append_left _ (List.mem_append_right _ h)))) (by decide +kernel))
set_option maxRecDepth 20000 in
theorem gL_precedent_X11_precedent : GoodIn wsL_precedent (wsV RL 154 RX11 yX11_precedent wsX11_precedent) := goodIn_app (goodIn_of _ (by decide +kernel)) ggL_precedent_X11_precedent
theorem dL_precedent_0 : decode cL_precedent 0 = .ok (.aload_n 3, 1) := by decide +kernel
theorem dL_precedent_1 : decode cL_precedent 1 = .ok (.iconst 0, 1) := by decide +kernel
theorem dL_precedent_2 : decode cL_precedent 2 = .ok (.aload_n 0, 1) := by decide +kernel
theorem dL_precedent_3 : decode cL_precedent 3 = .ok (.iload_n 1, 1) := by decide +kernel
theorem dL_precedent_4 : decode cL_precedent 4 = .ok (.iload_n 2, 1) := by decide +kernel
theorem dL_precedent_5 : decode cL_precedent 5 = .ok (.invokevirtual 154, 3) := by decide +kernel
theorem dL_precedent_8 : decode cL_precedent 8 = .ok (.i2l, 1) := by decide +kernel
theorem dL_precedent_9 : decode cL_precedent 9 = .ok (.lastore, 1) := by decide +kernel
theorem dL_precedent_10 : decode cL_precedent 10 = .ok (.goto 11, 3) := by decide +kernel
theorem dL_precedent_13 : decode cL_precedent 13 = .ok (.astore 4, 2) := by decide +kernel
theorem dL_precedent_15 : decode cL_precedent 15 = .ok (.iconst 1, 1) := by decide +kernel
theorem dL_precedent_16 : decode cL_precedent 16 = .ok (.ireturn, 1) := by decide +kernel
theorem dL_precedent_17 : decode cL_precedent 17 = .ok (.astore 4, 2) := by decide +kernel
theorem dL_precedent_19 : decode cL_precedent 19 = .ok (.iconst 2, 1) := by decide +kernel
theorem dL_precedent_20 : decode cL_precedent 20 = .ok (.ireturn, 1) := by decide +kernel
theorem dL_precedent_21 : decode cL_precedent 21 = .ok (.iconst 0, 1) := by decide +kernel
theorem dL_precedent_22 : decode cL_precedent 22 = .ok (.ireturn, 1) := by decide +kernel
set_option maxRecDepth 20000 in
theorem ggL_appeal_X11_appeal : GoodIn wsL_appeal wsX11_appeal := goodIn_ca (goodIn_ca (goodIn_ca (goodIn_ca (goodIn_r _ [6, 7, 8, 9, 10, 11, 12, 13, 5, 14, 15, 16, 17, 18, 19, 20, 21, 22, 23, 24, 25, 26, 27, 28, 29, 30, 31, 32, 33, 34, 35, 36, 37, 38, 39, 40, 41, 42, 43, 44, 45, 46, 47, 48, 49, 50, 51, 52, 53, 54, 55, 56, 57, 58, 59, 60, 61, 62, 63, 64, 65, 66, 67, 68, 69, 70, 71, 72, 73, 74, 75, 76, 77, 78, 79, 80, 81, 82, 83, 84, 85, 86, 87, 88, 89, 90, 91, 92, 93, 94, 95, 96, 97, 98, 99, 100, 101, 102, 103, 104, 105, 106, 107, 108, 109, 110, 111, 112, 113, 114, 115, 116, 117, 118, 119, 120, 121, 122, 123, 124, 125, 126, 127, 128, 129, 130, 131, 132, 133, 134, 135, 136, 137, 138, 139, 140, 141, 142, 143, 144, 145, 146, 147, 148, 149, 150, 151, 152, 153, 154, 155, 156, 157, 158, 159, 160, 161, 162, 163, 164, 165, 166, 167, 168, 169, 170, 171, 172, 173, 174, 175, 176, 177, 178, 179, 180, 181, 182, 183, 184, 185, 186, 187, 188, 189, 190, 191, 192, 193, 194, 195, 196, 197, 198, 199, 200, 201, 202, 203, 204, 205, 206, 207, 208, 209, 210, 211, 212, 213, 214, 215, 216, 217, 218, 219, 220, 221, 222, 223, 224, 225, 226, 227, 228, 229, 230, 231, 232, 233, 234, 235, 236, 237, 238, 239, 240, 241, 242, 243, 244, 245, 246, 247, 248, 249, 250, 251, 252, 253, 254, 255, 256, 257, 258, 259, 260, 261, 262, 263, 264, 265, 266, 267, 268, 269, 270, 271, 272, 273, 274, 275, 276, 277, 278, 279, 280, 281, 282, 283, 284, 285, 286, 287, 288, 289, 290, 291, 292, 293, 294, 295, 296, 297, 298, 299, 300, 301, 302, 303, 304] (by decide +kernel) (by decide +kernel)) (goodIn_sub (fun _ h => List.mem_cons_of_mem _ (List.mem_append_left _ (List.mem_append_left _ (List.mem_append_right _ h)))) (by decide +kernel))) (goodIn_sub (fun _ h => List.mem_cons_of_mem _ (List.mem_append_left _ (List.mem_append_right _ h))) (by decide +kernel))) (goodIn_sub (fun _ h => List.mem_cons_of_mem _ (List.mem_append_left _ (List.mem_append_left _ (List.mem_append_left _ (List.mem_append_right _ h))))) (by decide +kernel))) (goodIn_sub (fun _ h => List.mem_cons_of_mem _ (List.mem_append_right _ h)) (by decide +kernel))
set_option maxRecDepth 20000 in
theorem gL_appeal_X11_appeal : GoodIn wsL_appeal (wsV RL 157 RX11 yX11_appeal wsX11_appeal) := goodIn_app (goodIn_of _ (by decide +kernel)) ggL_appeal_X11_appeal
theorem dL_appeal_0 : decode cL_appeal 0 = .ok (.aload_n 2, 1) := by decide +kernel
theorem dL_appeal_1 : decode cL_appeal 1 = .ok (.iconst 0, 1) := by decide +kernel
theorem dL_appeal_2 : decode cL_appeal 2 = .ok (.aload_n 0, 1) := by decide +kernel
theorem dL_appeal_3 : decode cL_appeal 3 = .ok (.iload_n 1, 1) := by decide +kernel
theorem dL_appeal_4 : decode cL_appeal 4 = .ok (.invokevirtual 157, 3) := by decide +kernel
theorem dL_appeal_7 : decode cL_appeal 7 = .ok (.i2l, 1) := by decide +kernel
theorem dL_appeal_8 : decode cL_appeal 8 = .ok (.lastore, 1) := by decide +kernel
theorem dL_appeal_9 : decode cL_appeal 9 = .ok (.goto 12, 3) := by decide +kernel
theorem dL_appeal_12 : decode cL_appeal 12 = .ok (.astore_n 3, 1) := by decide +kernel
theorem dL_appeal_13 : decode cL_appeal 13 = .ok (.iconst 1, 1) := by decide +kernel
theorem dL_appeal_14 : decode cL_appeal 14 = .ok (.ireturn, 1) := by decide +kernel
theorem dL_appeal_15 : decode cL_appeal 15 = .ok (.astore_n 3, 1) := by decide +kernel
theorem dL_appeal_16 : decode cL_appeal 16 = .ok (.iconst 2, 1) := by decide +kernel
theorem dL_appeal_17 : decode cL_appeal 17 = .ok (.ireturn, 1) := by decide +kernel
theorem dL_appeal_18 : decode cL_appeal 18 = .ok (.astore_n 3, 1) := by decide +kernel
theorem dL_appeal_19 : decode cL_appeal 19 = .ok (.iconst 3, 1) := by decide +kernel
theorem dL_appeal_20 : decode cL_appeal 20 = .ok (.ireturn, 1) := by decide +kernel
theorem dL_appeal_21 : decode cL_appeal 21 = .ok (.iconst 0, 1) := by decide +kernel
theorem dL_appeal_22 : decode cL_appeal 22 = .ok (.ireturn, 1) := by decide +kernel
set_option maxRecDepth 20000 in
theorem ggL_setRank_X11_setRank : GoodIn wsL_setRank wsX11_setRank := goodIn_ca (goodIn_ca (goodIn_ca (goodIn_r _ [6, 7, 8, 9, 10, 11, 12, 5, 13, 14, 15, 16, 17, 18, 19, 20, 21, 22, 23, 24, 25, 26, 27, 28, 29, 30, 31, 32, 33, 34, 35, 36, 37, 38, 39, 40, 41, 42, 43, 44, 45, 46, 47, 48, 49, 50, 51, 52, 53, 54, 55, 56, 57, 58, 59, 60] (by decide +kernel) (by decide +kernel)) (goodIn_sub (fun _ h => List.mem_cons_of_mem _ (List.mem_append_left _ (List.mem_append_right _ h))) (by decide +kernel))) (goodIn_sub (fun _ h => List.mem_cons_of_mem _ (List.mem_append_right _ h)) (by decide +kernel))) (goodIn_sub (fun _ h => List.mem_cons_of_mem _ (List.mem_append_left _ (List.mem_append_left _ (List.mem_append_right _ h)))) (by decide +kernel))
set_option maxRecDepth 20000 in
theorem gL_setRank_X11_setRank : GoodIn wsL_setRank (wsV RL 160 RX11 yX11_setRank wsX11_setRank) := goodIn_app (goodIn_of _ (by decide +kernel)) ggL_setRank_X11_setRank
theorem dL_setRank_0 : decode cL_setRank 0 = .ok (.aload_n 3, 1) := by decide +kernel
theorem dL_setRank_1 : decode cL_setRank 1 = .ok (.iconst 0, 1) := by decide +kernel
theorem dL_setRank_2 : decode cL_setRank 2 = .ok (.aload_n 0, 1) := by decide +kernel
theorem dL_setRank_3 : decode cL_setRank 3 = .ok (.iload_n 1, 1) := by decide +kernel
theorem dL_setRank_4 : decode cL_setRank 4 = .ok (.iload_n 2, 1) := by decide +kernel
theorem dL_setRank_5 : decode cL_setRank 5 = .ok (.invokevirtual 160, 3) := by decide +kernel
theorem dL_setRank_8 : decode cL_setRank 8 = .ok (.i2l, 1) := by decide +kernel
theorem dL_setRank_9 : decode cL_setRank 9 = .ok (.lastore, 1) := by decide +kernel
theorem dL_setRank_10 : decode cL_setRank 10 = .ok (.goto 11, 3) := by decide +kernel
theorem dL_setRank_13 : decode cL_setRank 13 = .ok (.astore 4, 2) := by decide +kernel
theorem dL_setRank_15 : decode cL_setRank 15 = .ok (.iconst 1, 1) := by decide +kernel
theorem dL_setRank_16 : decode cL_setRank 16 = .ok (.ireturn, 1) := by decide +kernel
theorem dL_setRank_17 : decode cL_setRank 17 = .ok (.astore 4, 2) := by decide +kernel
theorem dL_setRank_19 : decode cL_setRank 19 = .ok (.iconst 2, 1) := by decide +kernel
theorem dL_setRank_20 : decode cL_setRank 20 = .ok (.ireturn, 1) := by decide +kernel
theorem dL_setRank_21 : decode cL_setRank 21 = .ok (.iconst 0, 1) := by decide +kernel
theorem dL_setRank_22 : decode cL_setRank 22 = .ok (.ireturn, 1) := by decide +kernel
set_option maxRecDepth 20000 in
theorem ggL_setCrest_X11_setCrest : GoodIn wsL_setCrest wsX11_setCrest := goodIn_ca (goodIn_ca (goodIn_ca (goodIn_r _ [6, 7, 8, 9, 10, 5, 11, 12, 13, 14, 15, 16, 17, 18, 19, 20, 21, 22, 23, 24, 25, 26, 27, 28, 29, 30, 31, 32, 33, 34, 35, 36, 37, 38, 39, 40, 41, 42, 43, 44, 45, 46, 47, 48, 49, 50, 51, 52, 53, 54, 55, 56, 57, 58, 59, 60, 61, 62, 63, 64] (by decide +kernel) (by decide +kernel)) (goodIn_sub (fun _ h => List.mem_cons_of_mem _ (List.mem_append_left _ (List.mem_append_right _ h))) (by decide +kernel))) (goodIn_sub (fun _ h => List.mem_cons_of_mem _ (List.mem_append_right _ h)) (by decide +kernel))) (goodIn_sub (fun _ h => List.mem_cons_of_mem _ (List.mem_append_left _ (List.mem_append_left _ (List.mem_append_right _ h)))) (by decide +kernel))
set_option maxRecDepth 20000 in
theorem gL_setCrest_X11_setCrest : GoodIn wsL_setCrest (wsV RL 163 RX11 yX11_setCrest wsX11_setCrest) := goodIn_app (goodIn_of _ (by decide +kernel)) ggL_setCrest_X11_setCrest
theorem dL_setCrest_0 : decode cL_setCrest 0 = .ok (.aload_n 3, 1) := by decide +kernel
theorem dL_setCrest_1 : decode cL_setCrest 1 = .ok (.iconst 0, 1) := by decide +kernel
theorem dL_setCrest_2 : decode cL_setCrest 2 = .ok (.aload_n 0, 1) := by decide +kernel
theorem dL_setCrest_3 : decode cL_setCrest 3 = .ok (.iload_n 1, 1) := by decide +kernel
theorem dL_setCrest_4 : decode cL_setCrest 4 = .ok (.iload_n 2, 1) := by decide +kernel
theorem dL_setCrest_5 : decode cL_setCrest 5 = .ok (.invokevirtual 163, 3) := by decide +kernel
theorem dL_setCrest_8 : decode cL_setCrest 8 = .ok (.i2l, 1) := by decide +kernel
theorem dL_setCrest_9 : decode cL_setCrest 9 = .ok (.lastore, 1) := by decide +kernel
theorem dL_setCrest_10 : decode cL_setCrest 10 = .ok (.goto 11, 3) := by decide +kernel
theorem dL_setCrest_13 : decode cL_setCrest 13 = .ok (.astore 4, 2) := by decide +kernel
theorem dL_setCrest_15 : decode cL_setCrest 15 = .ok (.iconst 1, 1) := by decide +kernel
theorem dL_setCrest_16 : decode cL_setCrest 16 = .ok (.ireturn, 1) := by decide +kernel
theorem dL_setCrest_17 : decode cL_setCrest 17 = .ok (.astore 4, 2) := by decide +kernel
theorem dL_setCrest_19 : decode cL_setCrest 19 = .ok (.iconst 2, 1) := by decide +kernel
theorem dL_setCrest_20 : decode cL_setCrest 20 = .ok (.ireturn, 1) := by decide +kernel
theorem dL_setCrest_21 : decode cL_setCrest 21 = .ok (.iconst 0, 1) := by decide +kernel
theorem dL_setCrest_22 : decode cL_setCrest 22 = .ok (.ireturn, 1) := by decide +kernel
set_option maxRecDepth 20000 in
theorem ggL_crest_X11_crest : GoodIn wsL_crest wsX11_crest := goodIn_ca (goodIn_ca (goodIn_ca (goodIn_r _ [6, 7, 8, 9, 10, 11, 12, 5, 13, 14, 15, 16, 17, 18, 19, 20, 21, 22, 23, 24, 25, 26, 27, 28, 29, 30, 31, 32, 33, 34, 35, 36, 37, 38, 39, 40, 41, 42, 43, 44, 45, 46, 47, 48, 49, 50, 51, 52, 53, 54, 55, 56, 57, 58, 59, 60, 61, 62, 63, 64, 65, 66, 67, 68, 69, 70, 71, 72, 73, 74, 75, 76, 77, 78, 79, 80, 81, 82, 83, 84, 85, 86, 87, 88, 89, 90, 91, 92, 93, 94, 95, 96, 97, 98, 99, 100, 101, 102, 103, 104, 105, 106, 107, 108] (by decide +kernel) (by decide +kernel)) (goodIn_sub (fun _ h => List.mem_cons_of_mem _ (List.mem_append_left _ (List.mem_append_right _ h))) (by decide +kernel))) (goodIn_sub (fun _ h => List.mem_cons_of_mem _ (List.mem_append_right _ h)) (by decide +kernel))) (goodIn_sub (fun _ h => List.mem_cons_of_mem _ (List.mem_append_left _ (List.mem_append_left _ (List.mem_append_right _ h)))) (by decide +kernel))
set_option maxRecDepth 20000 in
theorem gL_crest_X11_crest : GoodIn wsL_crest (wsV RL 166 RX11 yX11_crest wsX11_crest) := goodIn_app (goodIn_of _ (by decide +kernel)) ggL_crest_X11_crest
theorem dL_crest_0 : decode cL_crest 0 = .ok (.aload_n 2, 1) := by decide +kernel
theorem dL_crest_1 : decode cL_crest 1 = .ok (.iconst 0, 1) := by decide +kernel
theorem dL_crest_2 : decode cL_crest 2 = .ok (.aload_n 0, 1) := by decide +kernel
theorem dL_crest_3 : decode cL_crest 3 = .ok (.iload_n 1, 1) := by decide +kernel
theorem dL_crest_4 : decode cL_crest 4 = .ok (.invokevirtual 166, 3) := by decide +kernel
theorem dL_crest_7 : decode cL_crest 7 = .ok (.i2l, 1) := by decide +kernel
theorem dL_crest_8 : decode cL_crest 8 = .ok (.lastore, 1) := by decide +kernel
theorem dL_crest_9 : decode cL_crest 9 = .ok (.goto 9, 3) := by decide +kernel
theorem dL_crest_12 : decode cL_crest 12 = .ok (.astore_n 3, 1) := by decide +kernel
theorem dL_crest_13 : decode cL_crest 13 = .ok (.iconst 1, 1) := by decide +kernel
theorem dL_crest_14 : decode cL_crest 14 = .ok (.ireturn, 1) := by decide +kernel
theorem dL_crest_15 : decode cL_crest 15 = .ok (.astore_n 3, 1) := by decide +kernel
theorem dL_crest_16 : decode cL_crest 16 = .ok (.iconst 2, 1) := by decide +kernel
theorem dL_crest_17 : decode cL_crest 17 = .ok (.ireturn, 1) := by decide +kernel
theorem dL_crest_18 : decode cL_crest 18 = .ok (.iconst 0, 1) := by decide +kernel
theorem dL_crest_19 : decode cL_crest 19 = .ok (.ireturn, 1) := by decide +kernel
set_option maxRecDepth 20000 in
theorem ggL_setSupporters_X11_setSupporters : GoodIn wsL_setSupporters wsX11_setSupporters := goodIn_ca (goodIn_ca (goodIn_ca (goodIn_r _ [6, 7, 8, 9, 10, 5, 11, 12, 13, 14, 15, 16, 17, 18, 19, 20, 21, 22, 23, 24, 25, 26, 27, 28, 29, 30, 31, 32, 33, 34, 35, 36, 37, 38, 39, 40, 41, 42, 43, 44, 45, 46, 47, 48, 49, 50, 51, 52, 53, 54, 55, 56, 57, 58, 59, 60, 61, 62, 63, 64, 65] (by decide +kernel) (by decide +kernel)) (goodIn_sub (fun _ h => List.mem_cons_of_mem _ (List.mem_append_left _ (List.mem_append_right _ h))) (by decide +kernel))) (goodIn_sub (fun _ h => List.mem_cons_of_mem _ (List.mem_append_right _ h)) (by decide +kernel))) (goodIn_sub (fun _ h => List.mem_cons_of_mem _ (List.mem_append_left _ (List.mem_append_left _ (List.mem_append_right _ h)))) (by decide +kernel))
set_option maxRecDepth 20000 in
theorem gL_setSupporters_X11_setSupporters : GoodIn wsL_setSupporters (wsV RL 169 RX11 yX11_setSupporters wsX11_setSupporters) := goodIn_app (goodIn_of _ (by decide +kernel)) ggL_setSupporters_X11_setSupporters
theorem dL_setSupporters_0 : decode cL_setSupporters 0 = .ok (.aload 4, 2) := by decide +kernel
theorem dL_setSupporters_2 : decode cL_setSupporters 2 = .ok (.iconst 0, 1) := by decide +kernel
theorem dL_setSupporters_3 : decode cL_setSupporters 3 = .ok (.aload_n 0, 1) := by decide +kernel
theorem dL_setSupporters_4 : decode cL_setSupporters 4 = .ok (.iload_n 1, 1) := by decide +kernel
theorem dL_setSupporters_5 : decode cL_setSupporters 5 = .ok (.iload_n 2, 1) := by decide +kernel
theorem dL_setSupporters_6 : decode cL_setSupporters 6 = .ok (.iload_n 3, 1) := by decide +kernel
theorem dL_setSupporters_7 : decode cL_setSupporters 7 = .ok (.invokevirtual 169, 3) := by decide +kernel
theorem dL_setSupporters_10 : decode cL_setSupporters 10 = .ok (.ifCond .eq 7, 3) := by decide +kernel
theorem dL_setSupporters_13 : decode cL_setSupporters 13 = .ok (.lconst 1, 1) := by decide +kernel
theorem dL_setSupporters_14 : decode cL_setSupporters 14 = .ok (.goto 4, 3) := by decide +kernel
theorem dL_setSupporters_17 : decode cL_setSupporters 17 = .ok (.lconst 0, 1) := by decide +kernel
theorem dL_setSupporters_18 : decode cL_setSupporters 18 = .ok (.lastore, 1) := by decide +kernel
theorem dL_setSupporters_19 : decode cL_setSupporters 19 = .ok (.goto 11, 3) := by decide +kernel
theorem dL_setSupporters_22 : decode cL_setSupporters 22 = .ok (.astore 5, 2) := by decide +kernel
theorem dL_setSupporters_24 : decode cL_setSupporters 24 = .ok (.iconst 1, 1) := by decide +kernel
theorem dL_setSupporters_25 : decode cL_setSupporters 25 = .ok (.ireturn, 1) := by decide +kernel
theorem dL_setSupporters_26 : decode cL_setSupporters 26 = .ok (.astore 5, 2) := by decide +kernel
theorem dL_setSupporters_28 : decode cL_setSupporters 28 = .ok (.iconst 2, 1) := by decide +kernel
theorem dL_setSupporters_29 : decode cL_setSupporters 29 = .ok (.ireturn, 1) := by decide +kernel
theorem dL_setSupporters_30 : decode cL_setSupporters 30 = .ok (.iconst 0, 1) := by decide +kernel
theorem dL_setSupporters_31 : decode cL_setSupporters 31 = .ok (.ireturn, 1) := by decide +kernel
set_option maxRecDepth 20000 in
theorem ggL_supporter_X11_supporter : GoodIn wsL_supporter wsX11_supporter := goodIn_ca (goodIn_ca (goodIn_ca (goodIn_r _ [6, 7, 8, 9, 10, 11, 12, 5, 13, 14, 15, 16, 17, 18, 19, 20, 21, 22, 23, 24, 25, 26, 27, 28, 29, 30, 31, 32, 33, 34, 35, 36, 37, 38, 39, 40, 41, 42, 43, 44, 45, 46, 47, 48, 49, 50, 51, 52, 53, 54, 55, 56, 57, 58, 59, 60, 61, 62] (by decide +kernel) (by decide +kernel)) (goodIn_sub (fun _ h => List.mem_cons_of_mem _ (List.mem_append_left _ (List.mem_append_right _ h))) (by decide +kernel))) (goodIn_sub (fun _ h => List.mem_cons_of_mem _ (List.mem_append_right _ h)) (by decide +kernel))) (goodIn_sub (fun _ h => List.mem_cons_of_mem _ (List.mem_append_left _ (List.mem_append_left _ (List.mem_append_right _ h)))) (by decide +kernel))
set_option maxRecDepth 20000 in
theorem gL_supporter_X11_supporter : GoodIn wsL_supporter (wsV RL 173 RX11 yX11_supporter wsX11_supporter) := goodIn_app (goodIn_of _ (by decide +kernel)) ggL_supporter_X11_supporter
theorem dL_supporter_0 : decode cL_supporter 0 = .ok (.aload_n 3, 1) := by decide +kernel
theorem dL_supporter_1 : decode cL_supporter 1 = .ok (.iconst 0, 1) := by decide +kernel
theorem dL_supporter_2 : decode cL_supporter 2 = .ok (.aload_n 0, 1) := by decide +kernel
theorem dL_supporter_3 : decode cL_supporter 3 = .ok (.iload_n 1, 1) := by decide +kernel
theorem dL_supporter_4 : decode cL_supporter 4 = .ok (.iload_n 2, 1) := by decide +kernel
theorem dL_supporter_5 : decode cL_supporter 5 = .ok (.invokevirtual 173, 3) := by decide +kernel
theorem dL_supporter_8 : decode cL_supporter 8 = .ok (.i2l, 1) := by decide +kernel
theorem dL_supporter_9 : decode cL_supporter 9 = .ok (.lastore, 1) := by decide +kernel
theorem dL_supporter_10 : decode cL_supporter 10 = .ok (.goto 11, 3) := by decide +kernel
theorem dL_supporter_13 : decode cL_supporter 13 = .ok (.astore 4, 2) := by decide +kernel
theorem dL_supporter_15 : decode cL_supporter 15 = .ok (.iconst 1, 1) := by decide +kernel
theorem dL_supporter_16 : decode cL_supporter 16 = .ok (.ireturn, 1) := by decide +kernel
theorem dL_supporter_17 : decode cL_supporter 17 = .ok (.astore 4, 2) := by decide +kernel
theorem dL_supporter_19 : decode cL_supporter 19 = .ok (.iconst 2, 1) := by decide +kernel
theorem dL_supporter_20 : decode cL_supporter 20 = .ok (.ireturn, 1) := by decide +kernel
theorem dL_supporter_21 : decode cL_supporter 21 = .ok (.iconst 0, 1) := by decide +kernel
theorem dL_supporter_22 : decode cL_supporter 22 = .ok (.ireturn, 1) := by decide +kernel
set_option maxRecDepth 20000 in
theorem ggL_augment_X11_augment : GoodIn wsL_augment wsX11_augment := goodIn_ca (goodIn_ca (goodIn_ca (goodIn_ca (goodIn_r _ [6, 7, 8, 9, 10, 11, 12, 5, 13, 14, 15, 16, 17, 18, 19, 20, 21, 22, 23, 24, 25, 26, 27, 28, 29, 30, 31, 32, 33, 34, 35, 36, 37, 38, 39, 40, 41, 42, 43, 44, 45, 46, 47, 48, 49, 50, 51, 52, 53, 54, 55, 56, 57, 58, 59, 60, 61, 62, 63, 64, 65, 66, 67, 68, 69, 70, 71, 72, 73, 74, 75, 76, 77, 78, 79, 80, 81, 82, 83, 84, 85, 86, 87, 88, 89, 90, 91, 92, 93, 94, 95, 96, 97, 98, 99, 100, 101, 102, 103, 104, 105, 106, 107, 108, 109, 110, 111, 112, 113, 114, 115, 116, 117, 118, 119, 120, 121, 122, 123, 124, 125, 126, 127, 128, 129, 130, 131, 132, 133, 134, 135, 136, 137, 138, 139, 140, 141, 142, 143, 144, 145, 146, 147, 148, 149, 150, 151, 152, 153, 154, 155, 156, 157, 158, 159, 160, 161, 162, 163, 164, 165, 166, 167, 168, 169, 170, 171, 172, 173, 174, 175, 176, 177, 178, 179, 180, 181, 182, 183, 184, 185, 186, 187, 188, 189, 190, 191, 192, 193, 194, 195, 196, 197, 198, 199, 200, 201, 202, 203, 204, 205, 206, 207, 208, 209, 210, 211, 212, 213, 214, 215, 216, 217, 218, 219, 220, 221, 222, 223, 224, 225, 226, 227, 228, 229, 230, 231, 232, 233, 234, 235, 236, 237, 238, 239, 240, 241, 242, 243, 244, 245, 246, 247, 248, 249, 250, 251, 252, 253] (by decide +kernel) (by decide +kernel)) (goodIn_sub (fun _ h => List.mem_cons_of_mem _ (List.mem_append_left _ (List.mem_append_left _ (List.mem_append_right _ h)))) (by decide +kernel))) (goodIn_sub (fun _ h => List.mem_cons_of_mem _ (List.mem_append_left _ (List.mem_append_right _ h))) (by decide +kernel))) (goodIn_sub (fun _ h => List.mem_cons_of_mem _ (List.mem_append_right _ h)) (by decide +kernel))) (goodIn_sub (fun _ h => List.mem_cons_of_mem _ (List.mem_append_left _ (List.mem_append_left _ (List.mem_append_left _ (List.mem_append_right _ h))))) (by decide +kernel))
set_option maxRecDepth 20000 in
theorem gL_augment_X11_augment : GoodIn wsL_augment (wsV RL 176 RX11 yX11_augment wsX11_augment) := goodIn_app (goodIn_of _ (by decide +kernel)) ggL_augment_X11_augment
theorem dL_augment_0 : decode cL_augment 0 = .ok (.aload 5, 2) := by decide +kernel
theorem dL_augment_2 : decode cL_augment 2 = .ok (.iconst 0, 1) := by decide +kernel
theorem dL_augment_3 : decode cL_augment 3 = .ok (.aload_n 0, 1) := by decide +kernel
theorem dL_augment_4 : decode cL_augment 4 = .ok (.iload_n 1, 1) := by decide +kernel
theorem dL_augment_5 : decode cL_augment 5 = .ok (.iload_n 2, 1) := by decide +kernel
theorem dL_augment_6 : decode cL_augment 6 = .ok (.iload_n 3, 1) := by decide +kernel
theorem dL_augment_7 : decode cL_augment 7 = .ok (.iload 4, 2) := by decide +kernel
theorem dL_augment_9 : decode cL_augment 9 = .ok (.invokevirtual 176, 3) := by decide +kernel
theorem dL_augment_12 : decode cL_augment 12 = .ok (.ifCond .eq 7, 3) := by decide +kernel
theorem dL_augment_15 : decode cL_augment 15 = .ok (.lconst 1, 1) := by decide +kernel
theorem dL_augment_16 : decode cL_augment 16 = .ok (.goto 4, 3) := by decide +kernel
theorem dL_augment_19 : decode cL_augment 19 = .ok (.lconst 0, 1) := by decide +kernel
theorem dL_augment_20 : decode cL_augment 20 = .ok (.lastore, 1) := by decide +kernel
theorem dL_augment_21 : decode cL_augment 21 = .ok (.goto 15, 3) := by decide +kernel
theorem dL_augment_24 : decode cL_augment 24 = .ok (.astore 6, 2) := by decide +kernel
theorem dL_augment_26 : decode cL_augment 26 = .ok (.iconst 1, 1) := by decide +kernel
theorem dL_augment_27 : decode cL_augment 27 = .ok (.ireturn, 1) := by decide +kernel
theorem dL_augment_28 : decode cL_augment 28 = .ok (.astore 6, 2) := by decide +kernel
theorem dL_augment_30 : decode cL_augment 30 = .ok (.iconst 2, 1) := by decide +kernel
theorem dL_augment_31 : decode cL_augment 31 = .ok (.ireturn, 1) := by decide +kernel
theorem dL_augment_32 : decode cL_augment 32 = .ok (.astore 6, 2) := by decide +kernel
theorem dL_augment_34 : decode cL_augment 34 = .ok (.iconst 3, 1) := by decide +kernel
theorem dL_augment_35 : decode cL_augment 35 = .ok (.ireturn, 1) := by decide +kernel
theorem dL_augment_36 : decode cL_augment 36 = .ok (.iconst 0, 1) := by decide +kernel
theorem dL_augment_37 : decode cL_augment 37 = .ok (.ireturn, 1) := by decide +kernel
set_option maxRecDepth 20000 in
theorem ggL_abate_X11_abate : GoodIn wsL_abate wsX11_abate := goodIn_ca (goodIn_ca (goodIn_r _ [6, 7, 8, 9, 10, 5, 11, 12, 13, 14, 15, 16, 17, 18, 19, 20, 21, 22, 23, 24, 25, 26, 27, 28, 29, 30, 31, 32, 33, 34, 35, 36, 37, 38, 39, 40, 41, 42, 43, 44, 45, 46, 47, 48, 49, 50, 51, 52, 53, 54, 55, 56, 57, 58] (by decide +kernel) (by decide +kernel)) (goodIn_sub (fun _ h => List.mem_cons_of_mem _ (List.mem_append_right _ h)) (by decide +kernel))) (goodIn_sub (fun _ h => List.mem_cons_of_mem _ (List.mem_append_left _ (List.mem_append_right _ h))) (by decide +kernel))
set_option maxRecDepth 20000 in
theorem gL_abate_X11_abate : GoodIn wsL_abate (wsV RL 180 RX11 yX11_abate wsX11_abate) := goodIn_app (goodIn_of _ (by decide +kernel)) ggL_abate_X11_abate
theorem dL_abate_0 : decode cL_abate 0 = .ok (.aload_n 3, 1) := by decide +kernel
theorem dL_abate_1 : decode cL_abate 1 = .ok (.iconst 0, 1) := by decide +kernel
theorem dL_abate_2 : decode cL_abate 2 = .ok (.aload_n 0, 1) := by decide +kernel
theorem dL_abate_3 : decode cL_abate 3 = .ok (.iload_n 1, 1) := by decide +kernel
theorem dL_abate_4 : decode cL_abate 4 = .ok (.iload_n 2, 1) := by decide +kernel
theorem dL_abate_5 : decode cL_abate 5 = .ok (.invokevirtual 180, 3) := by decide +kernel
theorem dL_abate_8 : decode cL_abate 8 = .ok (.ifCond .eq 7, 3) := by decide +kernel
theorem dL_abate_11 : decode cL_abate 11 = .ok (.lconst 1, 1) := by decide +kernel
theorem dL_abate_12 : decode cL_abate 12 = .ok (.goto 4, 3) := by decide +kernel
theorem dL_abate_15 : decode cL_abate 15 = .ok (.lconst 0, 1) := by decide +kernel
theorem dL_abate_16 : decode cL_abate 16 = .ok (.lastore, 1) := by decide +kernel
theorem dL_abate_17 : decode cL_abate 17 = .ok (.goto 7, 3) := by decide +kernel
theorem dL_abate_20 : decode cL_abate 20 = .ok (.astore 4, 2) := by decide +kernel
theorem dL_abate_22 : decode cL_abate 22 = .ok (.iconst 1, 1) := by decide +kernel
theorem dL_abate_23 : decode cL_abate 23 = .ok (.ireturn, 1) := by decide +kernel
theorem dL_abate_24 : decode cL_abate 24 = .ok (.iconst 0, 1) := by decide +kernel
theorem dL_abate_25 : decode cL_abate 25 = .ok (.ireturn, 1) := by decide +kernel
set_option maxRecDepth 20000 in
theorem ggL_armigerShare_X11_armigerShare : GoodIn wsL_armigerShare wsX11_armigerShare := goodIn_ca (goodIn_ca (goodIn_r _ [6, 7, 8, 9, 10, 11, 12, 13, 14, 15, 16, 17, 18, 19, 20, 21, 22, 23, 24, 25, 26, 27, 28, 29, 30, 31, 32, 33, 34, 35, 36, 37, 38, 39, 40, 41, 42, 43, 44, 45, 46, 47, 48, 49, 50, 51, 52, 53, 54, 55, 56, 57, 58, 59, 60, 61, 62, 63, 64, 65, 66, 67, 68] (by decide +kernel) (by decide +kernel)) (goodIn_sub (fun _ h => List.mem_cons_of_mem _ (List.mem_append_right _ h)) (by decide +kernel))) (goodIn_sub (fun _ h => List.mem_cons_of_mem _ (List.mem_append_left _ (List.mem_append_right _ h))) (by decide +kernel))
set_option maxRecDepth 20000 in
theorem gL_armigerShare_X11_armigerShare : GoodIn wsL_armigerShare (wsV RL 184 RX11 yX11_armigerShare wsX11_armigerShare) := goodIn_app (goodIn_of _ (by decide +kernel)) ggL_armigerShare_X11_armigerShare
theorem dL_armigerShare_0 : decode cL_armigerShare 0 = .ok (.aload_n 1, 1) := by decide +kernel
theorem dL_armigerShare_1 : decode cL_armigerShare 1 = .ok (.iconst 0, 1) := by decide +kernel
theorem dL_armigerShare_2 : decode cL_armigerShare 2 = .ok (.aload_n 0, 1) := by decide +kernel
theorem dL_armigerShare_3 : decode cL_armigerShare 3 = .ok (.invokevirtual 184, 3) := by decide +kernel
theorem dL_armigerShare_6 : decode cL_armigerShare 6 = .ok (.f2d, 1) := by decide +kernel
theorem dL_armigerShare_7 : decode cL_armigerShare 7 = .ok (.dastore, 1) := by decide +kernel
theorem dL_armigerShare_8 : decode cL_armigerShare 8 = .ok (.goto 6, 3) := by decide +kernel
theorem dL_armigerShare_11 : decode cL_armigerShare 11 = .ok (.astore_n 2, 1) := by decide +kernel
theorem dL_armigerShare_12 : decode cL_armigerShare 12 = .ok (.iconst 1, 1) := by decide +kernel
theorem dL_armigerShare_13 : decode cL_armigerShare 13 = .ok (.ireturn, 1) := by decide +kernel
theorem dL_armigerShare_14 : decode cL_armigerShare 14 = .ok (.iconst 0, 1) := by decide +kernel
theorem dL_armigerShare_15 : decode cL_armigerShare 15 = .ok (.ireturn, 1) := by decide +kernel
set_option maxRecDepth 20000 in
theorem ggL_meanWords_X11_meanWords : GoodIn wsL_meanWords wsX11_meanWords := goodIn_ca (goodIn_r _ [6, 7, 8, 9, 10, 11, 12, 13, 14, 15, 16, 17, 18, 19, 20, 21, 22, 23, 24, 25, 26, 27, 28, 29, 30, 31, 32, 33, 34, 35, 36, 37, 38, 39, 40, 41, 42, 43, 44, 45, 46, 47, 48, 49, 50, 51, 52, 53, 54, 55, 56] (by decide +kernel) (by decide +kernel)) (goodIn_sub (fun _ h => List.mem_cons_of_mem _ (List.mem_append_right _ h)) (by decide +kernel))
set_option maxRecDepth 20000 in
theorem gL_meanWords_X11_meanWords : GoodIn wsL_meanWords (wsV RL 190 RX11 yX11_meanWords wsX11_meanWords) := goodIn_app (goodIn_of _ (by decide +kernel)) ggL_meanWords_X11_meanWords
theorem dL_meanWords_0 : decode cL_meanWords 0 = .ok (.aload_n 1, 1) := by decide +kernel
theorem dL_meanWords_1 : decode cL_meanWords 1 = .ok (.iconst 0, 1) := by decide +kernel
theorem dL_meanWords_2 : decode cL_meanWords 2 = .ok (.aload_n 0, 1) := by decide +kernel
theorem dL_meanWords_3 : decode cL_meanWords 3 = .ok (.invokevirtual 190, 3) := by decide +kernel
theorem dL_meanWords_6 : decode cL_meanWords 6 = .ok (.dastore, 1) := by decide +kernel
theorem dL_meanWords_7 : decode cL_meanWords 7 = .ok (.goto 6, 3) := by decide +kernel
theorem dL_meanWords_10 : decode cL_meanWords 10 = .ok (.astore_n 2, 1) := by decide +kernel
theorem dL_meanWords_11 : decode cL_meanWords 11 = .ok (.iconst 1, 1) := by decide +kernel
theorem dL_meanWords_12 : decode cL_meanWords 12 = .ok (.ireturn, 1) := by decide +kernel
theorem dL_meanWords_13 : decode cL_meanWords 13 = .ok (.iconst 0, 1) := by decide +kernel
theorem dL_meanWords_14 : decode cL_meanWords 14 = .ok (.ireturn, 1) := by decide +kernel
set_option maxRecDepth 20000 in
theorem ggL_law_X11_init : GoodIn wsL_law wsX11_init := goodIn_ca (goodIn_r _ [10, 11, 12, 13, 14, 15, 16, 17, 18, 19, 20, 21, 22, 23, 24, 25, 26, 27, 28, 29, 30, 31, 32, 33, 34, 35, 36, 37, 38, 39, 40, 41, 42, 43, 44, 45, 46, 47, 48, 49, 50, 51, 52, 53, 54, 55, 56, 57, 58, 59, 60, 61, 62, 63, 64, 65, 66, 67, 68, 69, 70, 71, 72, 73, 74, 75, 76, 77, 78, 79, 80, 81, 82, 6, 83, 84, 85, 86, 87, 88, 89, 90, 91, 92, 93, 94, 95, 96, 97, 98, 99, 100, 101, 102, 103, 104, 105, 106, 107, 108, 109, 110, 111, 112, 113, 114, 115, 116, 117, 118, 119, 120, 121, 122, 123, 124, 125, 126, 127, 128, 129, 130, 131, 132, 133, 134, 135, 136, 137, 138, 139, 140, 141, 142, 143, 144, 145, 146, 147, 148, 149, 150, 151, 152, 153, 154, 155, 156, 157, 158, 159, 160, 161, 162, 163, 164, 165, 166, 167, 168, 169, 170, 171, 172, 173, 174, 175, 176, 177, 178, 179, 180, 181, 182, 183, 184, 185, 186, 187, 188, 189, 190, 191, 192, 193, 194, 195, 196, 197, 198, 199, 200, 201, 202, 203, 204, 205, 206, 207, 208, 209, 210, 211, 212, 213, 214, 215, 216, 217, 218, 219, 220, 221, 222, 223, 224, 225, 226, 227, 228, 229, 230, 231, 232, 233, 234, 235, 236, 237, 238, 239, 240, 241, 242, 243, 244, 245, 246, 247, 248, 249, 250, 251, 252, 253, 254, 255, 256, 257, 258, 259, 260, 261, 262, 263, 264, 265, 266, 267, 268, 269, 270, 271, 272, 273, 274, 275, 276, 277, 278, 279, 280, 281, 282, 283, 284, 285, 286, 287, 288, 289, 290, 291, 292, 293, 294, 295, 296, 297, 298, 299, 300, 301, 302, 2383, 2384, 2385, 2386, 2387, 2388, 2389, 2390, 2391, 2392, 2393, 2394, 2395, 2341, 2342, 2343, 2344, 2345, 2346, 2347, 2348, 2349, 2350, 2351, 2352, 2353, 2354, 2396, 2397, 2398, 2399, 2400, 2401, 2402, 2403, 2404, 2405, 2406, 2407, 2408, 2409, 2410, 2411, 2412, 2413, 2414, 2415, 2416, 2417, 2418, 2419, 2420, 2421, 2422, 2423, 2424, 2425, 2426, 2427, 2428, 2429, 2430, 2431, 2432, 2433, 2434, 2435, 2436, 2437, 2438, 2439, 2440, 2441, 2442, 2443, 2444, 2445, 2446, 2447, 2448, 2449, 2450, 2451, 2452, 2453, 2454, 2455, 2456, 2457, 2458, 2459, 2460, 2461, 2462, 2463, 2464, 2465, 2466, 2467, 2468, 2469, 2470, 2471, 2472, 2473, 2474, 2475, 2476, 2477, 2478, 2479, 2480, 2481, 2482, 2483, 2484, 2485, 2486, 2487, 2488, 2489, 2490, 2491, 2492, 2493, 2494, 2495, 2496, 2497, 2498] (by decide +kernel) (by decide +kernel)) (goodIn_sub (fun _ h => List.mem_append_left _ (List.mem_append_left _ (List.mem_append_left _ (List.mem_append_left _ (List.mem_append_left _ (List.mem_append_left _ (List.mem_append_right _ h))))))) (by decide +kernel))
set_option maxRecDepth 20000 in
theorem gL_law_X11_init : GoodIn wsL_law (wsX11_init) := ggL_law_X11_init
set_option maxRecDepth 20000 in
theorem ggL_law_X18_init : GoodIn wsL_law wsX18_init := goodIn_r _ [305, 306, 12, 13, 60, 307, 308, 309, 310, 311, 312, 313, 314, 315, 316, 317, 318, 142, 319, 320, 321, 322, 323, 324, 325, 326, 327, 328, 329, 330, 331, 332, 333, 334, 335, 336, 337, 338, 339, 340, 341, 342, 343, 344, 345, 346, 347, 348, 349, 350, 2355, 2356, 2357, 2358, 2359, 2360, 2361, 2362, 2363, 2364, 2365, 2366, 2367, 2368, 2369, 2370, 2371, 2372, 2373, 2374, 2375, 2376, 2377, 2378, 2379, 2380, 2381, 2382, 2499, 2500, 2501, 2502, 2503, 2504, 2505, 2506, 2507] (by decide +kernel) (by decide +kernel)
set_option maxRecDepth 20000 in
theorem gL_law_X18_init : GoodIn wsL_law (wsX18_init) := ggL_law_X18_init
set_option maxRecDepth 20000 in
theorem ggL_law_L_type : GoodIn wsL_law wsL_type := goodIn_ca (goodIn_ca (goodIn_ca (goodIn_r _ [354, 355, 356, 357, 358, 2, 359, 360, 361, 362, 363, 21, 364, 365, 366, 367, 20, 368, 235, 113, 223, 224, 225, 226, 227, 228, 229, 230, 231, 232, 233, 234, 114, 116, 236, 237, 238, 239, 240, 241, 242, 243, 244, 245, 246, 247, 248, 249, 250, 251, 252, 253, 254, 255, 256, 257, 258, 259, 260, 261, 262, 73, 263, 264, 265, 266, 267, 268, 269, 270, 271, 272, 273, 274, 275, 276, 277, 278, 279, 280, 281, 282, 283, 284, 285, 286, 287, 95, 288, 289, 290, 291, 292, 293, 294, 295, 296, 297, 298, 299, 300, 301, 302, 369, 370, 371, 372, 373, 374, 2341, 2342, 2343, 2344, 2345, 2346, 2347, 2348, 2349, 2350, 2351, 2352, 2353, 2354, 2396, 2397, 2398, 2399, 2400, 2401, 2402, 2403, 2404, 2405, 2406, 2407, 2486, 2487, 2488, 2489, 2490, 2491, 2492, 2493, 2494, 2495, 2496, 2497, 2498] (by decide +kernel) (by decide +kernel)) (goodIn_sub (fun _ h => List.mem_append_left _ (List.mem_append_left _ (List.mem_append_left _ (List.mem_append_left _ (List.mem_append_left _ (List.mem_append_left _ (List.mem_append_right _ h))))))) (by decide +kernel))) (goodIn_sub (fun _ h => List.mem_append_left _ (List.mem_append_left _ (List.mem_append_left _ (List.mem_append_left _ (List.mem_append_left _ (List.mem_append_right _ h)))))) (by decide +kernel))) (goodIn_sub (fun _ h => List.mem_append_left _ (List.mem_append_left _ (List.mem_append_left _ (List.mem_append_left _ (List.mem_append_right _ h))))) (by decide +kernel))
set_option maxRecDepth 20000 in
theorem gL_law_L_type : GoodIn wsL_law (va_wsS RL 198 yL_type wsL_type) := goodIn_app (goodIn_of _ (by decide +kernel)) ggL_law_L_type
set_option maxRecDepth 20000 in
theorem ggL_law_X18_type : GoodIn wsL_law wsX18_type := goodIn_ca (goodIn_r _ [378, 379, 307, 380, 381, 5, 382, 383, 384, 385, 386, 387, 2355, 2356, 2357, 2358, 2359, 2360, 2361, 2362, 2363, 2364, 2365, 2366, 2367, 2368, 2369, 2370, 2371, 2372, 2373, 2374, 2375, 2376, 2377, 2378, 2379, 2380, 2381, 2382] (by decide +kernel) (by decide +kernel)) (goodIn_sub (fun _ h => List.mem_append_left _ (List.mem_append_left _ (List.mem_append_left _ (List.mem_append_left _ (List.mem_append_left _ (List.mem_append_left _ (List.mem_append_right _ h))))))) (by decide +kernel))
set_option maxRecDepth 20000 in
theorem gL_law_X18_type : GoodIn wsL_law (wsV RL 203 RX18 yX18_type wsX18_type) := goodIn_app (goodIn_of _ (by decide +kernel)) ggL_law_X18_type
set_option maxRecDepth 20000 in
theorem ggL_law_X18_thrown : GoodIn wsL_law wsX18_thrown := goodIn_r _ [391, 387, 2355, 2356, 2357, 2358, 2359, 2360, 2361, 2362, 2363, 2364, 2365, 2366, 2367, 2368, 2369, 2370, 2371, 2372, 2373, 2374, 2375, 2376, 2377, 2378, 2379, 2380, 2381, 2382] (by decide +kernel) (by decide +kernel)
set_option maxRecDepth 20000 in
theorem gL_law_X18_thrown : GoodIn wsL_law (wsV RL 204 RX18 yX18_thrown wsX18_thrown) := goodIn_app (goodIn_of _ (by decide +kernel)) ggL_law_X18_thrown
set_option maxRecDepth 20000 in
theorem ggL_law_X11_erase : GoodIn wsL_law wsX11_erase := goodIn_ca (goodIn_r _ [395, 21, 364, 396, 397, 398, 2, 399, 400, 401, 402, 20, 403, 235, 223, 224, 225, 226, 227, 228, 229, 230, 231, 232, 233, 234, 114, 116, 236, 237, 238, 239, 240, 241, 242, 243, 244, 245, 246, 247, 113, 248, 249, 250, 251, 252, 253, 254, 255, 256, 257, 258, 259, 260, 261, 262, 73, 263, 264, 265, 266, 267, 268, 269, 270, 271, 272, 273, 274, 275, 276, 277, 278, 279, 280, 281, 282, 283, 284, 285, 286, 287, 95, 288, 289, 290, 291, 292, 293, 294, 295, 296, 297, 298, 299, 300, 301, 302, 369, 370, 371, 372, 373, 374, 2341, 2342, 2343, 2344, 2345, 2346, 2347, 2348, 2349, 2350, 2351, 2352, 2353, 2354, 2396, 2397, 2398, 2399, 2400, 2401, 2402, 2403, 2404, 2405, 2406, 2407, 2486, 2487, 2488, 2489, 2490, 2491, 2492, 2493, 2494, 2495, 2496, 2497, 2498] (by decide +kernel) (by decide +kernel)) (goodIn_sub (fun _ h => List.mem_append_left _ (List.mem_append_left _ (List.mem_append_left _ (List.mem_append_left _ (List.mem_append_left _ (List.mem_append_left _ (List.mem_append_right _ h))))))) (by decide +kernel))
set_option maxRecDepth 20000 in
theorem gL_law_X11_erase : GoodIn wsL_law (wsV RL 207 RX11 yX11_erase wsX11_erase) := goodIn_app (goodIn_of _ (by decide +kernel)) ggL_law_X11_erase
set_option maxRecDepth 20000 in
theorem ggL_law_X18_erase : GoodIn wsL_law wsX18_erase := goodIn_r _ [407, 387, 379, 2355, 2356, 2357, 2358, 2359, 2360, 2361, 2362, 2363, 2364, 2365, 2366, 2367, 2368, 2369, 2370, 2371, 2372, 2373, 2374, 2375, 2376, 2377, 2378, 2379, 2380, 2381, 2382] (by decide +kernel) (by decide +kernel)
set_option maxRecDepth 20000 in
theorem gL_law_X18_erase : GoodIn wsL_law (wsV RL 210 RX18 yX18_erase wsX18_erase) := goodIn_app (goodIn_of _ (by decide +kernel)) ggL_law_X18_erase
set_option maxRecDepth 20000 in
theorem ggL_law_X11_wrongAt : GoodIn wsL_law wsX11_wrongAt := goodIn_r _ [411, 21, 412, 2341, 2342, 2343, 2344, 2345, 2346, 2347, 2348, 2349, 2350, 2351, 2352, 2353, 2354, 2396, 2397, 2398, 2399, 2400, 2401, 2402, 2403, 2404, 2405, 2406, 2407] (by decide +kernel) (by decide +kernel)
set_option maxRecDepth 20000 in
theorem gL_law_X11_wrongAt : GoodIn wsL_law (wsV RL 211 RX11 yX11_wrongAt wsX11_wrongAt) := goodIn_app (goodIn_of _ (by decide +kernel)) ggL_law_X11_wrongAt
set_option maxRecDepth 20000 in
theorem ggL_law_X18_wrongAt : GoodIn wsL_law wsX18_wrongAt := goodIn_ca (goodIn_r _ [416, 387, 417, 418, 419, 420, 5, 421, 314, 315, 316, 317, 422, 318, 379, 346, 347, 348, 12, 13, 349, 350, 423, 424, 425, 426, 427, 428, 429, 430, 307, 380, 381, 382, 431, 432, 433, 434, 435, 436, 437, 438, 439, 440, 441, 442, 443, 444, 445, 446, 447, 448, 449, 450, 451, 452, 453, 454, 455, 456, 457, 2355, 2356, 2357, 2358, 2359, 2360, 2361, 2362, 2363, 2364, 2365, 2366, 2367, 2368, 2369, 2370, 2371, 2372, 2373, 2374, 2375, 2376, 2377, 2378, 2379, 2380, 2381, 2382, 2502, 2503, 2504, 2505, 2506, 2507, 2508, 2509, 2510, 2511, 2512, 2513, 2514, 2515, 2516, 2517, 2518, 2519, 2520, 2521, 2522] (by decide +kernel) (by decide +kernel)) (goodIn_sub (fun _ h => List.mem_append_left _ (List.mem_append_left _ (List.mem_append_left _ (List.mem_append_left _ (List.mem_append_left _ (List.mem_append_left _ (List.mem_append_right _ h))))))) (by decide +kernel))
set_option maxRecDepth 20000 in
theorem gL_law_X18_wrongAt : GoodIn wsL_law (wsV RL 214 RX18 yX18_wrongAt wsX18_wrongAt) := goodIn_app (goodIn_of _ (by decide +kernel)) ggL_law_X18_wrongAt
set_option maxRecDepth 20000 in
theorem ggL_law_L_point : GoodIn wsL_law wsL_point := goodIn_ca (goodIn_ca (goodIn_ca (goodIn_r _ [460, 461, 462, 463, 464, 2, 465, 25, 466, 467, 468, 469, 470, 471, 472, 473, 474, 475, 476, 477, 21, 412, 478, 479, 480, 481, 373, 17, 482, 483, 484, 485, 16, 486, 487, 488, 489, 490, 491, 492, 493, 494, 495, 496, 497, 498, 61, 65, 499, 500, 501, 502, 503, 504, 24, 505, 506, 507, 84, 85, 83, 508, 509, 510, 237, 238, 239, 511, 512, 513, 514, 515, 516, 517, 518, 519, 520, 20, 521, 116, 522, 523, 524, 525, 67, 526, 527, 528, 66, 529, 530, 95, 531, 532, 533, 534, 535, 536, 537, 538, 539, 540, 541, 542, 543, 544, 545, 546, 547, 548, 549, 550, 551, 552, 64, 553, 554, 555, 556, 557, 558, 559, 560, 561, 562, 62, 563, 564, 565, 566, 567, 568, 569, 570, 571, 572, 573, 574, 575, 576, 577, 578, 579, 580, 581, 582, 583, 584, 585, 586, 587, 588, 589, 590, 591, 592, 2341, 2342, 2343, 2344, 2345, 2346, 2347, 2348, 2349, 2350, 2351, 2352, 2353, 2354, 2396, 2397, 2398, 2399, 2400, 2401, 2402, 2403, 2404, 2405, 2406, 2407, 2383, 2384, 2385, 2386, 2387, 2388, 2389, 2390, 2391, 2392, 2393, 2394, 2395, 2408, 2409, 2410, 2411, 2412, 2486, 2487, 2488, 2489, 2490, 2491, 2492, 2493, 2494, 2495, 2496, 2497, 2498] (by decide +kernel) (by decide +kernel)) (goodIn_sub (fun _ h => List.mem_append_left _ (List.mem_append_left _ (List.mem_append_left _ (List.mem_append_left _ (List.mem_append_left _ (List.mem_append_left _ (List.mem_append_right _ h))))))) (by decide +kernel))) (goodIn_sub (fun _ h => List.mem_append_left _ (List.mem_append_left _ (List.mem_append_left _ (List.mem_append_right _ h)))) (by decide +kernel))) (goodIn_sub (fun _ h => List.mem_append_left _ (List.mem_append_left _ (List.mem_append_right _ h))) (by decide +kernel))
set_option maxRecDepth 20000 in
theorem gL_law_L_point : GoodIn wsL_law (va_wsS RL 215 yL_point wsL_point) := goodIn_app (goodIn_of _ (by decide +kernel)) ggL_law_L_point
set_option maxRecDepth 20000 in
theorem ggL_law_X18_point : GoodIn wsL_law wsX18_point := goodIn_ca (goodIn_r _ [596, 317, 320, 597, 598, 5, 599, 380, 381, 382, 383, 384, 385, 386, 387, 600, 601, 602, 603, 417, 418, 419, 420, 421, 314, 315, 316, 422, 318, 379, 346, 347, 348, 12, 13, 349, 350, 423, 424, 425, 426, 427, 428, 429, 430, 307, 431, 432, 433, 434, 435, 436, 437, 438, 439, 440, 441, 442, 443, 444, 445, 446, 447, 448, 449, 450, 451, 452, 453, 454, 455, 456, 457, 604, 605, 606, 607, 319, 608, 609, 610, 611, 94, 95, 96, 612, 613, 614, 615, 616, 617, 618, 619, 620, 621, 622, 623, 624, 625, 626, 627, 628, 629, 630, 631, 632, 633, 634, 635, 636, 637, 638, 639, 640, 2355, 2356, 2357, 2358, 2359, 2360, 2361, 2362, 2363, 2364, 2365, 2366, 2367, 2368, 2369, 2370, 2371, 2372, 2373, 2374, 2375, 2376, 2377, 2378, 2379, 2380, 2381, 2382, 2502, 2503, 2504, 2505, 2506, 2507, 2508, 2509, 2510, 2511, 2512, 2513, 2514, 2515, 2516, 2517, 2518, 2519, 2520, 2521, 2522] (by decide +kernel) (by decide +kernel)) (goodIn_sub (fun _ h => List.mem_append_left _ (List.mem_append_left _ (List.mem_append_left _ (List.mem_append_left _ (List.mem_append_left _ (List.mem_append_left _ (List.mem_append_right _ h))))))) (by decide +kernel))
set_option maxRecDepth 20000 in
theorem gL_law_X18_point : GoodIn wsL_law (wsV RL 218 RX18 yX18_point wsX18_point) := goodIn_app (goodIn_of _ (by decide +kernel)) ggL_law_X18_point
set_option maxRecDepth 20000 in
theorem ggL_law_L_points : GoodIn wsL_law wsL_points := goodIn_ca (goodIn_ca (goodIn_ca (goodIn_r _ [643, 355, 644, 645, 646, 2, 647, 25, 17, 648, 649, 650, 651, 360, 361, 652, 653, 654, 655, 472, 473, 474, 475, 476, 477, 21, 412, 478, 479, 480, 481, 373, 482, 483, 484, 485, 16, 486, 487, 488, 489, 490, 491, 492, 493, 494, 495, 496, 497, 498, 61, 65, 499, 500, 501, 502, 503, 504, 24, 505, 506, 507, 84, 85, 83, 508, 509, 510, 237, 238, 239, 511, 512, 513, 514, 515, 516, 517, 518, 519, 520, 20, 521, 116, 522, 523, 524, 525, 67, 526, 527, 528, 66, 529, 530, 95, 531, 532, 533, 534, 535, 536, 537, 538, 539, 540, 541, 542, 543, 544, 545, 546, 547, 548, 549, 550, 551, 552, 64, 553, 554, 555, 556, 557, 558, 559, 560, 561, 562, 62, 563, 564, 565, 566, 567, 568, 569, 570, 571, 572, 573, 574, 575, 576, 577, 578, 579, 580, 581, 582, 583, 584, 585, 656, 657, 658, 659, 63, 660, 661, 662, 663, 664, 665, 666, 667, 668, 669, 670, 671, 672, 673, 2341, 2342, 2343, 2344, 2345, 2346, 2347, 2348, 2349, 2350, 2351, 2352, 2353, 2354, 2396, 2397, 2398, 2399, 2400, 2401, 2402, 2403, 2404, 2405, 2406, 2407, 2383, 2384, 2385, 2386, 2387, 2388, 2389, 2390, 2391, 2392, 2393, 2394, 2395, 2408, 2409, 2410, 2411, 2412, 2486, 2487, 2488, 2489, 2490, 2491, 2492, 2493, 2494, 2495, 2496, 2497, 2498] (by decide +kernel) (by decide +kernel)) (goodIn_sub (fun _ h => List.mem_append_left _ (List.mem_append_left _ (List.mem_append_left _ (List.mem_append_left _ (List.mem_append_left _ (List.mem_append_left _ (List.mem_append_right _ h))))))) (by decide +kernel))) (goodIn_sub (fun _ h => List.mem_append_left _ (List.mem_append_left _ (List.mem_append_left _ (List.mem_append_left _ (List.mem_append_left _ (List.mem_append_right _ h)))))) (by decide +kernel))) (goodIn_sub (fun _ h => List.mem_append_left _ (List.mem_append_left _ (List.mem_append_right _ h))) (by decide +kernel))
set_option maxRecDepth 20000 in
theorem gL_law_L_points : GoodIn wsL_law (va_wsS RL 219 yL_points wsL_points) := goodIn_app (goodIn_of _ (by decide +kernel)) ggL_law_L_points
set_option maxRecDepth 20000 in
theorem ggL_law_X18_points : GoodIn wsL_law wsX18_points := goodIn_ca (goodIn_r _ [677, 317, 320, 678, 679, 5, 680, 380, 381, 382, 383, 384, 385, 386, 387, 600, 601, 602, 603, 417, 418, 419, 420, 421, 314, 315, 316, 422, 318, 379, 346, 347, 348, 12, 13, 349, 350, 423, 424, 425, 426, 427, 428, 429, 430, 307, 431, 432, 433, 434, 435, 436, 437, 438, 439, 440, 441, 442, 443, 444, 445, 446, 447, 448, 449, 450, 451, 452, 453, 454, 455, 456, 457, 604, 605, 606, 607, 319, 608, 609, 610, 611, 94, 95, 96, 612, 613, 614, 615, 616, 617, 618, 619, 620, 621, 622, 623, 624, 625, 626, 627, 628, 629, 630, 631, 632, 633, 634, 635, 636, 637, 638, 639, 640, 681, 682, 683, 684, 685, 686, 2355, 2356, 2357, 2358, 2359, 2360, 2361, 2362, 2363, 2364, 2365, 2366, 2367, 2368, 2369, 2370, 2371, 2372, 2373, 2374, 2375, 2376, 2377, 2378, 2379, 2380, 2381, 2382, 2502, 2503, 2504, 2505, 2506, 2507, 2508, 2509, 2510, 2511, 2512, 2513, 2514, 2515, 2516, 2517, 2518, 2519, 2520, 2521, 2522] (by decide +kernel) (by decide +kernel)) (goodIn_sub (fun _ h => List.mem_append_left _ (List.mem_append_left _ (List.mem_append_left _ (List.mem_append_left _ (List.mem_append_left _ (List.mem_append_left _ (List.mem_append_right _ h))))))) (by decide +kernel))
set_option maxRecDepth 20000 in
theorem gL_law_X18_points : GoodIn wsL_law (wsV RL 221 RX18 yX18_points wsX18_points) := goodIn_app (goodIn_of _ (by decide +kernel)) ggL_law_X18_points
set_option maxRecDepth 20000 in
theorem ggL_law_L_breaks : GoodIn wsL_law wsL_breaks := goodIn_ca (goodIn_ca (goodIn_r _ [689, 690, 691, 692, 693, 2, 694, 21, 472, 473, 474, 475, 476, 477, 412, 695, 696, 697, 20, 698, 234, 116, 230, 285, 293, 232, 299, 302, 699, 700, 701, 2341, 2342, 2343, 2344, 2345, 2346, 2347, 2348, 2349, 2350, 2351, 2352, 2353, 2354, 2396, 2397, 2398, 2399, 2400, 2401, 2402, 2403, 2404, 2405, 2406, 2407, 2486, 2487, 2488, 2489, 2490, 2491, 2492, 2493, 2494, 2495, 2496, 2497, 2498] (by decide +kernel) (by decide +kernel)) (goodIn_sub (fun _ h => List.mem_append_left _ (List.mem_append_left _ (List.mem_append_left _ (List.mem_append_left _ (List.mem_append_left _ (List.mem_append_left _ (List.mem_append_right _ h))))))) (by decide +kernel))) (goodIn_sub (fun _ h => List.mem_append_left _ (List.mem_append_left _ (List.mem_append_right _ h))) (by decide +kernel))
set_option maxRecDepth 20000 in
theorem gL_law_L_breaks : GoodIn wsL_law (va_wsS RL 222 yL_breaks wsL_breaks) := goodIn_app (goodIn_of _ (by decide +kernel)) ggL_law_L_breaks
set_option maxRecDepth 20000 in
theorem ggL_law_X18_breaks : GoodIn wsL_law wsX18_breaks := goodIn_ca (goodIn_r _ [705, 317, 600, 601, 602, 5, 603, 417, 418, 419, 420, 421, 314, 315, 316, 422, 318, 379, 346, 347, 348, 12, 13, 349, 350, 423, 424, 425, 426, 427, 428, 429, 430, 307, 380, 381, 382, 431, 432, 433, 434, 435, 436, 437, 438, 439, 440, 441, 442, 443, 444, 445, 446, 447, 448, 449, 450, 451, 452, 453, 454, 455, 456, 457, 383, 384, 385, 386, 387, 706, 707, 708, 2355, 2356, 2357, 2358, 2359, 2360, 2361, 2362, 2363, 2364, 2365, 2366, 2367, 2368, 2369, 2370, 2371, 2372, 2373, 2374, 2375, 2376, 2377, 2378, 2379, 2380, 2381, 2382, 2502, 2503, 2504, 2505, 2506, 2507, 2508, 2509, 2510, 2511, 2512, 2513, 2514, 2515, 2516, 2517, 2518, 2519, 2520, 2521, 2522] (by decide +kernel) (by decide +kernel)) (goodIn_sub (fun _ h => List.mem_append_left _ (List.mem_append_left _ (List.mem_append_left _ (List.mem_append_left _ (List.mem_append_left _ (List.mem_append_left _ (List.mem_append_right _ h))))))) (by decide +kernel))
set_option maxRecDepth 20000 in
theorem gL_law_X18_breaks : GoodIn wsL_law (wsV RL 225 RX18 yX18_breaks wsX18_breaks) := goodIn_app (goodIn_of _ (by decide +kernel)) ggL_law_X18_breaks
set_option maxRecDepth 20000 in
theorem ggL_law_L_drawn : GoodIn wsL_law wsL_drawn := goodIn_ca (goodIn_ca (goodIn_ca (goodIn_r _ [711, 690, 712, 713, 714, 2, 715, 716, 717, 21, 718, 719, 720, 721, 722, 472, 473, 474, 475, 476, 477, 412, 723, 519, 520, 20, 521, 116, 478, 479, 480, 481, 373, 17, 25, 482, 483, 484, 485, 16, 486, 487, 488, 489, 490, 491, 492, 493, 494, 495, 496, 497, 498, 61, 65, 499, 500, 501, 502, 503, 504, 24, 505, 506, 507, 84, 85, 83, 508, 509, 510, 237, 238, 239, 511, 512, 513, 514, 515, 516, 517, 518, 522, 523, 524, 525, 67, 526, 527, 528, 66, 529, 530, 95, 531, 532, 533, 534, 535, 536, 537, 538, 539, 540, 541, 542, 543, 544, 545, 546, 547, 548, 549, 550, 551, 552, 64, 553, 554, 555, 556, 557, 558, 559, 560, 561, 562, 62, 563, 564, 565, 566, 567, 568, 569, 570, 571, 572, 573, 574, 575, 576, 577, 578, 579, 580, 581, 582, 583, 584, 585, 2341, 2342, 2343, 2344, 2345, 2346, 2347, 2348, 2349, 2350, 2351, 2352, 2353, 2354, 2396, 2397, 2398, 2399, 2400, 2401, 2402, 2403, 2404, 2405, 2406, 2407, 2486, 2487, 2488, 2489, 2490, 2491, 2492, 2493, 2494, 2495, 2496, 2497, 2498, 2383, 2384, 2385, 2386, 2387, 2388, 2389, 2390, 2391, 2392, 2393, 2394, 2395, 2408, 2409, 2410, 2411, 2412] (by decide +kernel) (by decide +kernel)) (goodIn_sub (fun _ h => List.mem_append_left _ (List.mem_append_left _ (List.mem_append_left _ (List.mem_append_left _ (List.mem_append_left _ (List.mem_append_left _ (List.mem_append_right _ h))))))) (by decide +kernel))) (goodIn_sub (fun _ h => List.mem_append_left _ (List.mem_append_right _ h)) (by decide +kernel))) (goodIn_sub (fun _ h => List.mem_append_left _ (List.mem_append_left _ (List.mem_append_right _ h))) (by decide +kernel))
set_option maxRecDepth 20000 in
theorem gL_law_L_drawn : GoodIn wsL_law (va_wsS RL 226 yL_drawn wsL_drawn) := goodIn_app (goodIn_of _ (by decide +kernel)) ggL_law_L_drawn
set_option maxRecDepth 20000 in
theorem ggL_law_X18_drawn : GoodIn wsL_law wsX18_drawn := goodIn_ca (goodIn_r _ [727, 317, 320, 600, 601, 602, 5, 603, 417, 418, 419, 420, 421, 314, 315, 316, 422, 318, 379, 346, 347, 348, 12, 13, 349, 350, 423, 424, 425, 426, 427, 428, 429, 430, 307, 380, 381, 382, 431, 432, 433, 434, 435, 436, 437, 438, 439, 440, 441, 442, 443, 444, 445, 446, 447, 448, 449, 450, 451, 452, 453, 454, 455, 456, 457, 383, 384, 385, 386, 387, 604, 605, 606, 607, 319, 608, 609, 610, 611, 94, 95, 96, 612, 613, 614, 615, 616, 617, 618, 619, 620, 621, 622, 623, 624, 625, 626, 627, 628, 629, 630, 631, 632, 633, 634, 635, 636, 637, 638, 639, 640, 2355, 2356, 2357, 2358, 2359, 2360, 2361, 2362, 2363, 2364, 2365, 2366, 2367, 2368, 2369, 2370, 2371, 2372, 2373, 2374, 2375, 2376, 2377, 2378, 2379, 2380, 2381, 2382, 2502, 2503, 2504, 2505, 2506, 2507, 2508, 2509, 2510, 2511, 2512, 2513, 2514, 2515, 2516, 2517, 2518, 2519, 2520, 2521, 2522] (by decide +kernel) (by decide +kernel)) (goodIn_sub (fun _ h => List.mem_append_left _ (List.mem_append_left _ (List.mem_append_left _ (List.mem_append_left _ (List.mem_append_left _ (List.mem_append_left _ (List.mem_append_right _ h))))))) (by decide +kernel))
set_option maxRecDepth 20000 in
theorem gL_law_X18_drawn : GoodIn wsL_law (wsV RL 229 RX18 yX18_drawn wsX18_drawn) := goodIn_app (goodIn_of _ (by decide +kernel)) ggL_law_X18_drawn
set_option maxRecDepth 20000 in
theorem ggL_law_L_meant : GoodIn wsL_law wsL_meant := goodIn_ca (goodIn_ca (goodIn_ca (goodIn_r _ [730, 690, 731, 732, 733, 2, 734, 716, 717, 21, 472, 473, 474, 475, 476, 477, 412, 735, 736, 737, 20, 738, 235, 114, 2341, 2342, 2343, 2344, 2345, 2346, 2347, 2348, 2349, 2350, 2351, 2352, 2353, 2354, 2396, 2397, 2398, 2399, 2400, 2401, 2402, 2403, 2404, 2405, 2406, 2407] (by decide +kernel) (by decide +kernel)) (goodIn_sub (fun _ h => List.mem_append_left _ (List.mem_append_left _ (List.mem_append_left _ (List.mem_append_left _ (List.mem_append_left _ (List.mem_append_left _ (List.mem_append_right _ h))))))) (by decide +kernel))) (goodIn_sub (fun _ h => List.mem_append_left _ (List.mem_append_right _ h)) (by decide +kernel))) (goodIn_sub (fun _ h => List.mem_append_left _ (List.mem_append_left _ (List.mem_append_right _ h))) (by decide +kernel))
set_option maxRecDepth 20000 in
theorem gL_law_L_meant : GoodIn wsL_law (va_wsS RL 230 yL_meant wsL_meant) := goodIn_app (goodIn_of _ (by decide +kernel)) ggL_law_L_meant
set_option maxRecDepth 20000 in
theorem ggL_law_X18_meant : GoodIn wsL_law wsX18_meant := goodIn_ca (goodIn_r _ [742, 379, 318, 600, 601, 602, 5, 603, 417, 418, 419, 420, 421, 314, 315, 316, 317, 422, 346, 347, 348, 12, 13, 349, 350, 423, 424, 425, 426, 427, 428, 429, 430, 307, 380, 381, 382, 431, 432, 433, 434, 435, 436, 437, 438, 439, 440, 441, 442, 443, 444, 445, 446, 447, 448, 449, 450, 451, 452, 453, 454, 455, 456, 457, 383, 384, 385, 386, 387, 2355, 2356, 2357, 2358, 2359, 2360, 2361, 2362, 2363, 2364, 2365, 2366, 2367, 2368, 2369, 2370, 2371, 2372, 2373, 2374, 2375, 2376, 2377, 2378, 2379, 2380, 2381, 2382, 2502, 2503, 2504, 2505, 2506, 2507, 2508, 2509, 2510, 2511, 2512, 2513, 2514, 2515, 2516, 2517, 2518, 2519, 2520, 2521, 2522] (by decide +kernel) (by decide +kernel)) (goodIn_sub (fun _ h => List.mem_append_left _ (List.mem_append_left _ (List.mem_append_left _ (List.mem_append_left _ (List.mem_append_left _ (List.mem_append_left _ (List.mem_append_right _ h))))))) (by decide +kernel))
set_option maxRecDepth 20000 in
theorem gL_law_X18_meant : GoodIn wsL_law (wsV RL 232 RX18 yX18_meant wsX18_meant) := goodIn_app (goodIn_of _ (by decide +kernel)) ggL_law_X18_meant
set_option maxRecDepth 20000 in
theorem ggL_law_L_fewest : GoodIn wsL_law wsL_fewest := goodIn_ca (goodIn_ca (goodIn_r _ [745, 690, 746, 747, 748, 2, 749, 30, 750, 472, 473, 474, 475, 476, 477, 21, 412, 751, 752, 753, 754, 374, 25, 478, 479, 480, 481, 373, 17, 482, 483, 484, 485, 16, 486, 487, 488, 489, 490, 491, 492, 493, 494, 495, 496, 497, 498, 61, 65, 499, 500, 501, 502, 503, 504, 24, 505, 506, 507, 84, 85, 83, 508, 509, 510, 237, 238, 239, 511, 512, 513, 514, 515, 516, 517, 518, 519, 520, 20, 521, 116, 522, 523, 524, 525, 67, 526, 527, 528, 66, 529, 530, 95, 531, 532, 533, 534, 535, 536, 537, 538, 539, 540, 541, 542, 543, 544, 545, 546, 547, 548, 549, 550, 551, 552, 64, 553, 554, 555, 556, 557, 558, 559, 560, 561, 562, 62, 563, 564, 565, 566, 567, 568, 569, 570, 571, 572, 573, 574, 575, 576, 577, 578, 579, 580, 581, 582, 583, 584, 585, 755, 756, 757, 29, 758, 759, 124, 760, 761, 762, 763, 764, 765, 766, 767, 768, 125, 769, 770, 123, 132, 122, 771, 73, 772, 773, 774, 775, 776, 777, 778, 779, 780, 781, 128, 782, 783, 784, 785, 264, 265, 266, 267, 271, 268, 269, 270, 280, 276, 277, 278, 279, 786, 273, 274, 275, 787, 788, 789, 790, 791, 792, 793, 794, 795, 796, 797, 798, 799, 800, 801, 802, 126, 803, 804, 805, 806, 664, 665, 666, 667, 668, 669, 670, 671, 672, 673, 807, 808, 809, 810, 2341, 2342, 2343, 2344, 2345, 2346, 2347, 2348, 2349, 2350, 2351, 2352, 2353, 2354, 2413, 2414, 2415, 2416, 2417, 2418, 2419, 2420, 2421, 2422, 2423, 2396, 2397, 2398, 2399, 2400, 2401, 2402, 2403, 2404, 2405, 2406, 2407, 2383, 2384, 2385, 2386, 2387, 2388, 2389, 2390, 2391, 2392, 2393, 2394, 2395, 2408, 2409, 2410, 2411, 2412, 2486, 2487, 2488, 2489, 2490, 2491, 2492, 2493, 2494, 2495, 2496, 2497, 2498] (by decide +kernel) (by decide +kernel)) (goodIn_sub (fun _ h => List.mem_append_left _ (List.mem_append_left _ (List.mem_append_left _ (List.mem_append_left _ (List.mem_append_left _ (List.mem_append_left _ (List.mem_append_right _ h))))))) (by decide +kernel))) (goodIn_sub (fun _ h => List.mem_append_left _ (List.mem_append_left _ (List.mem_append_right _ h))) (by decide +kernel))
set_option maxRecDepth 20000 in
theorem gL_law_L_fewest : GoodIn wsL_law (va_wsS RL 233 yL_fewest wsL_fewest) := goodIn_app (goodIn_of _ (by decide +kernel)) ggL_law_L_fewest
set_option maxRecDepth 20000 in
theorem ggL_law_X18_fewest : GoodIn wsL_law wsX18_fewest := goodIn_ca (goodIn_r _ [814, 317, 815, 600, 601, 602, 5, 603, 417, 418, 419, 420, 421, 314, 315, 316, 422, 318, 379, 346, 347, 348, 12, 13, 349, 350, 423, 424, 425, 426, 427, 428, 429, 430, 307, 380, 381, 382, 431, 432, 433, 434, 435, 436, 437, 438, 439, 440, 441, 442, 443, 444, 445, 446, 447, 448, 449, 450, 451, 452, 453, 454, 455, 456, 457, 383, 384, 385, 386, 387, 816, 817, 818, 819, 320, 322, 604, 605, 606, 607, 319, 608, 609, 610, 611, 94, 95, 96, 612, 613, 614, 615, 616, 617, 618, 619, 620, 621, 622, 623, 624, 625, 626, 627, 628, 629, 630, 631, 632, 633, 634, 635, 636, 637, 638, 639, 640, 820, 821, 822, 823, 321, 824, 325, 324, 825, 826, 827, 828, 829, 830, 831, 832, 833, 834, 835, 836, 837, 838, 839, 840, 841, 842, 843, 844, 845, 846, 847, 848, 849, 850, 851, 852, 853, 854, 855, 856, 857, 2355, 2356, 2357, 2358, 2359, 2360, 2361, 2362, 2363, 2364, 2365, 2366, 2367, 2368, 2369, 2370, 2371, 2372, 2373, 2374, 2375, 2376, 2377, 2378, 2379, 2380, 2381, 2382, 2502, 2503, 2504, 2505, 2506, 2507, 2508, 2509, 2510, 2511, 2512, 2513, 2514, 2515, 2516, 2517, 2518, 2519, 2520, 2521, 2522] (by decide +kernel) (by decide +kernel)) (goodIn_sub (fun _ h => List.mem_append_left _ (List.mem_append_left _ (List.mem_append_left _ (List.mem_append_left _ (List.mem_append_left _ (List.mem_append_left _ (List.mem_append_right _ h))))))) (by decide +kernel))
set_option maxRecDepth 20000 in
theorem gL_law_X18_fewest : GoodIn wsL_law (wsV RL 235 RX18 yX18_fewest wsX18_fewest) := goodIn_app (goodIn_of _ (by decide +kernel)) ggL_law_X18_fewest
set_option maxRecDepth 20000 in
theorem ggL_law_L_fewestAt : GoodIn wsL_law wsL_fewestAt := goodIn_ca (goodIn_ca (goodIn_ca (goodIn_r _ [860, 690, 861, 862, 863, 2, 864, 716, 717, 30, 750, 472, 473, 474, 475, 476, 477, 21, 412, 751, 752, 753, 754, 374, 25, 478, 479, 480, 481, 373, 17, 482, 483, 484, 485, 16, 486, 487, 488, 489, 490, 491, 492, 493, 494, 495, 496, 497, 498, 61, 65, 499, 500, 501, 502, 503, 504, 24, 505, 506, 507, 84, 85, 83, 508, 509, 510, 237, 238, 239, 511, 512, 513, 514, 515, 516, 517, 518, 519, 520, 20, 521, 116, 522, 523, 524, 525, 67, 526, 527, 528, 66, 529, 530, 95, 531, 532, 533, 534, 535, 536, 537, 538, 539, 540, 541, 542, 543, 544, 545, 546, 547, 548, 549, 550, 551, 552, 64, 553, 554, 555, 556, 557, 558, 559, 560, 561, 562, 62, 563, 564, 565, 566, 567, 568, 569, 570, 571, 572, 573, 574, 575, 576, 577, 578, 579, 580, 581, 582, 583, 584, 585, 755, 756, 757, 29, 758, 759, 124, 760, 761, 762, 763, 764, 765, 766, 767, 768, 125, 769, 770, 123, 132, 122, 771, 73, 772, 773, 774, 775, 776, 777, 778, 779, 780, 781, 128, 782, 783, 784, 785, 264, 265, 266, 267, 271, 268, 269, 270, 280, 276, 277, 278, 279, 786, 273, 274, 275, 787, 788, 789, 790, 791, 792, 793, 794, 795, 796, 797, 798, 799, 800, 801, 802, 126, 803, 804, 805, 806, 664, 665, 666, 667, 668, 669, 670, 671, 672, 673, 807, 808, 809, 810, 865, 866, 867, 868, 2341, 2342, 2343, 2344, 2345, 2346, 2347, 2348, 2349, 2350, 2351, 2352, 2353, 2354, 2413, 2414, 2415, 2416, 2417, 2418, 2419, 2420, 2421, 2422, 2423, 2396, 2397, 2398, 2399, 2400, 2401, 2402, 2403, 2404, 2405, 2406, 2407, 2383, 2384, 2385, 2386, 2387, 2388, 2389, 2390, 2391, 2392, 2393, 2394, 2395, 2408, 2409, 2410, 2411, 2412, 2486, 2487, 2488, 2489, 2490, 2491, 2492, 2493, 2494, 2495, 2496, 2497, 2498] (by decide +kernel) (by decide +kernel)) (goodIn_sub (fun _ h => List.mem_append_left _ (List.mem_append_left _ (List.mem_append_left _ (List.mem_append_left _ (List.mem_append_left _ (List.mem_append_left _ (List.mem_append_right _ h))))))) (by decide +kernel))) (goodIn_sub (fun _ h => List.mem_append_left _ (List.mem_append_right _ h)) (by decide +kernel))) (goodIn_sub (fun _ h => List.mem_append_left _ (List.mem_append_left _ (List.mem_append_right _ h))) (by decide +kernel))
set_option maxRecDepth 20000 in
theorem gL_law_L_fewestAt : GoodIn wsL_law (va_wsS RL 236 yL_fewestAt wsL_fewestAt) := goodIn_app (goodIn_of _ (by decide +kernel)) ggL_law_L_fewestAt
set_option maxRecDepth 20000 in
theorem ggL_law_X18_fewestAt : GoodIn wsL_law wsX18_fewestAt := goodIn_ca (goodIn_r _ [872, 317, 815, 325, 600, 601, 602, 5, 603, 417, 418, 419, 420, 421, 314, 315, 316, 422, 318, 379, 346, 347, 348, 12, 13, 349, 350, 423, 424, 425, 426, 427, 428, 429, 430, 307, 380, 381, 382, 431, 432, 433, 434, 435, 436, 437, 438, 439, 440, 441, 442, 443, 444, 445, 446, 447, 448, 449, 450, 451, 452, 453, 454, 455, 456, 457, 383, 384, 385, 386, 387, 816, 817, 818, 819, 320, 322, 604, 605, 606, 607, 319, 608, 609, 610, 611, 94, 95, 96, 612, 613, 614, 615, 616, 617, 618, 619, 620, 621, 622, 623, 624, 625, 626, 627, 628, 629, 630, 631, 632, 633, 634, 635, 636, 637, 638, 639, 640, 820, 821, 822, 823, 321, 824, 324, 825, 826, 827, 828, 829, 830, 831, 832, 833, 834, 835, 836, 837, 838, 839, 840, 841, 842, 843, 844, 845, 846, 847, 848, 849, 850, 851, 852, 853, 854, 855, 856, 857, 2355, 2356, 2357, 2358, 2359, 2360, 2361, 2362, 2363, 2364, 2365, 2366, 2367, 2368, 2369, 2370, 2371, 2372, 2373, 2374, 2375, 2376, 2377, 2378, 2379, 2380, 2381, 2382, 2502, 2503, 2504, 2505, 2506, 2507, 2508, 2509, 2510, 2511, 2512, 2513, 2514, 2515, 2516, 2517, 2518, 2519, 2520, 2521, 2522] (by decide +kernel) (by decide +kernel)) (goodIn_sub (fun _ h => List.mem_append_left _ (List.mem_append_left _ (List.mem_append_left _ (List.mem_append_left _ (List.mem_append_left _ (List.mem_append_left _ (List.mem_append_right _ h))))))) (by decide +kernel))
set_option maxRecDepth 20000 in
theorem gL_law_X18_fewestAt : GoodIn wsL_law (wsV RL 238 RX18 yX18_fewestAt wsX18_fewestAt) := goodIn_app (goodIn_of _ (by decide +kernel)) ggL_law_X18_fewestAt
set_option maxRecDepth 20000 in
theorem ggL_law_L_losses : GoodIn wsL_law wsL_losses := goodIn_ca (goodIn_ca (goodIn_ca (goodIn_r _ [875, 355, 876, 877, 878, 2, 879, 21, 880, 881, 882, 883, 360, 361, 472, 473, 474, 475, 476, 477, 412, 884, 885, 886, 20, 887, 235, 244, 245, 246, 247, 113, 888, 889, 890, 2341, 2342, 2343, 2344, 2345, 2346, 2347, 2348, 2349, 2350, 2351, 2352, 2353, 2354, 2396, 2397, 2398, 2399, 2400, 2401, 2402, 2403, 2404, 2405, 2406, 2407] (by decide +kernel) (by decide +kernel)) (goodIn_sub (fun _ h => List.mem_append_left _ (List.mem_append_left _ (List.mem_append_left _ (List.mem_append_left _ (List.mem_append_left _ (List.mem_append_left _ (List.mem_append_right _ h))))))) (by decide +kernel))) (goodIn_sub (fun _ h => List.mem_append_left _ (List.mem_append_left _ (List.mem_append_left _ (List.mem_append_left _ (List.mem_append_left _ (List.mem_append_right _ h)))))) (by decide +kernel))) (goodIn_sub (fun _ h => List.mem_append_left _ (List.mem_append_left _ (List.mem_append_right _ h))) (by decide +kernel))
set_option maxRecDepth 20000 in
theorem gL_law_L_losses : GoodIn wsL_law (va_wsS RL 239 yL_losses wsL_losses) := goodIn_app (goodIn_of _ (by decide +kernel)) ggL_law_L_losses
set_option maxRecDepth 20000 in
theorem ggL_law_X18_losses : GoodIn wsL_law wsX18_losses := goodIn_ca (goodIn_r _ [894, 380, 381, 5, 382, 383, 384, 385, 386, 387, 600, 601, 602, 603, 417, 418, 419, 420, 421, 314, 315, 316, 317, 422, 318, 379, 346, 347, 348, 12, 13, 349, 350, 423, 424, 425, 426, 427, 428, 429, 430, 307, 431, 432, 433, 434, 435, 436, 437, 438, 439, 440, 441, 442, 443, 444, 445, 446, 447, 448, 449, 450, 451, 452, 453, 454, 455, 456, 457, 895, 896, 897, 898, 824, 833, 834, 835, 836, 324, 2355, 2356, 2357, 2358, 2359, 2360, 2361, 2362, 2363, 2364, 2365, 2366, 2367, 2368, 2369, 2370, 2371, 2372, 2373, 2374, 2375, 2376, 2377, 2378, 2379, 2380, 2381, 2382, 2502, 2503, 2504, 2505, 2506, 2507, 2508, 2509, 2510, 2511, 2512, 2513, 2514, 2515, 2516, 2517, 2518, 2519, 2520, 2521, 2522] (by decide +kernel) (by decide +kernel)) (goodIn_sub (fun _ h => List.mem_append_left _ (List.mem_append_left _ (List.mem_append_left _ (List.mem_append_left _ (List.mem_append_left _ (List.mem_append_left _ (List.mem_append_right _ h))))))) (by decide +kernel))
set_option maxRecDepth 20000 in
theorem gL_law_X18_losses : GoodIn wsL_law (wsV RL 241 RX18 yX18_losses wsX18_losses) := goodIn_app (goodIn_of _ (by decide +kernel)) ggL_law_X18_losses
set_option maxRecDepth 20000 in
theorem ggL_law_L_translated : GoodIn wsL_law wsL_translated := goodIn_ca (goodIn_ca (goodIn_ca (goodIn_ca (goodIn_r _ [901, 355, 902, 903, 904, 2, 905, 716, 717, 21, 880, 881, 882, 883, 360, 361, 472, 473, 474, 475, 476, 477, 412, 906, 907, 908, 20, 909, 235, 244, 245, 246, 247, 113, 888, 889, 890, 2341, 2342, 2343, 2344, 2345, 2346, 2347, 2348, 2349, 2350, 2351, 2352, 2353, 2354, 2396, 2397, 2398, 2399, 2400, 2401, 2402, 2403, 2404, 2405, 2406, 2407] (by decide +kernel) (by decide +kernel)) (goodIn_sub (fun _ h => List.mem_append_left _ (List.mem_append_left _ (List.mem_append_left _ (List.mem_append_left _ (List.mem_append_left _ (List.mem_append_left _ (List.mem_append_right _ h))))))) (by decide +kernel))) (goodIn_sub (fun _ h => List.mem_append_left _ (List.mem_append_right _ h)) (by decide +kernel))) (goodIn_sub (fun _ h => List.mem_append_left _ (List.mem_append_left _ (List.mem_append_left _ (List.mem_append_left _ (List.mem_append_left _ (List.mem_append_right _ h)))))) (by decide +kernel))) (goodIn_sub (fun _ h => List.mem_append_left _ (List.mem_append_left _ (List.mem_append_right _ h))) (by decide +kernel))
set_option maxRecDepth 20000 in
theorem gL_law_L_translated : GoodIn wsL_law (va_wsS RL 242 yL_translated wsL_translated) := goodIn_app (goodIn_of _ (by decide +kernel)) ggL_law_L_translated
set_option maxRecDepth 20000 in
theorem ggL_law_X18_translated : GoodIn wsL_law wsX18_translated := goodIn_ca (goodIn_r _ [913, 824, 324, 380, 381, 5, 382, 383, 384, 385, 386, 387, 600, 601, 602, 603, 417, 418, 419, 420, 421, 314, 315, 316, 317, 422, 318, 379, 346, 347, 348, 12, 13, 349, 350, 423, 424, 425, 426, 427, 428, 429, 430, 307, 431, 432, 433, 434, 435, 436, 437, 438, 439, 440, 441, 442, 443, 444, 445, 446, 447, 448, 449, 450, 451, 452, 453, 454, 455, 456, 457, 895, 896, 897, 898, 833, 834, 835, 836, 2355, 2356, 2357, 2358, 2359, 2360, 2361, 2362, 2363, 2364, 2365, 2366, 2367, 2368, 2369, 2370, 2371, 2372, 2373, 2374, 2375, 2376, 2377, 2378, 2379, 2380, 2381, 2382, 2502, 2503, 2504, 2505, 2506, 2507, 2508, 2509, 2510, 2511, 2512, 2513, 2514, 2515, 2516, 2517, 2518, 2519, 2520, 2521, 2522] (by decide +kernel) (by decide +kernel)) (goodIn_sub (fun _ h => List.mem_append_left _ (List.mem_append_left _ (List.mem_append_left _ (List.mem_append_left _ (List.mem_append_left _ (List.mem_append_left _ (List.mem_append_right _ h))))))) (by decide +kernel))
set_option maxRecDepth 20000 in
theorem gL_law_X18_translated : GoodIn wsL_law (wsV RL 244 RX18 yX18_translated wsX18_translated) := goodIn_app (goodIn_of _ (by decide +kernel)) ggL_law_X18_translated
set_option maxRecDepth 20000 in
theorem ggL_law_L_pass : GoodIn wsL_law wsL_pass := goodIn_ca (goodIn_ca (goodIn_ca (goodIn_r _ [916, 355, 917, 918, 919, 2, 920, 360, 361, 362, 363, 921, 2341, 2342, 2343, 2344, 2345, 2346, 2347, 2348, 2349, 2350, 2351, 2352, 2353, 2354] (by decide +kernel) (by decide +kernel)) (goodIn_sub (fun _ h => List.mem_append_left _ (List.mem_append_left _ (List.mem_append_left _ (List.mem_append_left _ (List.mem_append_left _ (List.mem_append_left _ (List.mem_append_right _ h))))))) (by decide +kernel))) (goodIn_sub (fun _ h => List.mem_append_left _ (List.mem_append_left _ (List.mem_append_left _ (List.mem_append_left _ (List.mem_append_left _ (List.mem_append_right _ h)))))) (by decide +kernel))) (goodIn_sub (fun _ h => List.mem_append_left _ (List.mem_append_left _ (List.mem_append_left _ (List.mem_append_left _ (List.mem_append_right _ h))))) (by decide +kernel))
set_option maxRecDepth 20000 in
theorem gL_law_L_pass : GoodIn wsL_law (va_wsS RL 245 yL_pass wsL_pass) := goodIn_app (goodIn_of _ (by decide +kernel)) ggL_law_L_pass
set_option maxRecDepth 20000 in
theorem ggL_law_X18_pass : GoodIn wsL_law wsX18_pass := goodIn_r _ [925, 926, 380, 381, 5, 382, 383, 384, 385, 386, 387, 2355, 2356, 2357, 2358, 2359, 2360, 2361, 2362, 2363, 2364, 2365, 2366, 2367, 2368, 2369, 2370, 2371, 2372, 2373, 2374, 2375, 2376, 2377, 2378, 2379, 2380, 2381, 2382] (by decide +kernel) (by decide +kernel)
set_option maxRecDepth 20000 in
theorem gL_law_X18_pass : GoodIn wsL_law (wsV RL 247 RX18 yX18_pass wsX18_pass) := goodIn_app (goodIn_of _ (by decide +kernel)) ggL_law_X18_pass
set_option maxRecDepth 20000 in
theorem ggL_law_L_birth : GoodIn wsL_law wsL_birth := goodIn_ca (goodIn_ca (goodIn_ca (goodIn_ca (goodIn_r _ [929, 461, 930, 931, 932, 2, 933, 476, 477, 362, 363, 34, 934, 935, 936, 937, 938, 470, 471, 939, 940, 941, 33, 942, 143, 943, 944, 945, 946, 947, 948, 949, 950, 951, 137, 138, 139, 140, 952, 953, 954, 955, 141, 956, 957, 958, 959, 960, 961, 962, 963, 964, 42, 50, 965, 966, 967, 41, 968, 180, 969, 179, 970, 169, 170, 971, 972, 973, 974, 176, 177, 178, 975, 976, 977, 978, 979, 980, 981, 37, 982, 154, 983, 984, 985, 986, 987, 988, 989, 990, 991, 159, 992, 993, 994, 995, 996, 997, 998, 999, 1000, 1001, 1002, 1003, 1004, 1005, 1006, 1007, 1008, 173, 1009, 1010, 1011, 1012, 1013, 1014, 1015, 1016, 1017, 1018, 1019, 1020, 1021, 156, 1022, 1023, 1024, 1025, 1026, 530, 95, 531, 172, 1027, 533, 534, 535, 1028, 1029, 1030, 1031, 1032, 1033, 1034, 1035, 1036, 1037, 1038, 1039, 1040, 1041, 1042, 1043, 1044, 1045, 1046, 1047, 1048, 1049, 1050, 1051, 1052, 1053, 1054, 1055, 1056, 49, 1057, 203, 1058, 199, 205, 1059, 1060, 1061, 1062, 1063, 1064, 1065, 1066, 197, 198, 1067, 1068, 1069, 1070, 1071, 1072, 1073, 1074, 1075, 1076, 1077, 1078, 1079, 1080, 174, 2341, 2342, 2343, 2344, 2345, 2346, 2347, 2348, 2349, 2350, 2351, 2352, 2353, 2354, 2424, 2425, 2426, 2427, 2428, 2429, 2430, 2431, 2432, 2445, 2446, 2447, 2448, 2449, 2450, 2451, 2452, 2453, 2454, 2455, 2433, 2434, 2435, 2436, 2437, 2438, 2439, 2440, 2441, 2442, 2443, 2444, 2463, 2464, 2465, 2466, 2467, 2468, 2469, 2470, 2471, 2472] (by decide +kernel) (by decide +kernel)) (goodIn_sub (fun _ h => List.mem_append_left _ (List.mem_append_left _ (List.mem_append_left _ (List.mem_append_left _ (List.mem_append_left _ (List.mem_append_left _ (List.mem_append_right _ h))))))) (by decide +kernel))) (goodIn_sub (fun _ h => List.mem_append_left _ (List.mem_append_left _ (List.mem_append_right _ h))) (by decide +kernel))) (goodIn_sub (fun _ h => List.mem_append_left _ (List.mem_append_left _ (List.mem_append_left _ (List.mem_append_left _ (List.mem_append_right _ h))))) (by decide +kernel))) (goodIn_sub (fun _ h => List.mem_append_left _ (List.mem_append_left _ (List.mem_append_left _ (List.mem_append_right _ h)))) (by decide +kernel))
set_option maxRecDepth 20000 in
theorem gL_law_L_birth : GoodIn wsL_law (va_wsS RL 248 yL_birth wsL_birth) := goodIn_app (goodIn_of _ (by decide +kernel)) ggL_law_L_birth
set_option maxRecDepth 20000 in
theorem ggL_law_X18_birth : GoodIn wsL_law wsX18_birth := goodIn_r _ [1084, 311, 1085, 1086, 1087, 1088, 1089, 1090, 1091, 5, 1092, 1093, 1094, 1095, 310, 1096, 1097, 380, 381, 382, 383, 384, 385, 386, 387, 1098, 1099, 1100, 1101, 1102, 1103, 1104, 1105, 1106, 1107, 1108, 1109, 1110, 1111, 1112, 1113, 335, 1114, 1115, 1116, 1117, 12, 13, 1118, 1119, 1120, 1121, 1122, 1123, 1124, 1125, 1126, 1127, 1128, 1129, 1130, 1131, 1132, 1133, 1134, 1135, 1136, 1137, 1138, 1139, 1140, 1141, 334, 1142, 287, 95, 288, 1143, 1144, 1145, 1146, 1147, 1148, 1149, 1150, 1151, 1152, 1153, 1154, 238, 1155, 1156, 1157, 1158, 1159, 1160, 1161, 1162, 1163, 1164, 1165, 530, 531, 1166, 533, 534, 535, 2355, 2356, 2357, 2358, 2359, 2360, 2361, 2362, 2363, 2364, 2365, 2366, 2367, 2368, 2369, 2370, 2371, 2372, 2373, 2374, 2375, 2376, 2377, 2378, 2379, 2380, 2381, 2382, 2523, 2524, 2525, 2526, 2527, 2528, 2529, 2530, 2531, 2532, 2533, 2534, 2535, 2536, 2537, 2499, 2500, 2501] (by decide +kernel) (by decide +kernel)
set_option maxRecDepth 20000 in
theorem gL_law_X18_birth : GoodIn wsL_law (wsV RL 251 RX18 yX18_birth wsX18_birth) := goodIn_app (goodIn_of _ (by decide +kernel)) ggL_law_X18_birth
set_option maxRecDepth 20000 in
theorem ggL_law_L_death : GoodIn wsL_law wsL_death := goodIn_ca (goodIn_ca (goodIn_ca (goodIn_r _ [1169, 461, 1170, 1171, 1172, 2, 1173, 42, 34, 935, 936, 937, 938, 470, 471, 934, 1174, 1175, 1176, 1177, 476, 477, 1178, 994, 995, 33, 996, 140, 943, 944, 945, 946, 947, 1179, 1180, 1181, 41, 1182, 179, 170, 169, 174, 175, 1009, 1037, 1038, 1039, 1040, 143, 137, 141, 1042, 1043, 1044, 1045, 1046, 1047, 1048, 1049, 1183, 1184, 1185, 1186, 1187, 139, 1188, 952, 953, 954, 955, 956, 940, 941, 942, 957, 958, 959, 960, 961, 962, 963, 964, 50, 965, 966, 967, 968, 180, 969, 970, 971, 972, 973, 974, 176, 177, 178, 975, 976, 977, 978, 979, 980, 981, 37, 982, 154, 983, 984, 985, 986, 987, 988, 989, 990, 991, 159, 992, 993, 997, 998, 999, 1000, 1001, 1002, 1003, 1004, 1005, 1006, 1007, 1008, 173, 1010, 1011, 1012, 1013, 1014, 1015, 1016, 1017, 1018, 1019, 1020, 1021, 156, 1022, 1023, 1024, 1025, 1026, 530, 95, 531, 172, 1027, 533, 534, 535, 1028, 1029, 1030, 1031, 1032, 1033, 1034, 1035, 1036, 1041, 1050, 1051, 1052, 1053, 1054, 1055, 1056, 49, 1057, 203, 1058, 199, 205, 1059, 1060, 1061, 1062, 1063, 1064, 1065, 1066, 197, 198, 1067, 1068, 1069, 1070, 1071, 1072, 1073, 1074, 1075, 1076, 138, 1077, 1078, 1079, 1080, 1189, 1190, 1191, 1192, 1193, 1194, 1195, 1196, 2341, 2342, 2343, 2344, 2345, 2346, 2347, 2348, 2349, 2350, 2351, 2352, 2353, 2354, 2424, 2425, 2426, 2427, 2428, 2429, 2430, 2431, 2432, 2445, 2446, 2447, 2448, 2449, 2450, 2451, 2452, 2453, 2454, 2455, 2433, 2434, 2435, 2436, 2437, 2438, 2439, 2440, 2441, 2442, 2443, 2444, 2463, 2464, 2465, 2466, 2467, 2468, 2469, 2470, 2471, 2472] (by decide +kernel) (by decide +kernel)) (goodIn_sub (fun _ h => List.mem_append_left _ (List.mem_append_left _ (List.mem_append_left _ (List.mem_append_left _ (List.mem_append_left _ (List.mem_append_left _ (List.mem_append_right _ h))))))) (by decide +kernel))) (goodIn_sub (fun _ h => List.mem_append_left _ (List.mem_append_left _ (List.mem_append_left _ (List.mem_append_right _ h)))) (by decide +kernel))) (goodIn_sub (fun _ h => List.mem_append_left _ (List.mem_append_left _ (List.mem_append_right _ h))) (by decide +kernel))
set_option maxRecDepth 20000 in
theorem gL_law_L_death : GoodIn wsL_law (va_wsS RL 252 yL_death wsL_death) := goodIn_app (goodIn_of _ (by decide +kernel)) ggL_law_L_death
set_option maxRecDepth 20000 in
theorem ggL_law_X18_death : GoodIn wsL_law wsX18_death := goodIn_ca (goodIn_r _ [1200, 311, 1085, 1201, 312, 1202, 1203, 1204, 5, 1205, 1089, 1090, 1091, 1092, 1093, 1094, 1095, 310, 1096, 1097, 380, 381, 382, 383, 384, 385, 386, 387, 1098, 1099, 1100, 1101, 1102, 1103, 1104, 1105, 1106, 1107, 1108, 1109, 1110, 1111, 1112, 1113, 335, 1206, 1207, 1208, 1209, 1210, 1211, 1212, 1213, 60, 1214, 1215, 1216, 1217, 1218, 1219, 1220, 1221, 12, 13, 1222, 1223, 1224, 1225, 1226, 1227, 1228, 1229, 1230, 1231, 1232, 1233, 1234, 1235, 1236, 1237, 1238, 1239, 1240, 1241, 1242, 1243, 1244, 1245, 1246, 1247, 1248, 1249, 1129, 1250, 1251, 1252, 1253, 1254, 1255, 1256, 1257, 1258, 1259, 1260, 1261, 1262, 1263, 1264, 1265, 1266, 1267, 1268, 1269, 1270, 1271, 1272, 1273, 1274, 1275, 1276, 1277, 1278, 1279, 1280, 1281, 1282, 1283, 1284, 1285, 1286, 1287, 1288, 1289, 1290, 1291, 1292, 1293, 1294, 1295, 2355, 2356, 2357, 2358, 2359, 2360, 2361, 2362, 2363, 2364, 2365, 2366, 2367, 2368, 2369, 2370, 2371, 2372, 2373, 2374, 2375, 2376, 2377, 2378, 2379, 2380, 2381, 2382, 2523, 2524, 2525, 2526, 2527, 2528, 2529, 2530, 2531, 2532, 2533, 2534, 2535, 2536, 2537, 2499, 2500, 2501, 2538, 2539, 2540, 2541, 2542, 2543, 2544, 2545, 2546, 2547, 2548, 2549, 2550, 2551, 2552, 2553] (by decide +kernel) (by decide +kernel)) (goodIn_sub (fun _ h => List.mem_append_left _ (List.mem_append_left _ (List.mem_append_left _ (List.mem_append_left _ (List.mem_append_left _ (List.mem_append_left _ (List.mem_append_right _ h))))))) (by decide +kernel))
set_option maxRecDepth 20000 in
theorem gL_law_X18_death : GoodIn wsL_law (wsV RL 254 RX18 yX18_death wsX18_death) := goodIn_app (goodIn_of _ (by decide +kernel)) ggL_law_X18_death
set_option maxRecDepth 20000 in
theorem ggL_law_L_marry : GoodIn wsL_law wsL_marry := goodIn_ca (goodIn_ca (goodIn_ca (goodIn_r _ [1298, 461, 1299, 1300, 1301, 2, 1302, 476, 477, 34, 935, 936, 937, 938, 470, 471, 934, 939, 940, 941, 33, 942, 143, 943, 944, 945, 946, 947, 1174, 1175, 1176, 1177, 1178, 994, 995, 996, 140, 1303, 1304, 1305, 1306, 139, 1307, 1308, 1309, 1310, 1311, 1038, 1039, 1040, 137, 141, 2341, 2342, 2343, 2344, 2345, 2346, 2347, 2348, 2349, 2350, 2351, 2352, 2353, 2354, 2424, 2425, 2426, 2427, 2428, 2429, 2430, 2431, 2432] (by decide +kernel) (by decide +kernel)) (goodIn_sub (fun _ h => List.mem_append_left _ (List.mem_append_left _ (List.mem_append_left _ (List.mem_append_left _ (List.mem_append_left _ (List.mem_append_left _ (List.mem_append_right _ h))))))) (by decide +kernel))) (goodIn_sub (fun _ h => List.mem_append_left _ (List.mem_append_left _ (List.mem_append_right _ h))) (by decide +kernel))) (goodIn_sub (fun _ h => List.mem_append_left _ (List.mem_append_left _ (List.mem_append_left _ (List.mem_append_right _ h)))) (by decide +kernel))
set_option maxRecDepth 20000 in
theorem gL_law_L_marry : GoodIn wsL_law (va_wsS RL 255 yL_marry wsL_marry) := goodIn_app (goodIn_of _ (by decide +kernel)) ggL_law_L_marry
set_option maxRecDepth 20000 in
theorem ggL_law_X18_marry : GoodIn wsL_law wsX18_marry := goodIn_r _ [1315, 311, 1085, 1089, 1090, 1091, 5, 1092, 1093, 1094, 1095, 310, 1096, 1097, 380, 381, 382, 383, 384, 385, 386, 387, 1098, 1099, 1100, 1101, 1102, 1103, 1104, 1105, 1106, 1107, 1108, 1109, 1110, 1111, 1112, 1113, 335, 1284, 1285, 1286, 1287, 1232, 1233, 1234, 1235, 1236, 1237, 1238, 1239, 1240, 1241, 1242, 1243, 1244, 1245, 1246, 1247, 12, 13, 1248, 1249, 1129, 1250, 1251, 1252, 1253, 1254, 1255, 1256, 1257, 1258, 1259, 1260, 1261, 1262, 1263, 1264, 1265, 1266, 1267, 1268, 2355, 2356, 2357, 2358, 2359, 2360, 2361, 2362, 2363, 2364, 2365, 2366, 2367, 2368, 2369, 2370, 2371, 2372, 2373, 2374, 2375, 2376, 2377, 2378, 2379, 2380, 2381, 2382, 2523, 2524, 2525, 2526, 2527, 2528, 2529, 2530, 2531, 2532, 2533, 2534, 2535, 2536, 2537, 2499, 2500, 2501, 2550, 2551, 2552, 2553] (by decide +kernel) (by decide +kernel)
set_option maxRecDepth 20000 in
theorem gL_law_X18_marry : GoodIn wsL_law (wsV RL 257 RX18 yX18_marry wsX18_marry) := goodIn_app (goodIn_of _ (by decide +kernel)) ggL_law_X18_marry
set_option maxRecDepth 20000 in
theorem ggL_law_L_lives : GoodIn wsL_law wsL_lives := goodIn_ca (goodIn_ca (goodIn_r _ [1318, 461, 1319, 1320, 1321, 2, 1322, 34, 935, 936, 937, 938, 470, 471, 934, 1178, 994, 995, 33, 996, 140, 943, 944, 945, 946, 947, 2341, 2342, 2343, 2344, 2345, 2346, 2347, 2348, 2349, 2350, 2351, 2352, 2353, 2354, 2424, 2425, 2426, 2427, 2428, 2429, 2430, 2431, 2432] (by decide +kernel) (by decide +kernel)) (goodIn_sub (fun _ h => List.mem_append_left _ (List.mem_append_left _ (List.mem_append_left _ (List.mem_append_left _ (List.mem_append_left _ (List.mem_append_left _ (List.mem_append_right _ h))))))) (by decide +kernel))) (goodIn_sub (fun _ h => List.mem_append_left _ (List.mem_append_left _ (List.mem_append_left _ (List.mem_append_right _ h)))) (by decide +kernel))
set_option maxRecDepth 20000 in
theorem gL_law_L_lives : GoodIn wsL_law (va_wsS RL 258 yL_lives wsL_lives) := goodIn_app (goodIn_of _ (by decide +kernel)) ggL_law_L_lives
set_option maxRecDepth 20000 in
theorem ggL_law_X18_lives : GoodIn wsL_law wsX18_lives := goodIn_r _ [1326, 311, 1085, 1202, 1203, 1204, 5, 1205, 1089, 1090, 1091, 1092, 1093, 1094, 1095, 310, 1096, 1097, 380, 381, 382, 383, 384, 385, 386, 387, 1098, 1099, 1100, 1101, 1102, 1103, 1104, 1105, 1106, 1107, 1108, 1109, 1110, 1111, 1112, 1113, 335, 2355, 2356, 2357, 2358, 2359, 2360, 2361, 2362, 2363, 2364, 2365, 2366, 2367, 2368, 2369, 2370, 2371, 2372, 2373, 2374, 2375, 2376, 2377, 2378, 2379, 2380, 2381, 2382, 2523, 2524, 2525, 2526, 2527, 2528, 2529, 2530, 2531, 2532, 2533, 2534, 2535, 2536, 2537, 2499, 2500, 2501] (by decide +kernel) (by decide +kernel)
set_option maxRecDepth 20000 in
theorem gL_law_X18_lives : GoodIn wsL_law (wsV RL 260 RX18 yX18_lives wsX18_lives) := goodIn_app (goodIn_of _ (by decide +kernel)) ggL_law_X18_lives
set_option maxRecDepth 20000 in
theorem ggL_law_L_spouse : GoodIn wsL_law wsL_spouse := goodIn_ca (goodIn_ca (goodIn_ca (goodIn_r _ [1329, 461, 1330, 1331, 1332, 2, 1333, 716, 717, 34, 935, 936, 937, 938, 470, 471, 934, 1303, 1304, 1305, 33, 1306, 139, 943, 944, 945, 946, 947, 2341, 2342, 2343, 2344, 2345, 2346, 2347, 2348, 2349, 2350, 2351, 2352, 2353, 2354, 2424, 2425, 2426, 2427, 2428, 2429, 2430, 2431, 2432] (by decide +kernel) (by decide +kernel)) (goodIn_sub (fun _ h => List.mem_append_left _ (List.mem_append_left _ (List.mem_append_left _ (List.mem_append_left _ (List.mem_append_left _ (List.mem_append_left _ (List.mem_append_right _ h))))))) (by decide +kernel))) (goodIn_sub (fun _ h => List.mem_append_left _ (List.mem_append_right _ h)) (by decide +kernel))) (goodIn_sub (fun _ h => List.mem_append_left _ (List.mem_append_left _ (List.mem_append_left _ (List.mem_append_right _ h)))) (by decide +kernel))
set_option maxRecDepth 20000 in
theorem gL_law_L_spouse : GoodIn wsL_law (va_wsS RL 261 yL_spouse wsL_spouse) := goodIn_app (goodIn_of _ (by decide +kernel)) ggL_law_L_spouse
set_option maxRecDepth 20000 in
theorem ggL_law_X18_spouse : GoodIn wsL_law wsX18_spouse := goodIn_r _ [1337, 311, 1085, 1202, 1203, 1204, 5, 1205, 1089, 1090, 1091, 1092, 1093, 1094, 1095, 310, 1096, 1097, 380, 381, 382, 383, 384, 385, 386, 387, 1098, 1099, 1100, 1101, 1102, 1103, 1104, 1105, 1106, 1107, 1108, 1109, 1110, 1111, 1112, 1113, 335, 2355, 2356, 2357, 2358, 2359, 2360, 2361, 2362, 2363, 2364, 2365, 2366, 2367, 2368, 2369, 2370, 2371, 2372, 2373, 2374, 2375, 2376, 2377, 2378, 2379, 2380, 2381, 2382, 2523, 2524, 2525, 2526, 2527, 2528, 2529, 2530, 2531, 2532, 2533, 2534, 2535, 2536, 2537, 2499, 2500, 2501] (by decide +kernel) (by decide +kernel)
set_option maxRecDepth 20000 in
theorem gL_law_X18_spouse : GoodIn wsL_law (wsV RL 263 RX18 yX18_spouse wsX18_spouse) := goodIn_app (goodIn_of _ (by decide +kernel)) ggL_law_X18_spouse
set_option maxRecDepth 20000 in
theorem ggL_law_L_isHeiress : GoodIn wsL_law wsL_isHeiress := goodIn_ca (goodIn_ca (goodIn_r _ [1340, 461, 1341, 1342, 1343, 2, 1344, 34, 935, 936, 937, 938, 470, 471, 934, 1311, 1038, 1039, 33, 1040, 143, 137, 140, 141, 943, 944, 945, 946, 947, 2341, 2342, 2343, 2344, 2345, 2346, 2347, 2348, 2349, 2350, 2351, 2352, 2353, 2354, 2424, 2425, 2426, 2427, 2428, 2429, 2430, 2431, 2432] (by decide +kernel) (by decide +kernel)) (goodIn_sub (fun _ h => List.mem_append_left _ (List.mem_append_left _ (List.mem_append_left _ (List.mem_append_left _ (List.mem_append_left _ (List.mem_append_left _ (List.mem_append_right _ h))))))) (by decide +kernel))) (goodIn_sub (fun _ h => List.mem_append_left _ (List.mem_append_left _ (List.mem_append_left _ (List.mem_append_right _ h)))) (by decide +kernel))
set_option maxRecDepth 20000 in
theorem gL_law_L_isHeiress : GoodIn wsL_law (va_wsS RL 264 yL_isHeiress wsL_isHeiress) := goodIn_app (goodIn_of _ (by decide +kernel)) ggL_law_L_isHeiress
set_option maxRecDepth 20000 in
theorem ggL_law_X18_isHeiress : GoodIn wsL_law wsX18_isHeiress := goodIn_r _ [1348, 311, 1085, 1202, 1203, 1204, 5, 1205, 1089, 1090, 1091, 1092, 1093, 1094, 1095, 310, 1096, 1097, 380, 381, 382, 383, 384, 385, 386, 387, 1098, 1099, 1100, 1101, 1102, 1103, 1104, 1105, 1106, 1107, 1108, 1109, 1110, 1111, 1112, 1113, 335, 1284, 1285, 1286, 1287, 1232, 1233, 1234, 1235, 1236, 1237, 1238, 1239, 1240, 1241, 1242, 1243, 1244, 1245, 1246, 1247, 12, 13, 1248, 1249, 1129, 1250, 1251, 1252, 1253, 1254, 1255, 1256, 1257, 1258, 1259, 1260, 1261, 1262, 1263, 1264, 1265, 1266, 1267, 1268, 2355, 2356, 2357, 2358, 2359, 2360, 2361, 2362, 2363, 2364, 2365, 2366, 2367, 2368, 2369, 2370, 2371, 2372, 2373, 2374, 2375, 2376, 2377, 2378, 2379, 2380, 2381, 2382, 2499, 2500, 2501, 2523, 2524, 2525, 2526, 2527, 2528, 2529, 2530, 2531, 2532, 2533, 2534, 2535, 2536, 2537, 2550, 2551, 2552, 2553] (by decide +kernel) (by decide +kernel)
set_option maxRecDepth 20000 in
theorem gL_law_X18_isHeiress : GoodIn wsL_law (wsV RL 266 RX18 yX18_isHeiress wsX18_isHeiress) := goodIn_app (goodIn_of _ (by decide +kernel)) ggL_law_X18_isHeiress
set_option maxRecDepth 20000 in
theorem ggL_law_L_lineOf : GoodIn wsL_law wsL_lineOf := goodIn_ca (goodIn_ca (goodIn_r _ [1351, 461, 1352, 1353, 1354, 2, 1355, 34, 935, 936, 937, 938, 470, 471, 934, 1356, 998, 999, 33, 1000, 141, 943, 944, 945, 946, 947, 2341, 2342, 2343, 2344, 2345, 2346, 2347, 2348, 2349, 2350, 2351, 2352, 2353, 2354, 2424, 2425, 2426, 2427, 2428, 2429, 2430, 2431, 2432] (by decide +kernel) (by decide +kernel)) (goodIn_sub (fun _ h => List.mem_append_left _ (List.mem_append_left _ (List.mem_append_left _ (List.mem_append_left _ (List.mem_append_left _ (List.mem_append_left _ (List.mem_append_right _ h))))))) (by decide +kernel))) (goodIn_sub (fun _ h => List.mem_append_left _ (List.mem_append_left _ (List.mem_append_left _ (List.mem_append_right _ h)))) (by decide +kernel))
set_option maxRecDepth 20000 in
theorem gL_law_L_lineOf : GoodIn wsL_law (va_wsS RL 267 yL_lineOf wsL_lineOf) := goodIn_app (goodIn_of _ (by decide +kernel)) ggL_law_L_lineOf
set_option maxRecDepth 20000 in
theorem ggL_law_X18_lineOf : GoodIn wsL_law wsX18_lineOf := goodIn_r _ [1360, 311, 1085, 1202, 1203, 1204, 5, 1205, 1089, 1090, 1091, 1092, 1093, 1094, 1095, 310, 1096, 1097, 380, 381, 382, 383, 384, 385, 386, 387, 1098, 1099, 1100, 1101, 1102, 1103, 1104, 1105, 1106, 1107, 1108, 1109, 1110, 1111, 1112, 1113, 335, 1232, 1233, 1234, 1235, 1236, 1237, 1238, 1239, 1240, 1241, 1242, 1243, 1244, 1245, 1246, 1247, 12, 13, 1248, 1249, 1129, 1250, 1251, 1252, 1253, 1254, 1255, 1256, 1257, 1258, 1259, 1260, 1261, 1262, 1263, 1264, 1265, 1266, 1267, 1268, 2355, 2356, 2357, 2358, 2359, 2360, 2361, 2362, 2363, 2364, 2365, 2366, 2367, 2368, 2369, 2370, 2371, 2372, 2373, 2374, 2375, 2376, 2377, 2378, 2379, 2380, 2381, 2382, 2523, 2524, 2525, 2526, 2527, 2528, 2529, 2530, 2531, 2532, 2533, 2534, 2535, 2536, 2537, 2499, 2500, 2501, 2550, 2551, 2552, 2553] (by decide +kernel) (by decide +kernel)
set_option maxRecDepth 20000 in
theorem gL_law_X18_lineOf : GoodIn wsL_law (wsV RL 269 RX18 yX18_lineOf wsX18_lineOf) := goodIn_app (goodIn_of _ (by decide +kernel)) ggL_law_X18_lineOf
set_option maxRecDepth 20000 in
theorem ggL_law_L_grant : GoodIn wsL_law wsL_grant := goodIn_ca (goodIn_ca (goodIn_ca (goodIn_ca (goodIn_ca (goodIn_r _ [1363, 461, 1364, 1365, 1366, 2, 1367, 476, 477, 54, 25, 935, 936, 937, 938, 470, 471, 34, 934, 1368, 1369, 1370, 1371, 360, 361, 472, 473, 474, 475, 21, 412, 1174, 1175, 1176, 1177, 1178, 994, 995, 33, 996, 140, 943, 944, 945, 946, 947, 478, 479, 480, 481, 373, 17, 482, 483, 484, 485, 16, 486, 487, 488, 489, 490, 491, 492, 493, 494, 495, 496, 497, 498, 61, 65, 499, 500, 501, 502, 503, 504, 24, 505, 506, 507, 84, 85, 83, 508, 509, 510, 237, 238, 239, 511, 512, 513, 514, 515, 516, 517, 518, 519, 520, 20, 521, 116, 522, 523, 524, 525, 67, 526, 527, 528, 66, 529, 530, 95, 531, 532, 533, 534, 535, 536, 537, 538, 539, 540, 541, 542, 543, 544, 545, 546, 547, 548, 549, 550, 551, 552, 64, 553, 554, 555, 556, 557, 558, 559, 560, 561, 562, 62, 563, 564, 565, 566, 567, 568, 569, 570, 571, 572, 573, 574, 575, 576, 577, 578, 579, 580, 581, 582, 583, 584, 585, 1372, 1373, 1374, 53, 1375, 221, 1376, 222, 1377, 1378, 1379, 37, 1380, 153, 983, 984, 985, 986, 987, 1381, 1382, 1383, 1384, 152, 1385, 1386, 1387, 1388, 1389, 1390, 805, 806, 664, 665, 666, 667, 668, 669, 670, 671, 672, 673, 1391, 1392, 1393, 41, 1394, 179, 970, 169, 993, 1395, 1396, 1397, 1398, 362, 363, 38, 1399, 1400, 1401, 1402, 1403, 921, 1404, 1405, 1406, 1407, 150, 1408, 154, 155, 156, 157, 159, 1409, 1410, 1411, 1412, 235, 1413, 366, 367, 368, 113, 1414, 224, 225, 226, 227, 228, 229, 230, 231, 232, 233, 234, 114, 236, 240, 241, 242, 243, 244, 245, 246, 247, 248, 249, 250, 251, 252, 253, 254, 255, 256, 257, 258, 259, 260, 261, 262, 73, 263, 264, 265, 266, 267, 268, 269, 270, 271, 272, 273, 274, 275, 276, 277, 278, 279, 280, 281, 282, 283, 284, 285, 286, 287, 288, 289, 290, 291, 292, 293, 294, 295, 296, 297, 298, 299, 300, 301, 302, 1415, 1416, 1417, 1418, 163, 162, 1419, 1420, 1421, 1422, 1423, 1424, 1425, 1426, 1427, 1428, 1429, 396, 397, 398, 399, 400, 401, 402, 403, 223, 369, 370, 371, 372, 374, 961, 962, 963, 964, 42, 50, 965, 966, 967, 968, 180, 969, 170, 971, 972, 973, 974, 176, 177, 178, 975, 976, 977, 978, 979, 980, 981, 982, 988, 989, 990, 991, 992, 940, 941, 942, 143, 997, 998, 999, 1000, 141, 1001, 1002, 1003, 1004, 137, 1005, 1006, 1007, 1008, 173, 1009, 1010, 1011, 1012, 1013, 1014, 1015, 1016, 1017, 1018, 1019, 1020, 1021, 1022, 1023, 1024, 1025, 1026, 172, 1027, 1028, 1029, 1030, 1031, 1032, 1033, 1034, 1035, 1036, 1037, 1038, 1039, 1040, 1041, 958, 959, 960, 1042, 1043, 1044, 1045, 1046, 1047, 1048, 1049, 1050, 1051, 1052, 1053, 957, 1054, 1055, 1056, 49, 1057, 203, 1058, 199, 205, 1059, 1060, 1061, 1062, 1063, 1064, 1065, 1066, 197, 198, 1067, 1068, 1069, 1070, 1071, 1072, 1073, 1074, 1075, 1076, 138, 1077, 1078, 1079, 1080, 174, 2341, 2342, 2343, 2344, 2345, 2346, 2347, 2348, 2349, 2350, 2351, 2352, 2353, 2354, 2424, 2425, 2426, 2427, 2428, 2429, 2430, 2431, 2432, 2396, 2397, 2398, 2399, 2400, 2401, 2402, 2403, 2404, 2405, 2406, 2407, 2383, 2384, 2385, 2386, 2387, 2388, 2389, 2390, 2391, 2392, 2393, 2394, 2395, 2408, 2409, 2410, 2411, 2412, 2486, 2487, 2488, 2489, 2490, 2491, 2492, 2493, 2494, 2495, 2496, 2497, 2498, 2473, 2474, 2475, 2476, 2477, 2478, 2479, 2480, 2481, 2482, 2483, 2484, 2485, 2433, 2434, 2435, 2436, 2437, 2438, 2439, 2440, 2441, 2442, 2443, 2444, 2445, 2446, 2447, 2448, 2449, 2450, 2451, 2452, 2453, 2454, 2455, 2463, 2464, 2465, 2466, 2467, 2468, 2469, 2470, 2471, 2472] (by decide +kernel) (by decide +kernel)) (goodIn_sub (fun _ h => List.mem_append_left _ (List.mem_append_left _ (List.mem_append_left _ (List.mem_append_left _ (List.mem_append_left _ (List.mem_append_left _ (List.mem_append_right _ h))))))) (by decide +kernel))) (goodIn_sub (fun _ h => List.mem_append_left _ (List.mem_append_left _ (List.mem_append_right _ h))) (by decide +kernel))) (goodIn_sub (fun _ h => List.mem_append_left _ (List.mem_append_left _ (List.mem_append_left _ (List.mem_append_right _ h)))) (by decide +kernel))) (goodIn_sub (fun _ h => List.mem_append_left _ (List.mem_append_left _ (List.mem_append_left _ (List.mem_append_left _ (List.mem_append_left _ (List.mem_append_right _ h)))))) (by decide +kernel))) (goodIn_sub (fun _ h => List.mem_append_left _ (List.mem_append_left _ (List.mem_append_left _ (List.mem_append_left _ (List.mem_append_right _ h))))) (by decide +kernel))
set_option maxRecDepth 20000 in
theorem gL_law_L_grant : GoodIn wsL_law (va_wsS RL 270 yL_grant wsL_grant) := goodIn_app (goodIn_of _ (by decide +kernel)) ggL_law_L_grant
set_option maxRecDepth 20000 in
theorem ggL_law_X18_grant : GoodIn wsL_law wsX18_grant := goodIn_ca (goodIn_r _ [1433, 417, 311, 1085, 312, 1202, 1203, 1204, 5, 1205, 1089, 1090, 1091, 1092, 1093, 1094, 1095, 310, 1096, 1097, 380, 381, 382, 383, 384, 385, 386, 387, 418, 419, 420, 421, 314, 315, 316, 317, 422, 318, 379, 346, 347, 348, 12, 13, 349, 350, 423, 424, 425, 426, 427, 428, 429, 430, 307, 431, 432, 433, 434, 435, 436, 437, 438, 439, 440, 441, 442, 443, 444, 445, 446, 447, 448, 449, 450, 451, 452, 453, 454, 455, 456, 457, 1098, 1099, 1100, 1101, 1102, 1103, 1104, 1105, 1106, 1107, 1108, 1109, 1110, 1111, 1112, 1113, 335, 1434, 1435, 1436, 1437, 320, 604, 605, 606, 607, 319, 608, 609, 610, 611, 94, 95, 96, 612, 613, 614, 615, 616, 617, 618, 619, 620, 621, 622, 623, 624, 625, 626, 627, 628, 629, 630, 631, 632, 633, 634, 635, 636, 637, 638, 639, 640, 1438, 1439, 1440, 1441, 1210, 60, 321, 1214, 1215, 1216, 1217, 1442, 1443, 1444, 1445, 1446, 1447, 1448, 1449, 1450, 1451, 1452, 1453, 1454, 1455, 842, 843, 844, 845, 846, 847, 848, 849, 850, 851, 852, 853, 854, 855, 856, 857, 1456, 1457, 1458, 1459, 1460, 1461, 1462, 1236, 1237, 1238, 1239, 1240, 1241, 1242, 1243, 1244, 1245, 1246, 1247, 1248, 1249, 1129, 1250, 1251, 1252, 1253, 1254, 1255, 1256, 1257, 1258, 1259, 1260, 1261, 1262, 1263, 1264, 1206, 1207, 1208, 1209, 1211, 1212, 1213, 1218, 1219, 1220, 1221, 1222, 1223, 1224, 1225, 1226, 1227, 1228, 1229, 1230, 1231, 1232, 1233, 1234, 1235, 1265, 1266, 1267, 1268, 1269, 1270, 1271, 1272, 1273, 1274, 1275, 1276, 1277, 1278, 1279, 1280, 1281, 1282, 1283, 1463, 1464, 1465, 1466, 1467, 1468, 1469, 1470, 1471, 1472, 926, 1473, 1474, 1475, 1476, 1477, 1478, 1479, 1480, 1481, 1482, 1483, 1124, 1125, 1126, 1127, 1128, 1130, 1131, 1132, 1133, 1134, 1135, 1136, 1137, 1138, 1139, 1140, 1141, 334, 1142, 287, 288, 1143, 1144, 1145, 1146, 1147, 1148, 1149, 1150, 1151, 1152, 1153, 1154, 238, 1155, 1156, 1157, 1158, 1159, 1160, 1161, 1162, 1163, 1164, 1165, 530, 531, 1166, 533, 534, 535, 2355, 2356, 2357, 2358, 2359, 2360, 2361, 2362, 2363, 2364, 2365, 2366, 2367, 2368, 2369, 2370, 2371, 2372, 2373, 2374, 2375, 2376, 2377, 2378, 2379, 2380, 2381, 2382, 2523, 2524, 2525, 2526, 2527, 2528, 2529, 2530, 2531, 2532, 2533, 2534, 2535, 2536, 2537, 2499, 2500, 2501, 2502, 2503, 2504, 2505, 2506, 2507, 2508, 2509, 2510, 2511, 2512, 2513, 2514, 2515, 2516, 2517, 2518, 2519, 2520, 2521, 2522, 2540, 2541, 2542, 2543, 2544, 2545, 2546, 2547, 2548, 2549, 2538, 2539, 2550, 2551, 2552, 2553] (by decide +kernel) (by decide +kernel)) (goodIn_sub (fun _ h => List.mem_append_left _ (List.mem_append_left _ (List.mem_append_left _ (List.mem_append_left _ (List.mem_append_left _ (List.mem_append_left _ (List.mem_append_right _ h))))))) (by decide +kernel))
set_option maxRecDepth 20000 in
theorem gL_law_X18_grant : GoodIn wsL_law (wsV RL 272 RX18 yX18_grant wsX18_grant) := goodIn_app (goodIn_of _ (by decide +kernel)) ggL_law_X18_grant
set_option maxRecDepth 20000 in
theorem ggL_law_L_assume : GoodIn wsL_law wsL_assume := goodIn_ca (goodIn_ca (goodIn_ca (goodIn_ca (goodIn_ca (goodIn_r _ [1486, 461, 1487, 1488, 1489, 2, 1490, 476, 477, 38, 42, 935, 936, 937, 938, 470, 471, 34, 934, 1368, 1369, 1370, 1371, 360, 361, 472, 473, 474, 475, 21, 412, 1174, 1175, 1176, 1177, 1178, 994, 995, 33, 996, 140, 943, 944, 945, 946, 947, 1491, 1060, 1061, 41, 1062, 179, 169, 1009, 1492, 1378, 1379, 37, 1380, 153, 983, 984, 985, 986, 987, 1395, 1396, 1397, 1398, 362, 363, 1399, 1400, 1401, 1402, 1403, 921, 1404, 1405, 1406, 1407, 150, 1408, 154, 155, 156, 157, 159, 1409, 1410, 1411, 20, 1412, 235, 1413, 366, 367, 368, 113, 1414, 224, 225, 226, 227, 228, 229, 230, 231, 232, 233, 234, 114, 116, 236, 237, 238, 239, 240, 241, 242, 243, 244, 245, 246, 247, 248, 249, 250, 251, 252, 253, 254, 255, 256, 257, 258, 259, 260, 261, 262, 73, 263, 264, 265, 266, 267, 268, 269, 270, 271, 272, 273, 274, 275, 276, 277, 278, 279, 280, 281, 282, 283, 284, 285, 286, 287, 95, 288, 289, 290, 291, 292, 293, 294, 295, 296, 297, 298, 299, 300, 301, 302, 1415, 1416, 1417, 1418, 163, 162, 1419, 1385, 152, 1420, 533, 534, 535, 1421, 484, 485, 16, 486, 487, 488, 489, 490, 491, 492, 493, 494, 495, 496, 497, 498, 61, 65, 499, 500, 501, 502, 503, 504, 24, 505, 506, 507, 84, 85, 83, 508, 509, 510, 511, 512, 513, 514, 515, 516, 517, 518, 519, 520, 521, 522, 523, 524, 525, 67, 526, 527, 528, 66, 529, 530, 531, 532, 536, 537, 538, 539, 540, 541, 542, 543, 544, 545, 546, 547, 548, 549, 550, 551, 552, 64, 553, 554, 555, 556, 557, 558, 559, 560, 561, 562, 62, 563, 564, 565, 566, 567, 568, 569, 570, 571, 572, 573, 574, 575, 576, 577, 578, 579, 580, 581, 582, 583, 584, 585, 1422, 1423, 1424, 1425, 1426, 1427, 1428, 1429, 396, 397, 398, 399, 400, 401, 402, 403, 223, 369, 370, 371, 372, 373, 374, 961, 962, 963, 964, 50, 965, 966, 967, 968, 180, 969, 970, 170, 971, 972, 973, 974, 176, 177, 178, 975, 976, 977, 978, 979, 980, 981, 982, 988, 989, 990, 991, 992, 940, 941, 942, 143, 993, 997, 998, 999, 1000, 141, 1001, 1002, 1003, 1004, 137, 1005, 1006, 1007, 1008, 173, 1010, 1011, 1012, 1013, 1014, 1015, 1016, 1017, 1018, 1019, 1020, 1021, 1022, 1023, 1024, 1025, 1026, 172, 1027, 1028, 1029, 1030, 1031, 1032, 1033, 1034, 1035, 1036, 1037, 1038, 1039, 1040, 1041, 958, 959, 960, 1042, 1043, 1044, 1045, 1046, 1047, 1048, 1049, 1050, 1051, 1052, 1053, 957, 1054, 1055, 1056, 49, 1057, 203, 1058, 199, 205, 1059, 1063, 1064, 1065, 1066, 197, 198, 1067, 1068, 1069, 1070, 1071, 1072, 1073, 1074, 1075, 1076, 138, 1077, 1078, 1079, 1080, 174, 2341, 2342, 2343, 2344, 2345, 2346, 2347, 2348, 2349, 2350, 2351, 2352, 2353, 2354, 2424, 2425, 2426, 2427, 2428, 2429, 2430, 2431, 2432, 2396, 2397, 2398, 2399, 2400, 2401, 2402, 2403, 2404, 2405, 2406, 2407, 2445, 2446, 2447, 2448, 2449, 2450, 2451, 2452, 2453, 2454, 2455, 2433, 2434, 2435, 2436, 2437, 2438, 2439, 2440, 2441, 2442, 2443, 2444, 2486, 2487, 2488, 2489, 2490, 2491, 2492, 2493, 2494, 2495, 2496, 2497, 2498, 2408, 2409, 2410, 2411, 2412, 2383, 2384, 2385, 2386, 2387, 2388, 2389, 2390, 2391, 2392, 2393, 2394, 2395, 2463, 2464, 2465, 2466, 2467, 2468, 2469, 2470, 2471, 2472] (by decide +kernel) (by decide +kernel)) (goodIn_sub (fun _ h => List.mem_append_left _ (List.mem_append_left _ (List.mem_append_left _ (List.mem_append_left _ (List.mem_append_left _ (List.mem_append_left _ (List.mem_append_right _ h))))))) (by decide +kernel))) (goodIn_sub (fun _ h => List.mem_append_left _ (List.mem_append_left _ (List.mem_append_right _ h))) (by decide +kernel))) (goodIn_sub (fun _ h => List.mem_append_left _ (List.mem_append_left _ (List.mem_append_left _ (List.mem_append_right _ h)))) (by decide +kernel))) (goodIn_sub (fun _ h => List.mem_append_left _ (List.mem_append_left _ (List.mem_append_left _ (List.mem_append_left _ (List.mem_append_left _ (List.mem_append_right _ h)))))) (by decide +kernel))) (goodIn_sub (fun _ h => List.mem_append_left _ (List.mem_append_left _ (List.mem_append_left _ (List.mem_append_left _ (List.mem_append_right _ h))))) (by decide +kernel))
set_option maxRecDepth 20000 in
theorem gL_law_L_assume : GoodIn wsL_law (va_wsS RL 273 yL_assume wsL_assume) := goodIn_app (goodIn_of _ (by decide +kernel)) ggL_law_L_assume
set_option maxRecDepth 20000 in
theorem ggL_law_X18_assume : GoodIn wsL_law wsX18_assume := goodIn_ca (goodIn_r _ [1496, 311, 1085, 417, 312, 1210, 1202, 1203, 1204, 5, 1205, 1089, 1090, 1091, 1092, 1093, 1094, 1095, 310, 1096, 1097, 380, 381, 382, 383, 384, 385, 386, 387, 418, 419, 420, 421, 314, 315, 316, 317, 422, 318, 379, 346, 347, 348, 12, 13, 349, 350, 423, 424, 425, 426, 427, 428, 429, 430, 307, 431, 432, 433, 434, 435, 436, 437, 438, 439, 440, 441, 442, 443, 444, 445, 446, 447, 448, 449, 450, 451, 452, 453, 454, 455, 456, 457, 1098, 1099, 1100, 1101, 1102, 1103, 1104, 1105, 1106, 1107, 1108, 1109, 1110, 1111, 1112, 1113, 335, 1206, 1207, 1208, 1209, 1211, 1212, 1213, 60, 1214, 1215, 1216, 1217, 1218, 1219, 1220, 1221, 1222, 1223, 1224, 1225, 1226, 1227, 1228, 1229, 1230, 1231, 1232, 1233, 1234, 1235, 1236, 1237, 1238, 1239, 1240, 1241, 1242, 1243, 1244, 1245, 1246, 1247, 1248, 1249, 1129, 1250, 1251, 1252, 1253, 1254, 1255, 1256, 1257, 1258, 1259, 1260, 1261, 1262, 1263, 1264, 1265, 1266, 1267, 1268, 1269, 1270, 1271, 1272, 1273, 1274, 1275, 1276, 1277, 1278, 1279, 1280, 1281, 1282, 1283, 1466, 1467, 1468, 1469, 1470, 1471, 1472, 926, 1473, 1474, 1475, 1476, 1477, 1478, 1479, 1480, 1481, 1482, 1483, 1124, 1125, 1126, 1127, 1128, 1130, 1131, 1132, 1133, 1134, 1135, 1136, 1137, 1138, 1139, 1140, 1141, 334, 1142, 287, 95, 288, 1143, 1144, 1145, 1146, 1147, 1148, 1149, 1150, 1151, 1152, 1153, 1154, 238, 1155, 1156, 1157, 1158, 1159, 1160, 1161, 1162, 1163, 1164, 1165, 530, 531, 1166, 533, 534, 535, 2355, 2356, 2357, 2358, 2359, 2360, 2361, 2362, 2363, 2364, 2365, 2366, 2367, 2368, 2369, 2370, 2371, 2372, 2373, 2374, 2375, 2376, 2377, 2378, 2379, 2380, 2381, 2382, 2523, 2524, 2525, 2526, 2527, 2528, 2529, 2530, 2531, 2532, 2533, 2534, 2535, 2536, 2537, 2538, 2539, 2540, 2541, 2542, 2543, 2544, 2545, 2546, 2547, 2548, 2549, 2499, 2500, 2501, 2502, 2503, 2504, 2505, 2506, 2507, 2508, 2509, 2510, 2511, 2512, 2513, 2514, 2515, 2516, 2517, 2518, 2519, 2520, 2521, 2522, 2550, 2551, 2552, 2553] (by decide +kernel) (by decide +kernel)) (goodIn_sub (fun _ h => List.mem_append_left _ (List.mem_append_left _ (List.mem_append_left _ (List.mem_append_left _ (List.mem_append_left _ (List.mem_append_left _ (List.mem_append_right _ h))))))) (by decide +kernel))
set_option maxRecDepth 20000 in
theorem gL_law_X18_assume : GoodIn wsL_law (wsV RL 275 RX18 yX18_assume wsX18_assume) := goodIn_app (goodIn_of _ (by decide +kernel)) ggL_law_X18_assume
set_option maxRecDepth 20000 in
theorem ggL_law_L_cameBy : GoodIn wsL_law wsL_cameBy := goodIn_ca (goodIn_ca (goodIn_r _ [1499, 461, 1500, 1501, 1502, 2, 1503, 38, 1504, 1505, 1506, 1507, 470, 471, 1399, 1508, 1509, 1510, 37, 1511, 159, 983, 984, 985, 986, 987, 2341, 2342, 2343, 2344, 2345, 2346, 2347, 2348, 2349, 2350, 2351, 2352, 2353, 2354, 2433, 2434, 2435, 2436, 2437, 2438, 2439, 2440, 2441, 2442, 2443, 2444] (by decide +kernel) (by decide +kernel)) (goodIn_sub (fun _ h => List.mem_append_left _ (List.mem_append_left _ (List.mem_append_left _ (List.mem_append_left _ (List.mem_append_left _ (List.mem_append_left _ (List.mem_append_right _ h))))))) (by decide +kernel))) (goodIn_sub (fun _ h => List.mem_append_left _ (List.mem_append_left _ (List.mem_append_left _ (List.mem_append_right _ h)))) (by decide +kernel))
set_option maxRecDepth 20000 in
theorem gL_law_L_cameBy : GoodIn wsL_law (va_wsS RL 276 yL_cameBy wsL_cameBy) := goodIn_app (goodIn_of _ (by decide +kernel)) ggL_law_L_cameBy
set_option maxRecDepth 20000 in
theorem ggL_law_X18_cameBy : GoodIn wsL_law wsX18_cameBy := goodIn_r _ [1515, 312, 1210, 1516, 1517, 1518, 5, 1519, 1520, 1521, 1522, 1523, 1093, 1094, 1095, 310, 1096, 1097, 380, 381, 382, 383, 384, 385, 386, 387, 1098, 1099, 1100, 1101, 1102, 1103, 1104, 1105, 1106, 1107, 1108, 1109, 1110, 1111, 1112, 1113, 335, 2355, 2356, 2357, 2358, 2359, 2360, 2361, 2362, 2363, 2364, 2365, 2366, 2367, 2368, 2369, 2370, 2371, 2372, 2373, 2374, 2375, 2376, 2377, 2378, 2379, 2380, 2381, 2382, 2540, 2541, 2542, 2543, 2544, 2545, 2546, 2547, 2548, 2549, 2499, 2500, 2501] (by decide +kernel) (by decide +kernel)
set_option maxRecDepth 20000 in
theorem gL_law_X18_cameBy : GoodIn wsL_law (wsV RL 278 RX18 yX18_cameBy wsX18_cameBy) := goodIn_app (goodIn_of _ (by decide +kernel)) ggL_law_X18_cameBy
set_option maxRecDepth 20000 in
theorem ggL_law_L_yearOf : GoodIn wsL_law wsL_yearOf := goodIn_ca (goodIn_ca (goodIn_r _ [1526, 461, 1527, 1528, 1529, 2, 1530, 38, 1504, 1505, 1506, 1507, 470, 471, 1399, 1531, 1532, 1533, 37, 1534, 155, 983, 984, 985, 986, 987, 2341, 2342, 2343, 2344, 2345, 2346, 2347, 2348, 2349, 2350, 2351, 2352, 2353, 2354, 2433, 2434, 2435, 2436, 2437, 2438, 2439, 2440, 2441, 2442, 2443, 2444] (by decide +kernel) (by decide +kernel)) (goodIn_sub (fun _ h => List.mem_append_left _ (List.mem_append_left _ (List.mem_append_left _ (List.mem_append_left _ (List.mem_append_left _ (List.mem_append_left _ (List.mem_append_right _ h))))))) (by decide +kernel))) (goodIn_sub (fun _ h => List.mem_append_left _ (List.mem_append_left _ (List.mem_append_left _ (List.mem_append_right _ h)))) (by decide +kernel))
set_option maxRecDepth 20000 in
theorem gL_law_L_yearOf : GoodIn wsL_law (va_wsS RL 279 yL_yearOf wsL_yearOf) := goodIn_app (goodIn_of _ (by decide +kernel)) ggL_law_L_yearOf
set_option maxRecDepth 20000 in
theorem ggL_law_X18_yearOf : GoodIn wsL_law wsX18_yearOf := goodIn_r _ [1538, 312, 1210, 1516, 1517, 1518, 5, 1519, 1520, 1521, 1522, 1523, 1093, 1094, 1095, 310, 1096, 1097, 380, 381, 382, 383, 384, 385, 386, 387, 1098, 1099, 1100, 1101, 1102, 1103, 1104, 1105, 1106, 1107, 1108, 1109, 1110, 1111, 1112, 1113, 335, 2355, 2356, 2357, 2358, 2359, 2360, 2361, 2362, 2363, 2364, 2365, 2366, 2367, 2368, 2369, 2370, 2371, 2372, 2373, 2374, 2375, 2376, 2377, 2378, 2379, 2380, 2381, 2382, 2540, 2541, 2542, 2543, 2544, 2545, 2546, 2547, 2548, 2549, 2499, 2500, 2501] (by decide +kernel) (by decide +kernel)
set_option maxRecDepth 20000 in
theorem gL_law_X18_yearOf : GoodIn wsL_law (wsV RL 281 RX18 yX18_yearOf wsX18_yearOf) := goodIn_app (goodIn_of _ (by decide +kernel)) ggL_law_X18_yearOf
set_option maxRecDepth 20000 in
theorem ggL_law_L_borne : GoodIn wsL_law wsL_borne := goodIn_ca (goodIn_ca (goodIn_ca (goodIn_r _ [1541, 461, 1542, 1543, 1544, 2, 1545, 42, 935, 936, 937, 938, 470, 471, 34, 934, 1546, 1547, 1548, 1549, 716, 717, 1491, 1060, 1061, 41, 1062, 179, 169, 1009, 944, 945, 33, 946, 947, 2341, 2342, 2343, 2344, 2345, 2346, 2347, 2348, 2349, 2350, 2351, 2352, 2353, 2354, 2424, 2425, 2426, 2427, 2428, 2429, 2430, 2431, 2432, 2445, 2446, 2447, 2448, 2449, 2450, 2451, 2452, 2453, 2454, 2455] (by decide +kernel) (by decide +kernel)) (goodIn_sub (fun _ h => List.mem_append_left _ (List.mem_append_left _ (List.mem_append_left _ (List.mem_append_left _ (List.mem_append_left _ (List.mem_append_left _ (List.mem_append_right _ h))))))) (by decide +kernel))) (goodIn_sub (fun _ h => List.mem_append_left _ (List.mem_append_left _ (List.mem_append_left _ (List.mem_append_right _ h)))) (by decide +kernel))) (goodIn_sub (fun _ h => List.mem_append_left _ (List.mem_append_right _ h)) (by decide +kernel))
set_option maxRecDepth 20000 in
theorem gL_law_L_borne : GoodIn wsL_law (va_wsS RL 282 yL_borne wsL_borne) := goodIn_app (goodIn_of _ (by decide +kernel)) ggL_law_L_borne
set_option maxRecDepth 20000 in
theorem ggL_law_X18_borne : GoodIn wsL_law wsX18_borne := goodIn_ca (goodIn_r _ [1553, 311, 1085, 1202, 1203, 1204, 5, 1205, 1089, 1090, 1091, 1092, 1093, 1094, 1095, 310, 1096, 1097, 380, 381, 382, 383, 384, 385, 386, 387, 1098, 1099, 1100, 1101, 1102, 1103, 1104, 1105, 1106, 1107, 1108, 1109, 1110, 1111, 1112, 1113, 335, 1206, 1207, 1208, 1209, 312, 1210, 1211, 1212, 1213, 60, 1214, 1215, 1216, 1217, 1218, 1219, 1220, 1221, 12, 13, 1222, 1223, 1224, 1225, 1226, 1227, 1228, 1229, 1230, 1231, 1232, 1233, 1234, 1235, 1236, 1237, 1238, 1239, 1240, 1241, 1242, 1243, 1244, 1245, 1246, 1247, 1248, 1249, 1129, 1250, 1251, 1252, 1253, 1254, 1255, 1256, 1257, 1258, 1259, 1260, 1261, 1262, 1263, 1264, 1265, 1266, 1267, 1268, 1269, 1270, 1271, 1272, 1273, 1274, 1275, 1276, 1277, 1278, 1279, 1280, 1281, 1282, 1283, 2355, 2356, 2357, 2358, 2359, 2360, 2361, 2362, 2363, 2364, 2365, 2366, 2367, 2368, 2369, 2370, 2371, 2372, 2373, 2374, 2375, 2376, 2377, 2378, 2379, 2380, 2381, 2382, 2538, 2539, 2499, 2500, 2501, 2523, 2524, 2525, 2526, 2527, 2528, 2529, 2530, 2531, 2532, 2533, 2534, 2535, 2536, 2537, 2540, 2541, 2542, 2543, 2544, 2545, 2546, 2547, 2548, 2549, 2550, 2551, 2552, 2553] (by decide +kernel) (by decide +kernel)) (goodIn_sub (fun _ h => List.mem_append_left _ (List.mem_append_left _ (List.mem_append_left _ (List.mem_append_left _ (List.mem_append_left _ (List.mem_append_left _ (List.mem_append_right _ h))))))) (by decide +kernel))
set_option maxRecDepth 20000 in
theorem gL_law_X18_borne : GoodIn wsL_law (wsV RL 284 RX18 yX18_borne wsX18_borne) := goodIn_app (goodIn_of _ (by decide +kernel)) ggL_law_X18_borne
set_option maxRecDepth 20000 in
theorem ggL_law_L_differences : GoodIn wsL_law wsL_differences := goodIn_ca (goodIn_ca (goodIn_ca (goodIn_r _ [1556, 461, 1557, 1558, 1559, 2, 1560, 42, 935, 936, 937, 938, 470, 471, 34, 934, 1546, 1547, 1548, 1549, 716, 717, 1491, 1060, 1061, 41, 1062, 179, 169, 1009, 944, 945, 33, 946, 947, 1561, 1562, 1563, 1564, 173, 2341, 2342, 2343, 2344, 2345, 2346, 2347, 2348, 2349, 2350, 2351, 2352, 2353, 2354, 2424, 2425, 2426, 2427, 2428, 2429, 2430, 2431, 2432, 2445, 2446, 2447, 2448, 2449, 2450, 2451, 2452, 2453, 2454, 2455] (by decide +kernel) (by decide +kernel)) (goodIn_sub (fun _ h => List.mem_append_left _ (List.mem_append_left _ (List.mem_append_left _ (List.mem_append_left _ (List.mem_append_left _ (List.mem_append_left _ (List.mem_append_right _ h))))))) (by decide +kernel))) (goodIn_sub (fun _ h => List.mem_append_left _ (List.mem_append_left _ (List.mem_append_left _ (List.mem_append_right _ h)))) (by decide +kernel))) (goodIn_sub (fun _ h => List.mem_append_left _ (List.mem_append_right _ h)) (by decide +kernel))
set_option maxRecDepth 20000 in
theorem gL_law_L_differences : GoodIn wsL_law (va_wsS RL 285 yL_differences wsL_differences) := goodIn_app (goodIn_of _ (by decide +kernel)) ggL_law_L_differences
set_option maxRecDepth 20000 in
theorem ggL_law_X18_differences : GoodIn wsL_law wsX18_differences := goodIn_ca (goodIn_r _ [1568, 311, 1085, 1202, 1203, 1204, 5, 1205, 1089, 1090, 1091, 1092, 1093, 1094, 1095, 310, 1096, 1097, 380, 381, 382, 383, 384, 385, 386, 387, 1098, 1099, 1100, 1101, 1102, 1103, 1104, 1105, 1106, 1107, 1108, 1109, 1110, 1111, 1112, 1113, 335, 1206, 1207, 1208, 1209, 312, 1210, 1211, 1212, 1213, 60, 1214, 1215, 1216, 1217, 1218, 1219, 1220, 1221, 12, 13, 1222, 1223, 1224, 1225, 1226, 1227, 1228, 1229, 1230, 1231, 1232, 1233, 1234, 1235, 1236, 1237, 1238, 1239, 1240, 1241, 1242, 1243, 1244, 1245, 1246, 1247, 1248, 1249, 1129, 1250, 1251, 1252, 1253, 1254, 1255, 1256, 1257, 1258, 1259, 1260, 1261, 1262, 1263, 1264, 1265, 1266, 1267, 1268, 1269, 1270, 1271, 1272, 1273, 1274, 1275, 1276, 1277, 1278, 1279, 1280, 1281, 1282, 1283, 2355, 2356, 2357, 2358, 2359, 2360, 2361, 2362, 2363, 2364, 2365, 2366, 2367, 2368, 2369, 2370, 2371, 2372, 2373, 2374, 2375, 2376, 2377, 2378, 2379, 2380, 2381, 2382, 2538, 2539, 2499, 2500, 2501, 2523, 2524, 2525, 2526, 2527, 2528, 2529, 2530, 2531, 2532, 2533, 2534, 2535, 2536, 2537, 2540, 2541, 2542, 2543, 2544, 2545, 2546, 2547, 2548, 2549, 2550, 2551, 2552, 2553] (by decide +kernel) (by decide +kernel)) (goodIn_sub (fun _ h => List.mem_append_left _ (List.mem_append_left _ (List.mem_append_left _ (List.mem_append_left _ (List.mem_append_left _ (List.mem_append_left _ (List.mem_append_right _ h))))))) (by decide +kernel))
set_option maxRecDepth 20000 in
theorem gL_law_X18_differences : GoodIn wsL_law (wsV RL 287 RX18 yX18_differences wsX18_differences) := goodIn_app (goodIn_of _ (by decide +kernel)) ggL_law_X18_differences
set_option maxRecDepth 20000 in
theorem ggL_law_L_difference : GoodIn wsL_law wsL_difference := goodIn_ca (goodIn_ca (goodIn_ca (goodIn_r _ [1571, 461, 1572, 1573, 1574, 2, 1575, 716, 717, 42, 935, 936, 937, 938, 470, 471, 34, 934, 1546, 1547, 1548, 1549, 1491, 1060, 1061, 41, 1062, 179, 169, 1009, 944, 945, 33, 946, 947, 1561, 1562, 1563, 1564, 173, 1576, 1577, 1578, 1579, 172, 2341, 2342, 2343, 2344, 2345, 2346, 2347, 2348, 2349, 2350, 2351, 2352, 2353, 2354, 2424, 2425, 2426, 2427, 2428, 2429, 2430, 2431, 2432, 2445, 2446, 2447, 2448, 2449, 2450, 2451, 2452, 2453, 2454, 2455] (by decide +kernel) (by decide +kernel)) (goodIn_sub (fun _ h => List.mem_append_left _ (List.mem_append_left _ (List.mem_append_left _ (List.mem_append_left _ (List.mem_append_left _ (List.mem_append_left _ (List.mem_append_right _ h))))))) (by decide +kernel))) (goodIn_sub (fun _ h => List.mem_append_left _ (List.mem_append_right _ h)) (by decide +kernel))) (goodIn_sub (fun _ h => List.mem_append_left _ (List.mem_append_left _ (List.mem_append_left _ (List.mem_append_right _ h)))) (by decide +kernel))
set_option maxRecDepth 20000 in
theorem gL_law_L_difference : GoodIn wsL_law (va_wsS RL 288 yL_difference wsL_difference) := goodIn_app (goodIn_of _ (by decide +kernel)) ggL_law_L_difference
set_option maxRecDepth 20000 in
theorem ggL_law_X18_difference : GoodIn wsL_law wsX18_difference := goodIn_ca (goodIn_r _ [1583, 311, 1085, 1202, 1203, 1204, 5, 1205, 1089, 1090, 1091, 1092, 1093, 1094, 1095, 310, 1096, 1097, 380, 381, 382, 383, 384, 385, 386, 387, 1098, 1099, 1100, 1101, 1102, 1103, 1104, 1105, 1106, 1107, 1108, 1109, 1110, 1111, 1112, 1113, 335, 1206, 1207, 1208, 1209, 312, 1210, 1211, 1212, 1213, 60, 1214, 1215, 1216, 1217, 1218, 1219, 1220, 1221, 12, 13, 1222, 1223, 1224, 1225, 1226, 1227, 1228, 1229, 1230, 1231, 1232, 1233, 1234, 1235, 1236, 1237, 1238, 1239, 1240, 1241, 1242, 1243, 1244, 1245, 1246, 1247, 1248, 1249, 1129, 1250, 1251, 1252, 1253, 1254, 1255, 1256, 1257, 1258, 1259, 1260, 1261, 1262, 1263, 1264, 1265, 1266, 1267, 1268, 1269, 1270, 1271, 1272, 1273, 1274, 1275, 1276, 1277, 1278, 1279, 1280, 1281, 1282, 1283, 2355, 2356, 2357, 2358, 2359, 2360, 2361, 2362, 2363, 2364, 2365, 2366, 2367, 2368, 2369, 2370, 2371, 2372, 2373, 2374, 2375, 2376, 2377, 2378, 2379, 2380, 2381, 2382, 2538, 2539, 2499, 2500, 2501, 2523, 2524, 2525, 2526, 2527, 2528, 2529, 2530, 2531, 2532, 2533, 2534, 2535, 2536, 2537, 2540, 2541, 2542, 2543, 2544, 2545, 2546, 2547, 2548, 2549, 2550, 2551, 2552, 2553] (by decide +kernel) (by decide +kernel)) (goodIn_sub (fun _ h => List.mem_append_left _ (List.mem_append_left _ (List.mem_append_left _ (List.mem_append_left _ (List.mem_append_left _ (List.mem_append_left _ (List.mem_append_right _ h))))))) (by decide +kernel))
set_option maxRecDepth 20000 in
theorem gL_law_X18_difference : GoodIn wsL_law (wsV RL 290 RX18 yX18_difference wsX18_difference) := goodIn_app (goodIn_of _ (by decide +kernel)) ggL_law_X18_difference
set_option maxRecDepth 20000 in
theorem ggL_law_L_isInAbeyance : GoodIn wsL_law wsL_isInAbeyance := goodIn_ca (goodIn_ca (goodIn_r _ [1586, 461, 1587, 1588, 1589, 2, 1590, 42, 1504, 1505, 1506, 1507, 470, 471, 38, 1399, 1591, 1194, 1195, 41, 1196, 177, 178, 2341, 2342, 2343, 2344, 2345, 2346, 2347, 2348, 2349, 2350, 2351, 2352, 2353, 2354, 2433, 2434, 2435, 2436, 2437, 2438, 2439, 2440, 2441, 2442, 2443, 2444, 2445, 2446, 2447, 2448, 2449, 2450, 2451, 2452, 2453, 2454, 2455] (by decide +kernel) (by decide +kernel)) (goodIn_sub (fun _ h => List.mem_append_left _ (List.mem_append_left _ (List.mem_append_left _ (List.mem_append_left _ (List.mem_append_left _ (List.mem_append_left _ (List.mem_append_right _ h))))))) (by decide +kernel))) (goodIn_sub (fun _ h => List.mem_append_left _ (List.mem_append_left _ (List.mem_append_left _ (List.mem_append_right _ h)))) (by decide +kernel))
set_option maxRecDepth 20000 in
theorem gL_law_L_isInAbeyance : GoodIn wsL_law (va_wsS RL 291 yL_isInAbeyance wsL_isInAbeyance) := goodIn_app (goodIn_of _ (by decide +kernel)) ggL_law_L_isInAbeyance
set_option maxRecDepth 20000 in
theorem ggL_law_X18_isInAbeyance : GoodIn wsL_law wsX18_isInAbeyance := goodIn_r _ [1595, 1516, 1517, 1518, 5, 1519, 1520, 1521, 1522, 1523, 312, 1093, 1094, 1095, 310, 1096, 1097, 380, 381, 382, 383, 384, 385, 386, 387, 1288, 1289, 1290, 1291, 1292, 1293, 1294, 1295, 311, 1085, 1228, 1229, 1230, 1231, 1210, 1098, 1099, 1100, 1101, 1102, 1103, 1104, 1105, 1106, 1107, 1108, 1109, 1110, 1111, 1112, 1113, 335, 1232, 1233, 1234, 1235, 1236, 1237, 1238, 1239, 1240, 1241, 1242, 1243, 1244, 1245, 1246, 1247, 12, 13, 1248, 1249, 1129, 1250, 1251, 1252, 1253, 1254, 1255, 1256, 1257, 1258, 1259, 1260, 1261, 1262, 1263, 1264, 1265, 1266, 1267, 1268, 1269, 1270, 1271, 1272, 1273, 1274, 1275, 1276, 1224, 1225, 1226, 1227, 2355, 2356, 2357, 2358, 2359, 2360, 2361, 2362, 2363, 2364, 2365, 2366, 2367, 2368, 2369, 2370, 2371, 2372, 2373, 2374, 2375, 2376, 2377, 2378, 2379, 2380, 2381, 2382, 2499, 2500, 2501, 2540, 2541, 2542, 2543, 2544, 2545, 2546, 2547, 2548, 2549, 2523, 2524, 2525, 2526, 2527, 2528, 2529, 2530, 2531, 2532, 2533, 2534, 2535, 2536, 2537, 2550, 2551, 2552, 2553, 2538, 2539] (by decide +kernel) (by decide +kernel)
set_option maxRecDepth 20000 in
theorem gL_law_X18_isInAbeyance : GoodIn wsL_law (wsV RL 293 RX18 yX18_isInAbeyance wsX18_isInAbeyance) := goodIn_app (goodIn_of _ (by decide +kernel)) ggL_law_X18_isInAbeyance
set_option maxRecDepth 20000 in
theorem ggL_law_L_call : GoodIn wsL_law wsL_call := goodIn_ca (goodIn_ca (goodIn_ca (goodIn_r _ [1598, 461, 1599, 1600, 1601, 2, 1602, 476, 477, 42, 38, 1504, 1505, 1506, 1507, 470, 471, 1399, 935, 936, 937, 938, 34, 934, 1591, 1194, 1195, 41, 1196, 177, 178, 1603, 1604, 1605, 1606, 176, 179, 1014, 1015, 1016, 33, 1017, 143, 137, 943, 944, 945, 946, 947, 993, 994, 995, 996, 140, 1607, 1608, 1609, 37, 1610, 156, 983, 984, 985, 986, 987, 961, 962, 963, 964, 50, 965, 966, 967, 968, 180, 969, 970, 169, 170, 971, 972, 973, 974, 975, 976, 977, 978, 979, 980, 981, 982, 154, 988, 989, 990, 991, 159, 992, 940, 941, 942, 997, 998, 999, 1000, 141, 1001, 1002, 1003, 1004, 1005, 1006, 1007, 1008, 173, 1009, 1010, 1011, 1012, 1013, 1018, 1019, 1020, 1021, 1022, 1023, 1024, 1025, 1026, 530, 95, 531, 172, 1027, 533, 534, 535, 1028, 1029, 1030, 1031, 1032, 1033, 1034, 1035, 1036, 1037, 1038, 1039, 1040, 1041, 958, 959, 960, 1042, 1043, 1044, 1045, 1046, 1047, 1048, 1049, 1050, 1051, 1052, 1053, 957, 1054, 1055, 1056, 49, 1057, 203, 1058, 199, 205, 1059, 1060, 1061, 1062, 1063, 1064, 1065, 1066, 197, 198, 1067, 1068, 1069, 1070, 1071, 1072, 1073, 1074, 1075, 1076, 138, 1077, 1078, 1079, 1080, 174, 1611, 1612, 1613, 1614, 2341, 2342, 2343, 2344, 2345, 2346, 2347, 2348, 2349, 2350, 2351, 2352, 2353, 2354, 2433, 2434, 2435, 2436, 2437, 2438, 2439, 2440, 2441, 2442, 2443, 2444, 2424, 2425, 2426, 2427, 2428, 2429, 2430, 2431, 2432, 2445, 2446, 2447, 2448, 2449, 2450, 2451, 2452, 2453, 2454, 2455, 2463, 2464, 2465, 2466, 2467, 2468, 2469, 2470, 2471, 2472] (by decide +kernel) (by decide +kernel)) (goodIn_sub (fun _ h => List.mem_append_left _ (List.mem_append_left _ (List.mem_append_left _ (List.mem_append_left _ (List.mem_append_left _ (List.mem_append_left _ (List.mem_append_right _ h))))))) (by decide +kernel))) (goodIn_sub (fun _ h => List.mem_append_left _ (List.mem_append_left _ (List.mem_append_right _ h))) (by decide +kernel))) (goodIn_sub (fun _ h => List.mem_append_left _ (List.mem_append_left _ (List.mem_append_left _ (List.mem_append_right _ h)))) (by decide +kernel))
set_option maxRecDepth 20000 in
theorem gL_law_L_call : GoodIn wsL_law (va_wsS RL 294 yL_call wsL_call) := goodIn_app (goodIn_of _ (by decide +kernel)) ggL_law_L_call
set_option maxRecDepth 20000 in
theorem ggL_law_X18_call : GoodIn wsL_law wsX18_call := goodIn_r _ [1618, 311, 1085, 312, 1210, 1520, 1521, 1522, 5, 1523, 1093, 1094, 1095, 310, 1096, 1097, 380, 381, 382, 1089, 1090, 1091, 1092, 383, 384, 385, 386, 387, 1288, 1289, 1290, 1291, 1292, 1293, 1294, 1295, 1228, 1229, 1230, 1231, 1098, 1099, 1100, 1101, 1102, 1103, 1104, 1105, 1106, 1107, 1108, 1109, 1110, 1111, 1112, 1113, 335, 1232, 1233, 1234, 1235, 1236, 1237, 1238, 1239, 1240, 1241, 1242, 1243, 1244, 1245, 1246, 1247, 12, 13, 1248, 1249, 1129, 1250, 1251, 1252, 1253, 1254, 1255, 1256, 1257, 1258, 1259, 1260, 1261, 1262, 1263, 1264, 1265, 1266, 1267, 1268, 1269, 1270, 1271, 1272, 1273, 1274, 1275, 1276, 1224, 1225, 1226, 1227, 2355, 2356, 2357, 2358, 2359, 2360, 2361, 2362, 2363, 2364, 2365, 2366, 2367, 2368, 2369, 2370, 2371, 2372, 2373, 2374, 2375, 2376, 2377, 2378, 2379, 2380, 2381, 2382, 2540, 2541, 2542, 2543, 2544, 2545, 2546, 2547, 2548, 2549, 2499, 2500, 2501, 2523, 2524, 2525, 2526, 2527, 2528, 2529, 2530, 2531, 2532, 2533, 2534, 2535, 2536, 2537, 2550, 2551, 2552, 2553, 2538, 2539] (by decide +kernel) (by decide +kernel)
set_option maxRecDepth 20000 in
theorem gL_law_X18_call : GoodIn wsL_law (wsV RL 296 RX18 yX18_call wsX18_call) := goodIn_app (goodIn_of _ (by decide +kernel)) ggL_law_X18_call
set_option maxRecDepth 20000 in
theorem ggL_law_L_isExtinct : GoodIn wsL_law wsL_isExtinct := goodIn_ca (goodIn_ca (goodIn_r _ [1621, 461, 1622, 1623, 1624, 2, 1625, 42, 1504, 1505, 1506, 1507, 470, 471, 38, 1399, 1626, 1627, 1628, 41, 1629, 179, 970, 169, 993, 994, 995, 33, 996, 140, 943, 944, 945, 946, 947, 1591, 1194, 1195, 1196, 177, 178, 2341, 2342, 2343, 2344, 2345, 2346, 2347, 2348, 2349, 2350, 2351, 2352, 2353, 2354, 2433, 2434, 2435, 2436, 2437, 2438, 2439, 2440, 2441, 2442, 2443, 2444, 2445, 2446, 2447, 2448, 2449, 2450, 2451, 2452, 2453, 2454, 2455, 2424, 2425, 2426, 2427, 2428, 2429, 2430, 2431, 2432] (by decide +kernel) (by decide +kernel)) (goodIn_sub (fun _ h => List.mem_append_left _ (List.mem_append_left _ (List.mem_append_left _ (List.mem_append_left _ (List.mem_append_left _ (List.mem_append_left _ (List.mem_append_right _ h))))))) (by decide +kernel))) (goodIn_sub (fun _ h => List.mem_append_left _ (List.mem_append_left _ (List.mem_append_left _ (List.mem_append_right _ h)))) (by decide +kernel))
set_option maxRecDepth 20000 in
theorem gL_law_L_isExtinct : GoodIn wsL_law (va_wsS RL 297 yL_isExtinct wsL_isExtinct) := goodIn_app (goodIn_of _ (by decide +kernel)) ggL_law_L_isExtinct
set_option maxRecDepth 20000 in
theorem ggL_law_X18_isExtinct : GoodIn wsL_law wsX18_isExtinct := goodIn_ca (goodIn_r _ [1633, 1516, 1517, 1518, 5, 1519, 1520, 1521, 1522, 1523, 312, 1093, 1094, 1095, 310, 1096, 1097, 380, 381, 382, 383, 384, 385, 386, 387, 1634, 1635, 1636, 1637, 311, 1085, 1236, 1237, 1238, 1239, 1240, 1241, 1242, 1243, 1244, 1245, 1246, 1247, 12, 13, 1248, 1249, 1129, 1250, 1251, 1252, 1253, 1254, 1255, 1256, 1257, 1258, 1259, 1260, 1261, 1262, 1263, 1264, 1206, 1207, 1208, 1209, 1210, 1211, 1212, 1213, 60, 1214, 1215, 1216, 1217, 1098, 1099, 1100, 1101, 1102, 1103, 1104, 1105, 1106, 1107, 1108, 1109, 1110, 1111, 1112, 1113, 335, 1218, 1219, 1220, 1221, 1222, 1223, 1224, 1225, 1226, 1227, 1228, 1229, 1230, 1231, 1232, 1233, 1234, 1235, 1265, 1266, 1267, 1268, 1269, 1270, 1271, 1272, 1273, 1274, 1275, 1276, 1277, 1278, 1279, 1280, 1281, 1282, 1283, 1288, 1289, 1290, 1291, 1292, 1293, 1294, 1295, 2355, 2356, 2357, 2358, 2359, 2360, 2361, 2362, 2363, 2364, 2365, 2366, 2367, 2368, 2369, 2370, 2371, 2372, 2373, 2374, 2375, 2376, 2377, 2378, 2379, 2380, 2381, 2382, 2499, 2500, 2501, 2523, 2524, 2525, 2526, 2527, 2528, 2529, 2530, 2531, 2532, 2533, 2534, 2535, 2536, 2537, 2538, 2539, 2550, 2551, 2552, 2553, 2540, 2541, 2542, 2543, 2544, 2545, 2546, 2547, 2548, 2549] (by decide +kernel) (by decide +kernel)) (goodIn_sub (fun _ h => List.mem_append_left _ (List.mem_append_left _ (List.mem_append_left _ (List.mem_append_left _ (List.mem_append_left _ (List.mem_append_left _ (List.mem_append_right _ h))))))) (by decide +kernel))
set_option maxRecDepth 20000 in
theorem gL_law_X18_isExtinct : GoodIn wsL_law (wsV RL 299 RX18 yX18_isExtinct wsX18_isExtinct) := goodIn_app (goodIn_of _ (by decide +kernel)) ggL_law_X18_isExtinct
set_option maxRecDepth 20000 in
theorem ggL_law_L_bearers : GoodIn wsL_law wsL_bearers := goodIn_ca (goodIn_ca (goodIn_r _ [1640, 461, 1641, 1642, 1643, 2, 1644, 42, 1504, 1505, 1506, 1507, 470, 471, 38, 1399, 1626, 1627, 1628, 41, 1629, 179, 970, 169, 993, 994, 995, 33, 996, 140, 943, 944, 945, 946, 947, 2341, 2342, 2343, 2344, 2345, 2346, 2347, 2348, 2349, 2350, 2351, 2352, 2353, 2354, 2433, 2434, 2435, 2436, 2437, 2438, 2439, 2440, 2441, 2442, 2443, 2444, 2445, 2446, 2447, 2448, 2449, 2450, 2451, 2452, 2453, 2454, 2455, 2424, 2425, 2426, 2427, 2428, 2429, 2430, 2431, 2432] (by decide +kernel) (by decide +kernel)) (goodIn_sub (fun _ h => List.mem_append_left _ (List.mem_append_left _ (List.mem_append_left _ (List.mem_append_left _ (List.mem_append_left _ (List.mem_append_left _ (List.mem_append_right _ h))))))) (by decide +kernel))) (goodIn_sub (fun _ h => List.mem_append_left _ (List.mem_append_left _ (List.mem_append_left _ (List.mem_append_right _ h)))) (by decide +kernel))
set_option maxRecDepth 20000 in
theorem gL_law_L_bearers : GoodIn wsL_law (va_wsS RL 300 yL_bearers wsL_bearers) := goodIn_app (goodIn_of _ (by decide +kernel)) ggL_law_L_bearers
set_option maxRecDepth 20000 in
theorem ggL_law_X18_bearers : GoodIn wsL_law wsX18_bearers := goodIn_ca (goodIn_r _ [1648, 1516, 1517, 1518, 5, 1519, 1520, 1521, 1522, 1523, 312, 1093, 1094, 1095, 310, 1096, 1097, 380, 381, 382, 383, 384, 385, 386, 387, 1634, 1635, 1636, 1637, 311, 1085, 1236, 1237, 1238, 1239, 1240, 1241, 1242, 1243, 1244, 1245, 1246, 1247, 12, 13, 1248, 1249, 1129, 1250, 1251, 1252, 1253, 1254, 1255, 1256, 1257, 1258, 1259, 1260, 1261, 1262, 1263, 1264, 1206, 1207, 1208, 1209, 1210, 1211, 1212, 1213, 60, 1214, 1215, 1216, 1217, 1098, 1099, 1100, 1101, 1102, 1103, 1104, 1105, 1106, 1107, 1108, 1109, 1110, 1111, 1112, 1113, 335, 1218, 1219, 1220, 1221, 1222, 1223, 1224, 1225, 1226, 1227, 1228, 1229, 1230, 1231, 1232, 1233, 1234, 1235, 1265, 1266, 1267, 1268, 1269, 1270, 1271, 1272, 1273, 1274, 1275, 1276, 1277, 1278, 1279, 1280, 1281, 1282, 1283, 2355, 2356, 2357, 2358, 2359, 2360, 2361, 2362, 2363, 2364, 2365, 2366, 2367, 2368, 2369, 2370, 2371, 2372, 2373, 2374, 2375, 2376, 2377, 2378, 2379, 2380, 2381, 2382, 2499, 2500, 2501, 2523, 2524, 2525, 2526, 2527, 2528, 2529, 2530, 2531, 2532, 2533, 2534, 2535, 2536, 2537, 2538, 2539, 2550, 2551, 2552, 2553, 2540, 2541, 2542, 2543, 2544, 2545, 2546, 2547, 2548, 2549] (by decide +kernel) (by decide +kernel)) (goodIn_sub (fun _ h => List.mem_append_left _ (List.mem_append_left _ (List.mem_append_left _ (List.mem_append_left _ (List.mem_append_left _ (List.mem_append_left _ (List.mem_append_right _ h))))))) (by decide +kernel))
set_option maxRecDepth 20000 in
theorem gL_law_X18_bearers : GoodIn wsL_law (wsV RL 302 RX18 yX18_bearers wsX18_bearers) := goodIn_app (goodIn_of _ (by decide +kernel)) ggL_law_X18_bearers
set_option maxRecDepth 20000 in
theorem ggL_law_L_ofArms : GoodIn wsL_law wsL_ofArms := goodIn_ca (goodIn_ca (goodIn_r _ [1651, 461, 1652, 1653, 1654, 2, 1655, 38, 1504, 1505, 1506, 1507, 470, 471, 1399, 466, 467, 468, 469, 1656, 1657, 1658, 37, 1659, 152, 1386, 1387, 1388, 1389, 983, 984, 985, 986, 987, 1660, 591, 24, 592, 2341, 2342, 2343, 2344, 2345, 2346, 2347, 2348, 2349, 2350, 2351, 2352, 2353, 2354, 2433, 2434, 2435, 2436, 2437, 2438, 2439, 2440, 2441, 2442, 2443, 2444] (by decide +kernel) (by decide +kernel)) (goodIn_sub (fun _ h => List.mem_append_left _ (List.mem_append_left _ (List.mem_append_left _ (List.mem_append_left _ (List.mem_append_left _ (List.mem_append_left _ (List.mem_append_right _ h))))))) (by decide +kernel))) (goodIn_sub (fun _ h => List.mem_append_left _ (List.mem_append_left _ (List.mem_append_left _ (List.mem_append_right _ h)))) (by decide +kernel))
set_option maxRecDepth 20000 in
theorem gL_law_L_ofArms : GoodIn wsL_law (va_wsS RL 303 yL_ofArms wsL_ofArms) := goodIn_app (goodIn_of _ (by decide +kernel)) ggL_law_L_ofArms
set_option maxRecDepth 20000 in
theorem ggL_law_X18_ofArms : GoodIn wsL_law wsX18_ofArms := goodIn_ca (goodIn_r _ [1664, 60, 320, 1520, 1521, 1522, 5, 1523, 312, 1093, 1094, 1095, 310, 1096, 1097, 380, 381, 382, 597, 598, 599, 383, 384, 385, 386, 387, 1442, 1443, 1444, 1445, 1210, 314, 315, 316, 1098, 1099, 1100, 1101, 1102, 1103, 1104, 1105, 1106, 1107, 1108, 1109, 1110, 1111, 1112, 1113, 335, 346, 347, 348, 12, 13, 349, 350, 1446, 1447, 1448, 1449, 1450, 1451, 1452, 1453, 448, 1454, 445, 446, 447, 449, 450, 451, 452, 453, 1455, 842, 843, 844, 845, 846, 847, 848, 849, 850, 851, 852, 853, 854, 855, 856, 857, 1456, 1457, 1458, 1459, 444, 1460, 1461, 1462, 604, 605, 606, 607, 319, 608, 609, 610, 611, 94, 95, 96, 612, 613, 614, 615, 616, 617, 618, 619, 620, 621, 622, 623, 624, 625, 626, 627, 628, 629, 630, 631, 632, 633, 634, 635, 636, 637, 638, 639, 640, 2355, 2356, 2357, 2358, 2359, 2360, 2361, 2362, 2363, 2364, 2365, 2366, 2367, 2368, 2369, 2370, 2371, 2372, 2373, 2374, 2375, 2376, 2377, 2378, 2379, 2380, 2381, 2382, 2499, 2500, 2501, 2502, 2503, 2504, 2505, 2506, 2507, 2540, 2541, 2542, 2543, 2544, 2545, 2546, 2547, 2548, 2549, 2508, 2509, 2510, 2511, 2512, 2513, 2514, 2515, 2516, 2517, 2518, 2519, 2520, 2521, 2522] (by decide +kernel) (by decide +kernel)) (goodIn_sub (fun _ h => List.mem_append_left _ (List.mem_append_left _ (List.mem_append_left _ (List.mem_append_left _ (List.mem_append_left _ (List.mem_append_left _ (List.mem_append_right _ h))))))) (by decide +kernel))
set_option maxRecDepth 20000 in
theorem gL_law_X18_ofArms : GoodIn wsL_law (wsV RL 306 RX18 yX18_ofArms wsX18_ofArms) := goodIn_app (goodIn_of _ (by decide +kernel)) ggL_law_X18_ofArms
set_option maxRecDepth 20000 in
theorem ggL_law_L_ofShield : GoodIn wsL_law wsL_ofShield := goodIn_ca (goodIn_ca (goodIn_ca (goodIn_r _ [1667, 461, 1668, 1669, 1670, 2, 1671, 50, 26, 935, 936, 937, 938, 470, 471, 34, 934, 466, 467, 468, 469, 1546, 1547, 1548, 1549, 716, 717, 42, 1491, 1060, 1061, 41, 1062, 179, 169, 1009, 944, 945, 33, 946, 947, 1672, 1673, 1674, 49, 1675, 203, 205, 202, 1676, 1677, 1678, 1679, 1680, 199, 201, 198, 1681, 1682, 1067, 1683, 1684, 1685, 1686, 204, 207, 1687, 1059, 1688, 1378, 1379, 37, 1380, 153, 983, 984, 985, 986, 987, 1689, 1690, 1691, 1692, 150, 1386, 1387, 1388, 1389, 1693, 1694, 1695, 1696, 172, 1697, 1562, 1563, 1564, 173, 1698, 1699, 16, 1700, 1701, 484, 485, 486, 487, 488, 489, 490, 491, 492, 493, 494, 495, 496, 497, 498, 61, 65, 499, 500, 501, 502, 503, 504, 24, 505, 506, 507, 84, 85, 83, 508, 509, 510, 237, 238, 239, 511, 512, 513, 514, 515, 516, 517, 518, 519, 520, 20, 521, 116, 522, 523, 524, 525, 67, 526, 527, 528, 66, 529, 530, 95, 531, 532, 533, 534, 535, 536, 537, 538, 539, 540, 541, 542, 543, 544, 545, 546, 547, 548, 549, 550, 551, 552, 64, 553, 554, 555, 556, 557, 558, 559, 560, 561, 562, 62, 563, 564, 565, 566, 567, 568, 569, 570, 571, 572, 573, 574, 575, 576, 577, 578, 579, 580, 581, 582, 583, 584, 585, 1702, 1703, 1704, 1705, 74, 1706, 261, 262, 73, 263, 264, 265, 266, 267, 268, 269, 270, 271, 272, 273, 274, 275, 276, 277, 278, 279, 280, 1707, 1708, 1709, 1710, 157, 1711, 1423, 1424, 1425, 1426, 1427, 1428, 1429, 1712, 1713, 1714, 1715, 1716, 1717, 1718, 1719, 1720, 940, 941, 942, 143, 943, 1721, 1304, 1305, 1306, 139, 1722, 1723, 1724, 1725, 206, 1726, 1727, 1728, 1729, 45, 1730, 190, 189, 1731, 994, 995, 996, 140, 1732, 1733, 1038, 1039, 1040, 137, 141, 1734, 1735, 1736, 1737, 1738, 287, 288, 586, 587, 588, 589, 590, 591, 592, 2341, 2342, 2343, 2344, 2345, 2346, 2347, 2348, 2349, 2350, 2351, 2352, 2353, 2354, 2424, 2425, 2426, 2427, 2428, 2429, 2430, 2431, 2432, 2445, 2446, 2447, 2448, 2449, 2450, 2451, 2452, 2453, 2454, 2455, 2463, 2464, 2465, 2466, 2467, 2468, 2469, 2470, 2471, 2472, 2396, 2397, 2398, 2399, 2400, 2401, 2402, 2403, 2404, 2405, 2406, 2407, 2433, 2434, 2435, 2436, 2437, 2438, 2439, 2440, 2441, 2442, 2443, 2444, 2383, 2384, 2385, 2386, 2387, 2388, 2389, 2390, 2391, 2392, 2393, 2394, 2395, 2408, 2409, 2410, 2411, 2412, 2486, 2487, 2488, 2489, 2490, 2491, 2492, 2493, 2494, 2495, 2496, 2497, 2498, 2456, 2457, 2458, 2459, 2460, 2461, 2462] (by decide +kernel) (by decide +kernel)) (goodIn_sub (fun _ h => List.mem_append_left _ (List.mem_append_left _ (List.mem_append_left _ (List.mem_append_left _ (List.mem_append_left _ (List.mem_append_left _ (List.mem_append_right _ h))))))) (by decide +kernel))) (goodIn_sub (fun _ h => List.mem_append_left _ (List.mem_append_left _ (List.mem_append_left _ (List.mem_append_right _ h)))) (by decide +kernel))) (goodIn_sub (fun _ h => List.mem_append_left _ (List.mem_append_right _ h)) (by decide +kernel))
set_option maxRecDepth 20000 in
theorem gL_law_L_ofShield : GoodIn wsL_law (va_wsS RL 307 yL_ofShield wsL_ofShield) := goodIn_app (goodIn_of _ (by decide +kernel)) ggL_law_L_ofShield
set_option maxRecDepth 20000 in
theorem ggL_law_X18_ofShield : GoodIn wsL_law wsX18_ofShield := goodIn_ca (goodIn_r _ [1742, 311, 1085, 329, 1089, 1090, 1091, 5, 1092, 1093, 1094, 1095, 310, 1096, 1097, 380, 381, 382, 597, 598, 599, 383, 384, 385, 386, 387, 1098, 1099, 1100, 1101, 1102, 1103, 1104, 1105, 1106, 1107, 1108, 1109, 1110, 1111, 1112, 1113, 335, 1206, 1207, 1208, 1209, 312, 1210, 1211, 1212, 1213, 60, 1214, 1215, 1216, 1217, 1218, 1219, 1220, 1221, 12, 13, 1222, 1223, 1224, 1225, 1226, 1227, 1228, 1229, 1230, 1231, 1232, 1233, 1234, 1235, 1236, 1237, 1238, 1239, 1240, 1241, 1242, 1243, 1244, 1245, 1246, 1247, 1248, 1249, 1129, 1250, 1251, 1252, 1253, 1254, 1255, 1256, 1257, 1258, 1259, 1260, 1261, 1262, 1263, 1264, 1265, 1266, 1267, 1268, 1269, 1270, 1271, 1272, 1273, 1274, 1275, 1276, 1277, 1278, 1279, 1280, 1281, 1282, 1283, 1743, 1744, 1745, 1746, 326, 328, 327, 320, 330, 1747, 1748, 1749, 1750, 1751, 1752, 1753, 1754, 1755, 1756, 1757, 1758, 1284, 1285, 1286, 1287, 1442, 1443, 1444, 1445, 314, 315, 316, 346, 347, 348, 349, 350, 1446, 1447, 1448, 1449, 1450, 1451, 1452, 1453, 448, 1454, 445, 446, 447, 449, 450, 451, 452, 453, 1455, 842, 843, 844, 845, 846, 847, 848, 849, 850, 851, 852, 853, 854, 855, 856, 857, 1456, 1457, 1458, 1459, 444, 1460, 1461, 1462, 604, 605, 606, 607, 319, 608, 609, 610, 611, 94, 95, 96, 612, 613, 614, 615, 616, 617, 618, 619, 620, 621, 622, 623, 624, 625, 626, 627, 628, 629, 630, 631, 632, 633, 634, 635, 636, 637, 638, 639, 640, 2355, 2356, 2357, 2358, 2359, 2360, 2361, 2362, 2363, 2364, 2365, 2366, 2367, 2368, 2369, 2370, 2371, 2372, 2373, 2374, 2375, 2376, 2377, 2378, 2379, 2380, 2381, 2382, 2499, 2500, 2501, 2523, 2524, 2525, 2526, 2527, 2528, 2529, 2530, 2531, 2532, 2533, 2534, 2535, 2536, 2537, 2538, 2539, 2540, 2541, 2542, 2543, 2544, 2545, 2546, 2547, 2548, 2549, 2550, 2551, 2552, 2553, 2502, 2503, 2504, 2505, 2506, 2507, 2508, 2509, 2510, 2511, 2512, 2513, 2514, 2515, 2516, 2517, 2518, 2519, 2520, 2521, 2522] (by decide +kernel) (by decide +kernel)) (goodIn_sub (fun _ h => List.mem_append_left _ (List.mem_append_left _ (List.mem_append_left _ (List.mem_append_left _ (List.mem_append_left _ (List.mem_append_left _ (List.mem_append_right _ h))))))) (by decide +kernel))
set_option maxRecDepth 20000 in
theorem gL_law_X18_ofShield : GoodIn wsL_law (wsV RL 309 RX18 yX18_ofShield wsX18_ofShield) := goodIn_app (goodIn_of _ (by decide +kernel)) ggL_law_X18_ofShield
set_option maxRecDepth 20000 in
theorem ggL_law_L_shield : GoodIn wsL_law wsL_shield := goodIn_ca (goodIn_ca (goodIn_ca (goodIn_ca (goodIn_r _ [1761, 461, 1762, 1763, 1764, 2, 1765, 50, 26, 17, 935, 936, 937, 938, 470, 471, 34, 934, 648, 649, 650, 651, 360, 361, 652, 653, 654, 655, 1546, 1547, 1548, 1549, 716, 717, 42, 1491, 1060, 1061, 41, 1062, 179, 169, 1009, 944, 945, 33, 946, 947, 1672, 1673, 1674, 49, 1675, 203, 205, 202, 1676, 1677, 1678, 1679, 1680, 199, 201, 198, 1681, 1682, 1067, 1683, 1684, 1685, 1686, 204, 207, 1687, 1059, 1688, 1378, 1379, 37, 1380, 153, 983, 984, 985, 986, 987, 1689, 1690, 1691, 1692, 150, 1386, 1387, 1388, 1389, 1693, 1694, 1695, 1696, 172, 1697, 1562, 1563, 1564, 173, 1698, 1699, 16, 1700, 1701, 484, 485, 486, 487, 488, 489, 490, 491, 492, 493, 494, 495, 496, 497, 498, 61, 65, 499, 500, 501, 502, 503, 504, 24, 505, 506, 507, 84, 85, 83, 508, 509, 510, 237, 238, 239, 511, 512, 513, 514, 515, 516, 517, 518, 519, 520, 20, 521, 116, 522, 523, 524, 525, 67, 526, 527, 528, 66, 529, 530, 95, 531, 532, 533, 534, 535, 536, 537, 538, 539, 540, 541, 542, 543, 544, 545, 546, 547, 548, 549, 550, 551, 552, 64, 553, 554, 555, 556, 557, 558, 559, 560, 561, 562, 62, 563, 564, 565, 566, 567, 568, 569, 570, 571, 572, 573, 574, 575, 576, 577, 578, 579, 580, 581, 582, 583, 584, 585, 1702, 1703, 1704, 1705, 74, 1706, 261, 262, 73, 263, 264, 265, 266, 267, 268, 269, 270, 271, 272, 273, 274, 275, 276, 277, 278, 279, 280, 1707, 1708, 1709, 1710, 157, 1711, 1423, 1424, 1425, 1426, 1427, 1428, 1429, 1712, 1713, 1714, 1715, 1716, 1717, 1718, 1719, 1720, 940, 941, 942, 143, 943, 1721, 1304, 1305, 1306, 139, 1722, 1723, 1724, 1725, 206, 1726, 1727, 1728, 1729, 45, 1730, 190, 189, 1731, 994, 995, 996, 140, 1732, 1733, 1038, 1039, 1040, 137, 141, 1734, 1735, 1736, 1737, 1738, 287, 288, 656, 657, 658, 659, 63, 660, 661, 662, 663, 664, 665, 666, 667, 668, 669, 670, 671, 672, 673, 2341, 2342, 2343, 2344, 2345, 2346, 2347, 2348, 2349, 2350, 2351, 2352, 2353, 2354, 2424, 2425, 2426, 2427, 2428, 2429, 2430, 2431, 2432, 2445, 2446, 2447, 2448, 2449, 2450, 2451, 2452, 2453, 2454, 2455, 2463, 2464, 2465, 2466, 2467, 2468, 2469, 2470, 2471, 2472, 2396, 2397, 2398, 2399, 2400, 2401, 2402, 2403, 2404, 2405, 2406, 2407, 2433, 2434, 2435, 2436, 2437, 2438, 2439, 2440, 2441, 2442, 2443, 2444, 2383, 2384, 2385, 2386, 2387, 2388, 2389, 2390, 2391, 2392, 2393, 2394, 2395, 2408, 2409, 2410, 2411, 2412, 2486, 2487, 2488, 2489, 2490, 2491, 2492, 2493, 2494, 2495, 2496, 2497, 2498, 2456, 2457, 2458, 2459, 2460, 2461, 2462] (by decide +kernel) (by decide +kernel)) (goodIn_sub (fun _ h => List.mem_append_left _ (List.mem_append_left _ (List.mem_append_left _ (List.mem_append_left _ (List.mem_append_left _ (List.mem_append_left _ (List.mem_append_right _ h))))))) (by decide +kernel))) (goodIn_sub (fun _ h => List.mem_append_left _ (List.mem_append_left _ (List.mem_append_left _ (List.mem_append_right _ h)))) (by decide +kernel))) (goodIn_sub (fun _ h => List.mem_append_left _ (List.mem_append_left _ (List.mem_append_left _ (List.mem_append_left _ (List.mem_append_left _ (List.mem_append_right _ h)))))) (by decide +kernel))) (goodIn_sub (fun _ h => List.mem_append_left _ (List.mem_append_right _ h)) (by decide +kernel))
set_option maxRecDepth 20000 in
theorem gL_law_L_shield : GoodIn wsL_law (va_wsS RL 310 yL_shield wsL_shield) := goodIn_app (goodIn_of _ (by decide +kernel)) ggL_law_L_shield
set_option maxRecDepth 20000 in
theorem ggL_law_X18_shield : GoodIn wsL_law wsX18_shield := goodIn_ca (goodIn_r _ [1769, 311, 1085, 329, 1202, 1203, 1204, 5, 1205, 1089, 1090, 1091, 1092, 1093, 1094, 1095, 310, 1096, 1097, 380, 381, 382, 383, 384, 385, 386, 387, 678, 679, 680, 1098, 1099, 1100, 1101, 1102, 1103, 1104, 1105, 1106, 1107, 1108, 1109, 1110, 1111, 1112, 1113, 335, 1206, 1207, 1208, 1209, 312, 1210, 1211, 1212, 1213, 60, 1214, 1215, 1216, 1217, 1218, 1219, 1220, 1221, 12, 13, 1222, 1223, 1224, 1225, 1226, 1227, 1228, 1229, 1230, 1231, 1232, 1233, 1234, 1235, 1236, 1237, 1238, 1239, 1240, 1241, 1242, 1243, 1244, 1245, 1246, 1247, 1248, 1249, 1129, 1250, 1251, 1252, 1253, 1254, 1255, 1256, 1257, 1258, 1259, 1260, 1261, 1262, 1263, 1264, 1265, 1266, 1267, 1268, 1269, 1270, 1271, 1272, 1273, 1274, 1275, 1276, 1277, 1278, 1279, 1280, 1281, 1282, 1283, 1743, 1744, 1745, 1746, 326, 328, 327, 320, 330, 1747, 1748, 1749, 1750, 1751, 1752, 1753, 1754, 1755, 1756, 1757, 1758, 1284, 1285, 1286, 1287, 1442, 1443, 1444, 1445, 314, 315, 316, 346, 347, 348, 349, 350, 1446, 1447, 1448, 1449, 1450, 1451, 1452, 1453, 448, 1454, 445, 446, 447, 449, 450, 451, 452, 453, 1455, 842, 843, 844, 845, 846, 847, 848, 849, 850, 851, 852, 853, 854, 855, 856, 857, 1456, 1457, 1458, 1459, 444, 1460, 1461, 1462, 604, 605, 606, 607, 319, 608, 609, 610, 611, 94, 95, 96, 612, 613, 614, 615, 616, 617, 618, 619, 620, 621, 622, 623, 624, 625, 626, 627, 628, 629, 630, 631, 632, 633, 634, 635, 636, 637, 638, 639, 640, 681, 682, 683, 684, 685, 686, 2355, 2356, 2357, 2358, 2359, 2360, 2361, 2362, 2363, 2364, 2365, 2366, 2367, 2368, 2369, 2370, 2371, 2372, 2373, 2374, 2375, 2376, 2377, 2378, 2379, 2380, 2381, 2382, 2499, 2500, 2501, 2523, 2524, 2525, 2526, 2527, 2528, 2529, 2530, 2531, 2532, 2533, 2534, 2535, 2536, 2537, 2538, 2539, 2540, 2541, 2542, 2543, 2544, 2545, 2546, 2547, 2548, 2549, 2550, 2551, 2552, 2553, 2502, 2503, 2504, 2505, 2506, 2507, 2508, 2509, 2510, 2511, 2512, 2513, 2514, 2515, 2516, 2517, 2518, 2519, 2520, 2521, 2522] (by decide +kernel) (by decide +kernel)) (goodIn_sub (fun _ h => List.mem_append_left _ (List.mem_append_left _ (List.mem_append_left _ (List.mem_append_left _ (List.mem_append_left _ (List.mem_append_left _ (List.mem_append_right _ h))))))) (by decide +kernel))
set_option maxRecDepth 20000 in
theorem gL_law_X18_shield : GoodIn wsL_law (wsV RL 312 RX18 yX18_shield wsX18_shield) := goodIn_app (goodIn_of _ (by decide +kernel)) ggL_law_X18_shield
set_option maxRecDepth 20000 in
theorem ggL_law_L_quarters : GoodIn wsL_law wsL_quarters := goodIn_ca (goodIn_ca (goodIn_r _ [1772, 461, 1773, 1774, 1775, 2, 1776, 50, 935, 936, 937, 938, 470, 471, 34, 934, 1777, 1778, 1779, 49, 1780, 203, 199, 1067, 944, 945, 33, 946, 947, 2341, 2342, 2343, 2344, 2345, 2346, 2347, 2348, 2349, 2350, 2351, 2352, 2353, 2354, 2424, 2425, 2426, 2427, 2428, 2429, 2430, 2431, 2432, 2463, 2464, 2465, 2466, 2467, 2468, 2469, 2470, 2471, 2472] (by decide +kernel) (by decide +kernel)) (goodIn_sub (fun _ h => List.mem_append_left _ (List.mem_append_left _ (List.mem_append_left _ (List.mem_append_left _ (List.mem_append_left _ (List.mem_append_left _ (List.mem_append_right _ h))))))) (by decide +kernel))) (goodIn_sub (fun _ h => List.mem_append_left _ (List.mem_append_left _ (List.mem_append_left _ (List.mem_append_right _ h)))) (by decide +kernel))
set_option maxRecDepth 20000 in
theorem gL_law_L_quarters : GoodIn wsL_law (va_wsS RL 313 yL_quarters wsL_quarters) := goodIn_app (goodIn_of _ (by decide +kernel)) ggL_law_L_quarters
set_option maxRecDepth 20000 in
theorem ggL_law_X18_quarters : GoodIn wsL_law wsX18_quarters := goodIn_ca (goodIn_r _ [1784, 326, 1202, 1203, 1204, 5, 1205, 1089, 1090, 1091, 1092, 311, 1093, 1094, 1095, 310, 1096, 1097, 380, 381, 382, 383, 384, 385, 386, 387, 1747, 1748, 1749, 1750, 1085, 1098, 1099, 1100, 1101, 1102, 1103, 1104, 1105, 1106, 1107, 1108, 1109, 1110, 1111, 1112, 1113, 335, 1206, 1207, 1208, 1209, 312, 1210, 1211, 1212, 1213, 60, 1214, 1215, 1216, 1217, 1218, 1219, 1220, 1221, 12, 13, 1222, 1223, 1224, 1225, 1226, 1227, 1228, 1229, 1230, 1231, 1232, 1233, 1234, 1235, 1236, 1237, 1238, 1239, 1240, 1241, 1242, 1243, 1244, 1245, 1246, 1247, 1248, 1249, 1129, 1250, 1251, 1252, 1253, 1254, 1255, 1256, 1257, 1258, 1259, 1260, 1261, 1262, 1263, 1264, 1265, 1266, 1267, 1268, 1269, 1270, 1271, 1272, 1273, 1274, 1275, 1276, 1277, 1278, 1279, 1280, 1281, 1282, 1283, 1751, 1752, 1753, 1754, 327, 328, 1755, 1756, 1757, 1758, 1284, 1285, 1286, 1287, 2355, 2356, 2357, 2358, 2359, 2360, 2361, 2362, 2363, 2364, 2365, 2366, 2367, 2368, 2369, 2370, 2371, 2372, 2373, 2374, 2375, 2376, 2377, 2378, 2379, 2380, 2381, 2382, 2499, 2500, 2501, 2538, 2539, 2523, 2524, 2525, 2526, 2527, 2528, 2529, 2530, 2531, 2532, 2533, 2534, 2535, 2536, 2537, 2540, 2541, 2542, 2543, 2544, 2545, 2546, 2547, 2548, 2549, 2550, 2551, 2552, 2553] (by decide +kernel) (by decide +kernel)) (goodIn_sub (fun _ h => List.mem_append_left _ (List.mem_append_left _ (List.mem_append_left _ (List.mem_append_left _ (List.mem_append_left _ (List.mem_append_left _ (List.mem_append_right _ h))))))) (by decide +kernel))
set_option maxRecDepth 20000 in
theorem gL_law_X18_quarters : GoodIn wsL_law (wsV RL 315 RX18 yX18_quarters wsX18_quarters) := goodIn_app (goodIn_of _ (by decide +kernel)) ggL_law_X18_quarters
set_option maxRecDepth 20000 in
theorem ggL_law_L_quarter : GoodIn wsL_law wsL_quarter := goodIn_ca (goodIn_ca (goodIn_ca (goodIn_r _ [1787, 461, 1788, 1789, 1790, 2, 1791, 50, 935, 936, 937, 938, 470, 471, 34, 934, 1792, 1793, 1794, 1795, 716, 717, 1777, 1778, 1779, 49, 1780, 203, 199, 1067, 944, 945, 33, 946, 947, 1796, 1797, 1798, 1799, 197, 2341, 2342, 2343, 2344, 2345, 2346, 2347, 2348, 2349, 2350, 2351, 2352, 2353, 2354, 2424, 2425, 2426, 2427, 2428, 2429, 2430, 2431, 2432, 2463, 2464, 2465, 2466, 2467, 2468, 2469, 2470, 2471, 2472] (by decide +kernel) (by decide +kernel)) (goodIn_sub (fun _ h => List.mem_append_left _ (List.mem_append_left _ (List.mem_append_left _ (List.mem_append_left _ (List.mem_append_left _ (List.mem_append_left _ (List.mem_append_right _ h))))))) (by decide +kernel))) (goodIn_sub (fun _ h => List.mem_append_left _ (List.mem_append_left _ (List.mem_append_left _ (List.mem_append_right _ h)))) (by decide +kernel))) (goodIn_sub (fun _ h => List.mem_append_left _ (List.mem_append_right _ h)) (by decide +kernel))
set_option maxRecDepth 20000 in
theorem gL_law_L_quarter : GoodIn wsL_law (va_wsS RL 316 yL_quarter wsL_quarter) := goodIn_app (goodIn_of _ (by decide +kernel)) ggL_law_L_quarter
set_option maxRecDepth 20000 in
theorem ggL_law_X18_quarter : GoodIn wsL_law wsX18_quarter := goodIn_ca (goodIn_r _ [1803, 327, 1804, 1805, 1806, 5, 1807, 326, 1202, 1203, 1204, 1205, 1089, 1090, 1091, 1092, 311, 1093, 1094, 1095, 310, 1096, 1097, 380, 381, 382, 383, 384, 385, 386, 387, 1747, 1748, 1749, 1750, 1085, 1098, 1099, 1100, 1101, 1102, 1103, 1104, 1105, 1106, 1107, 1108, 1109, 1110, 1111, 1112, 1113, 335, 1206, 1207, 1208, 1209, 312, 1210, 1211, 1212, 1213, 60, 1214, 1215, 1216, 1217, 1218, 1219, 1220, 1221, 12, 13, 1222, 1223, 1224, 1225, 1226, 1227, 1228, 1229, 1230, 1231, 1232, 1233, 1234, 1235, 1236, 1237, 1238, 1239, 1240, 1241, 1242, 1243, 1244, 1245, 1246, 1247, 1248, 1249, 1129, 1250, 1251, 1252, 1253, 1254, 1255, 1256, 1257, 1258, 1259, 1260, 1261, 1262, 1263, 1264, 1265, 1266, 1267, 1268, 1269, 1270, 1271, 1272, 1273, 1274, 1275, 1276, 1277, 1278, 1279, 1280, 1281, 1282, 1283, 1751, 1752, 1753, 1754, 328, 1755, 1756, 1757, 1758, 1284, 1285, 1286, 1287, 2355, 2356, 2357, 2358, 2359, 2360, 2361, 2362, 2363, 2364, 2365, 2366, 2367, 2368, 2369, 2370, 2371, 2372, 2373, 2374, 2375, 2376, 2377, 2378, 2379, 2380, 2381, 2382, 2499, 2500, 2501, 2538, 2539, 2523, 2524, 2525, 2526, 2527, 2528, 2529, 2530, 2531, 2532, 2533, 2534, 2535, 2536, 2537, 2540, 2541, 2542, 2543, 2544, 2545, 2546, 2547, 2548, 2549, 2550, 2551, 2552, 2553] (by decide +kernel) (by decide +kernel)) (goodIn_sub (fun _ h => List.mem_append_left _ (List.mem_append_left _ (List.mem_append_left _ (List.mem_append_left _ (List.mem_append_left _ (List.mem_append_left _ (List.mem_append_right _ h))))))) (by decide +kernel))
set_option maxRecDepth 20000 in
theorem gL_law_X18_quarter : GoodIn wsL_law (wsV RL 318 RX18 yX18_quarter wsX18_quarter) := goodIn_app (goodIn_of _ (by decide +kernel)) ggL_law_X18_quarter
set_option maxRecDepth 20000 in
theorem ggL_law_L_quarterBy : GoodIn wsL_law wsL_quarterBy := goodIn_ca (goodIn_ca (goodIn_ca (goodIn_r _ [1810, 461, 1811, 1812, 1813, 2, 1814, 50, 935, 936, 937, 938, 470, 471, 34, 934, 1792, 1793, 1794, 1795, 716, 717, 1777, 1778, 1779, 49, 1780, 203, 199, 1067, 944, 945, 33, 946, 947, 1815, 1816, 1817, 1818, 198, 2341, 2342, 2343, 2344, 2345, 2346, 2347, 2348, 2349, 2350, 2351, 2352, 2353, 2354, 2424, 2425, 2426, 2427, 2428, 2429, 2430, 2431, 2432, 2463, 2464, 2465, 2466, 2467, 2468, 2469, 2470, 2471, 2472] (by decide +kernel) (by decide +kernel)) (goodIn_sub (fun _ h => List.mem_append_left _ (List.mem_append_left _ (List.mem_append_left _ (List.mem_append_left _ (List.mem_append_left _ (List.mem_append_left _ (List.mem_append_right _ h))))))) (by decide +kernel))) (goodIn_sub (fun _ h => List.mem_append_left _ (List.mem_append_left _ (List.mem_append_left _ (List.mem_append_right _ h)))) (by decide +kernel))) (goodIn_sub (fun _ h => List.mem_append_left _ (List.mem_append_right _ h)) (by decide +kernel))
set_option maxRecDepth 20000 in
theorem gL_law_L_quarterBy : GoodIn wsL_law (va_wsS RL 319 yL_quarterBy wsL_quarterBy) := goodIn_app (goodIn_of _ (by decide +kernel)) ggL_law_L_quarterBy
set_option maxRecDepth 20000 in
theorem ggL_law_X18_quarterBy : GoodIn wsL_law wsX18_quarterBy := goodIn_ca (goodIn_r _ [1822, 328, 1804, 1805, 1806, 5, 1807, 326, 1202, 1203, 1204, 1205, 1089, 1090, 1091, 1092, 311, 1093, 1094, 1095, 310, 1096, 1097, 380, 381, 382, 383, 384, 385, 386, 387, 1747, 1748, 1749, 1750, 1085, 1098, 1099, 1100, 1101, 1102, 1103, 1104, 1105, 1106, 1107, 1108, 1109, 1110, 1111, 1112, 1113, 335, 1206, 1207, 1208, 1209, 312, 1210, 1211, 1212, 1213, 60, 1214, 1215, 1216, 1217, 1218, 1219, 1220, 1221, 12, 13, 1222, 1223, 1224, 1225, 1226, 1227, 1228, 1229, 1230, 1231, 1232, 1233, 1234, 1235, 1236, 1237, 1238, 1239, 1240, 1241, 1242, 1243, 1244, 1245, 1246, 1247, 1248, 1249, 1129, 1250, 1251, 1252, 1253, 1254, 1255, 1256, 1257, 1258, 1259, 1260, 1261, 1262, 1263, 1264, 1265, 1266, 1267, 1268, 1269, 1270, 1271, 1272, 1273, 1274, 1275, 1276, 1277, 1278, 1279, 1280, 1281, 1282, 1283, 1751, 1752, 1753, 1754, 327, 1755, 1756, 1757, 1758, 1284, 1285, 1286, 1287, 2355, 2356, 2357, 2358, 2359, 2360, 2361, 2362, 2363, 2364, 2365, 2366, 2367, 2368, 2369, 2370, 2371, 2372, 2373, 2374, 2375, 2376, 2377, 2378, 2379, 2380, 2381, 2382, 2499, 2500, 2501, 2538, 2539, 2523, 2524, 2525, 2526, 2527, 2528, 2529, 2530, 2531, 2532, 2533, 2534, 2535, 2536, 2537, 2540, 2541, 2542, 2543, 2544, 2545, 2546, 2547, 2548, 2549, 2550, 2551, 2552, 2553] (by decide +kernel) (by decide +kernel)) (goodIn_sub (fun _ h => List.mem_append_left _ (List.mem_append_left _ (List.mem_append_left _ (List.mem_append_left _ (List.mem_append_left _ (List.mem_append_left _ (List.mem_append_right _ h))))))) (by decide +kernel))
set_option maxRecDepth 20000 in
theorem gL_law_X18_quarterBy : GoodIn wsL_law (wsV RL 321 RX18 yX18_quarterBy wsX18_quarterBy) := goodIn_app (goodIn_of _ (by decide +kernel)) ggL_law_X18_quarterBy
set_option maxRecDepth 20000 in
theorem ggL_law_L_distance : GoodIn wsL_law wsL_distance := goodIn_ca (goodIn_ca (goodIn_r _ [1825, 461, 1826, 1827, 1828, 2, 1829, 38, 1504, 1505, 1506, 1507, 470, 471, 1399, 1830, 1831, 1832, 37, 1833, 152, 1386, 1387, 1388, 1389, 983, 984, 985, 986, 987, 1390, 805, 24, 806, 664, 665, 666, 508, 667, 668, 669, 670, 671, 672, 673, 2341, 2342, 2343, 2344, 2345, 2346, 2347, 2348, 2349, 2350, 2351, 2352, 2353, 2354, 2433, 2434, 2435, 2436, 2437, 2438, 2439, 2440, 2441, 2442, 2443, 2444] (by decide +kernel) (by decide +kernel)) (goodIn_sub (fun _ h => List.mem_append_left _ (List.mem_append_left _ (List.mem_append_left _ (List.mem_append_left _ (List.mem_append_left _ (List.mem_append_left _ (List.mem_append_right _ h))))))) (by decide +kernel))) (goodIn_sub (fun _ h => List.mem_append_left _ (List.mem_append_left _ (List.mem_append_left _ (List.mem_append_right _ h)))) (by decide +kernel))
set_option maxRecDepth 20000 in
theorem gL_law_L_distance : GoodIn wsL_law (va_wsS RL 322 yL_distance wsL_distance) := goodIn_app (goodIn_of _ (by decide +kernel)) ggL_law_L_distance
set_option maxRecDepth 20000 in
theorem ggL_law_X18_distance : GoodIn wsL_law wsX18_distance := goodIn_ca (goodIn_r _ [1837, 1520, 1521, 1522, 5, 1523, 312, 1093, 1094, 1095, 310, 1096, 1097, 380, 381, 382, 383, 384, 385, 386, 387, 1838, 1839, 1840, 1841, 60, 320, 321, 1442, 1443, 1444, 1445, 1210, 314, 315, 316, 1098, 1099, 1100, 1101, 1102, 1103, 1104, 1105, 1106, 1107, 1108, 1109, 1110, 1111, 1112, 1113, 335, 346, 347, 348, 12, 13, 349, 350, 1446, 1447, 1448, 1449, 1450, 1451, 1452, 1453, 448, 1454, 445, 446, 447, 449, 450, 451, 452, 453, 1455, 842, 843, 844, 845, 846, 847, 848, 849, 850, 851, 852, 853, 854, 855, 856, 857, 1456, 1457, 1458, 1459, 444, 1460, 1461, 1462, 604, 605, 606, 607, 319, 608, 609, 610, 611, 94, 95, 96, 612, 613, 614, 615, 616, 617, 618, 619, 620, 621, 622, 623, 624, 625, 626, 627, 628, 629, 630, 631, 632, 633, 634, 635, 636, 637, 638, 639, 640, 1463, 1464, 1465, 2355, 2356, 2357, 2358, 2359, 2360, 2361, 2362, 2363, 2364, 2365, 2366, 2367, 2368, 2369, 2370, 2371, 2372, 2373, 2374, 2375, 2376, 2377, 2378, 2379, 2380, 2381, 2382, 2499, 2500, 2501, 2502, 2503, 2504, 2505, 2506, 2507, 2540, 2541, 2542, 2543, 2544, 2545, 2546, 2547, 2548, 2549, 2508, 2509, 2510, 2511, 2512, 2513, 2514, 2515, 2516, 2517, 2518, 2519, 2520, 2521, 2522] (by decide +kernel) (by decide +kernel)) (goodIn_sub (fun _ h => List.mem_append_left _ (List.mem_append_left _ (List.mem_append_left _ (List.mem_append_left _ (List.mem_append_left _ (List.mem_append_left _ (List.mem_append_right _ h))))))) (by decide +kernel))
set_option maxRecDepth 20000 in
theorem gL_law_X18_distance : GoodIn wsL_law (wsV RL 324 RX18 yX18_distance wsX18_distance) := goodIn_app (goodIn_of _ (by decide +kernel)) ggL_law_X18_distance
set_option maxRecDepth 20000 in
theorem ggL_law_L_nearest : GoodIn wsL_law wsL_nearest := goodIn_ca (goodIn_ca (goodIn_ca (goodIn_r _ [1844, 690, 1845, 1846, 1847, 2, 1848, 716, 717, 38, 25, 472, 473, 474, 475, 476, 477, 21, 412, 478, 479, 480, 481, 373, 17, 482, 483, 484, 485, 16, 486, 487, 488, 489, 490, 491, 492, 493, 494, 495, 496, 497, 498, 61, 65, 499, 500, 501, 502, 503, 504, 24, 505, 506, 507, 84, 85, 83, 508, 509, 510, 237, 238, 239, 511, 512, 513, 514, 515, 516, 517, 518, 519, 520, 20, 521, 116, 522, 523, 524, 525, 67, 526, 527, 528, 66, 529, 530, 95, 531, 532, 533, 534, 535, 536, 537, 538, 539, 540, 541, 542, 543, 544, 545, 546, 547, 548, 549, 550, 551, 552, 64, 553, 554, 555, 556, 557, 558, 559, 560, 561, 562, 62, 563, 564, 565, 566, 567, 568, 569, 570, 571, 572, 573, 574, 575, 576, 577, 578, 579, 580, 581, 582, 583, 584, 585, 1849, 1850, 1851, 37, 1852, 987, 152, 1385, 159, 1390, 805, 806, 664, 665, 666, 667, 668, 669, 670, 671, 672, 673, 2341, 2342, 2343, 2344, 2345, 2346, 2347, 2348, 2349, 2350, 2351, 2352, 2353, 2354, 2396, 2397, 2398, 2399, 2400, 2401, 2402, 2403, 2404, 2405, 2406, 2407, 2383, 2384, 2385, 2386, 2387, 2388, 2389, 2390, 2391, 2392, 2393, 2394, 2395, 2408, 2409, 2410, 2411, 2412, 2486, 2487, 2488, 2489, 2490, 2491, 2492, 2493, 2494, 2495, 2496, 2497, 2498, 2433, 2434, 2435, 2436, 2437, 2438, 2439, 2440, 2441, 2442, 2443, 2444] (by decide +kernel) (by decide +kernel)) (goodIn_sub (fun _ h => List.mem_append_left _ (List.mem_append_left _ (List.mem_append_left _ (List.mem_append_left _ (List.mem_append_left _ (List.mem_append_left _ (List.mem_append_right _ h))))))) (by decide +kernel))) (goodIn_sub (fun _ h => List.mem_append_left _ (List.mem_append_right _ h)) (by decide +kernel))) (goodIn_sub (fun _ h => List.mem_append_left _ (List.mem_append_left _ (List.mem_append_right _ h))) (by decide +kernel))
set_option maxRecDepth 20000 in
theorem gL_law_L_nearest : GoodIn wsL_law (va_wsS RL 325 yL_nearest wsL_nearest) := goodIn_app (goodIn_of _ (by decide +kernel)) ggL_law_L_nearest
set_option maxRecDepth 20000 in
theorem ggL_law_X18_nearest : GoodIn wsL_law wsX18_nearest := goodIn_ca (goodIn_r _ [1856, 317, 320, 312, 60, 321, 600, 601, 602, 5, 603, 417, 418, 419, 420, 421, 314, 315, 316, 422, 318, 379, 346, 347, 348, 12, 13, 349, 350, 423, 424, 425, 426, 427, 428, 429, 430, 307, 380, 381, 382, 431, 432, 433, 434, 435, 436, 437, 438, 439, 440, 441, 442, 443, 444, 445, 446, 447, 448, 449, 450, 451, 452, 453, 454, 455, 456, 457, 383, 384, 385, 386, 387, 604, 605, 606, 607, 319, 608, 609, 610, 611, 94, 95, 96, 612, 613, 614, 615, 616, 617, 618, 619, 620, 621, 622, 623, 624, 625, 626, 627, 628, 629, 630, 631, 632, 633, 634, 635, 636, 637, 638, 639, 640, 1093, 1094, 1095, 310, 1096, 1097, 1214, 1215, 1216, 1217, 1210, 1098, 1099, 1100, 1101, 1102, 1103, 1104, 1105, 1106, 1107, 1108, 1109, 1110, 1111, 1112, 1113, 335, 1442, 1443, 1444, 1445, 1446, 1447, 1448, 1449, 1450, 1451, 1452, 1453, 1454, 1455, 842, 843, 844, 845, 846, 847, 848, 849, 850, 851, 852, 853, 854, 855, 856, 857, 1456, 1457, 1458, 1459, 1460, 1461, 1462, 1463, 1464, 1465, 2355, 2356, 2357, 2358, 2359, 2360, 2361, 2362, 2363, 2364, 2365, 2366, 2367, 2368, 2369, 2370, 2371, 2372, 2373, 2374, 2375, 2376, 2377, 2378, 2379, 2380, 2381, 2382, 2502, 2503, 2504, 2505, 2506, 2507, 2508, 2509, 2510, 2511, 2512, 2513, 2514, 2515, 2516, 2517, 2518, 2519, 2520, 2521, 2522, 2499, 2500, 2501, 2540, 2541, 2542, 2543, 2544, 2545, 2546, 2547, 2548, 2549] (by decide +kernel) (by decide +kernel)) (goodIn_sub (fun _ h => List.mem_append_left _ (List.mem_append_left _ (List.mem_append_left _ (List.mem_append_left _ (List.mem_append_left _ (List.mem_append_left _ (List.mem_append_right _ h))))))) (by decide +kernel))
set_option maxRecDepth 20000 in
theorem gL_law_X18_nearest : GoodIn wsL_law (wsV RL 327 RX18 yX18_nearest wsX18_nearest) := goodIn_app (goodIn_of _ (by decide +kernel)) ggL_law_X18_nearest
set_option maxRecDepth 20000 in
theorem ggL_law_X11_withWord : GoodIn wsL_law wsX11_withWord := goodIn_ca (goodIn_r _ [1860, 38, 1861, 1862, 1863, 37, 1864, 987, 150, 1865, 1866, 1867, 20, 1868, 235, 113, 2341, 2342, 2343, 2344, 2345, 2346, 2347, 2348, 2349, 2350, 2351, 2352, 2353, 2354, 2433, 2434, 2435, 2436, 2437, 2438, 2439, 2440, 2441, 2442, 2443, 2444, 2396, 2397, 2398, 2399, 2400, 2401, 2402, 2403, 2404, 2405, 2406, 2407] (by decide +kernel) (by decide +kernel)) (goodIn_sub (fun _ h => List.mem_append_left _ (List.mem_append_left _ (List.mem_append_left _ (List.mem_append_left _ (List.mem_append_left _ (List.mem_append_left _ (List.mem_append_right _ h))))))) (by decide +kernel))
set_option maxRecDepth 20000 in
theorem gL_law_X11_withWord : GoodIn wsL_law (wsV RL 328 RX11 yX11_withWord wsX11_withWord) := goodIn_app (goodIn_of _ (by decide +kernel)) ggL_law_X11_withWord
set_option maxRecDepth 20000 in
theorem ggL_law_X18_withWord : GoodIn wsL_law wsX18_withWord := goodIn_ca (goodIn_r _ [1872, 387, 312, 1210, 1236, 1237, 1238, 310, 1239, 1240, 1241, 1242, 1243, 1244, 1245, 1246, 1247, 12, 13, 1248, 1249, 1129, 1250, 1251, 1252, 1253, 1254, 1255, 1256, 1257, 1258, 1259, 1260, 1261, 1262, 1263, 1264, 2355, 2356, 2357, 2358, 2359, 2360, 2361, 2362, 2363, 2364, 2365, 2366, 2367, 2368, 2369, 2370, 2371, 2372, 2373, 2374, 2375, 2376, 2377, 2378, 2379, 2380, 2381, 2382, 2540, 2541, 2542, 2543, 2544, 2545, 2546, 2547, 2548, 2549, 2550, 2551, 2552, 2553, 2499, 2500, 2501] (by decide +kernel) (by decide +kernel)) (goodIn_sub (fun _ h => List.mem_append_left _ (List.mem_append_left _ (List.mem_append_left _ (List.mem_append_left _ (List.mem_append_left _ (List.mem_append_left _ (List.mem_append_right _ h))))))) (by decide +kernel))
set_option maxRecDepth 20000 in
theorem gL_law_X18_withWord : GoodIn wsL_law (wsV RL 331 RX18 yX18_withWord wsX18_withWord) := goodIn_app (goodIn_of _ (by decide +kernel)) ggL_law_X18_withWord
set_option maxRecDepth 20000 in
theorem ggL_law_L_conflicts : GoodIn wsL_law wsL_conflicts := goodIn_ca (goodIn_ca (goodIn_ca (goodIn_ca (goodIn_r _ [1875, 461, 1876, 1877, 1878, 2, 1879, 54, 25, 935, 936, 937, 938, 470, 471, 34, 934, 1368, 1369, 1370, 1371, 360, 361, 472, 473, 474, 475, 476, 477, 21, 412, 478, 479, 480, 481, 373, 17, 482, 483, 484, 485, 16, 486, 487, 488, 489, 490, 491, 492, 493, 494, 495, 496, 497, 498, 61, 65, 499, 500, 501, 502, 503, 504, 24, 505, 506, 507, 84, 85, 83, 508, 509, 510, 237, 238, 239, 511, 512, 513, 514, 515, 516, 517, 518, 519, 520, 20, 521, 116, 522, 523, 524, 525, 67, 526, 527, 528, 66, 529, 530, 95, 531, 532, 533, 534, 535, 536, 537, 538, 539, 540, 541, 542, 543, 544, 545, 546, 547, 548, 549, 550, 551, 552, 64, 553, 554, 555, 556, 557, 558, 559, 560, 561, 562, 62, 563, 564, 565, 566, 567, 568, 569, 570, 571, 572, 573, 574, 575, 576, 577, 578, 579, 580, 581, 582, 583, 584, 585, 1372, 1373, 1374, 53, 1375, 221, 1376, 222, 1377, 1378, 1379, 37, 1380, 153, 983, 984, 985, 986, 987, 1381, 1382, 1383, 1384, 152, 1385, 1386, 1387, 1388, 1389, 1390, 805, 806, 664, 665, 666, 667, 668, 669, 670, 671, 672, 673, 1391, 1392, 1393, 41, 1394, 179, 970, 169, 993, 994, 995, 33, 996, 140, 943, 944, 945, 946, 947, 2341, 2342, 2343, 2344, 2345, 2346, 2347, 2348, 2349, 2350, 2351, 2352, 2353, 2354, 2424, 2425, 2426, 2427, 2428, 2429, 2430, 2431, 2432, 2396, 2397, 2398, 2399, 2400, 2401, 2402, 2403, 2404, 2405, 2406, 2407, 2383, 2384, 2385, 2386, 2387, 2388, 2389, 2390, 2391, 2392, 2393, 2394, 2395, 2408, 2409, 2410, 2411, 2412, 2486, 2487, 2488, 2489, 2490, 2491, 2492, 2493, 2494, 2495, 2496, 2497, 2498, 2473, 2474, 2475, 2476, 2477, 2478, 2479, 2480, 2481, 2482, 2483, 2484, 2485, 2433, 2434, 2435, 2436, 2437, 2438, 2439, 2440, 2441, 2442, 2443, 2444, 2445, 2446, 2447, 2448, 2449, 2450, 2451, 2452, 2453, 2454, 2455] (by decide +kernel) (by decide +kernel)) (goodIn_sub (fun _ h => List.mem_append_left _ (List.mem_append_left _ (List.mem_append_left _ (List.mem_append_left _ (List.mem_append_left _ (List.mem_append_left _ (List.mem_append_right _ h))))))) (by decide +kernel))) (goodIn_sub (fun _ h => List.mem_append_left _ (List.mem_append_left _ (List.mem_append_left _ (List.mem_append_right _ h)))) (by decide +kernel))) (goodIn_sub (fun _ h => List.mem_append_left _ (List.mem_append_left _ (List.mem_append_left _ (List.mem_append_left _ (List.mem_append_left _ (List.mem_append_right _ h)))))) (by decide +kernel))) (goodIn_sub (fun _ h => List.mem_append_left _ (List.mem_append_left _ (List.mem_append_right _ h))) (by decide +kernel))
set_option maxRecDepth 20000 in
theorem gL_law_L_conflicts : GoodIn wsL_law (va_wsS RL 332 yL_conflicts wsL_conflicts) := goodIn_app (goodIn_of _ (by decide +kernel)) ggL_law_L_conflicts
set_option maxRecDepth 20000 in
theorem ggL_law_X18_conflicts : GoodIn wsL_law wsX18_conflicts := goodIn_ca (goodIn_r _ [1883, 1202, 1203, 1204, 5, 1205, 1089, 1090, 1091, 1092, 311, 1093, 1094, 1095, 310, 1096, 1097, 380, 381, 382, 383, 384, 385, 386, 387, 600, 601, 602, 603, 417, 418, 419, 420, 421, 314, 315, 316, 317, 422, 318, 379, 346, 347, 348, 12, 13, 349, 350, 423, 424, 425, 426, 427, 428, 429, 430, 307, 431, 432, 433, 434, 435, 436, 437, 438, 439, 440, 441, 442, 443, 444, 445, 446, 447, 448, 449, 450, 451, 452, 453, 454, 455, 456, 457, 1434, 1435, 1436, 1437, 320, 312, 604, 605, 606, 607, 319, 608, 609, 610, 611, 94, 95, 96, 612, 613, 614, 615, 616, 617, 618, 619, 620, 621, 622, 623, 624, 625, 626, 627, 628, 629, 630, 631, 632, 633, 634, 635, 636, 637, 638, 639, 640, 1438, 1439, 1440, 1441, 1210, 60, 321, 1085, 1098, 1099, 1100, 1101, 1102, 1103, 1104, 1105, 1106, 1107, 1108, 1109, 1110, 1111, 1112, 1113, 335, 1214, 1215, 1216, 1217, 1442, 1443, 1444, 1445, 1446, 1447, 1448, 1449, 1450, 1451, 1452, 1453, 1454, 1455, 842, 843, 844, 845, 846, 847, 848, 849, 850, 851, 852, 853, 854, 855, 856, 857, 1456, 1457, 1458, 1459, 1460, 1461, 1462, 1236, 1237, 1238, 1239, 1240, 1241, 1242, 1243, 1244, 1245, 1246, 1247, 1248, 1249, 1129, 1250, 1251, 1252, 1253, 1254, 1255, 1256, 1257, 1258, 1259, 1260, 1261, 1262, 1263, 1264, 1206, 1207, 1208, 1209, 1211, 1212, 1213, 1218, 1219, 1220, 1221, 1222, 1223, 1224, 1225, 1226, 1227, 1228, 1229, 1230, 1231, 1232, 1233, 1234, 1235, 1265, 1266, 1267, 1268, 1269, 1270, 1271, 1272, 1273, 1274, 1275, 1276, 1277, 1278, 1279, 1280, 1281, 1282, 1283, 1463, 1464, 1465, 2355, 2356, 2357, 2358, 2359, 2360, 2361, 2362, 2363, 2364, 2365, 2366, 2367, 2368, 2369, 2370, 2371, 2372, 2373, 2374, 2375, 2376, 2377, 2378, 2379, 2380, 2381, 2382, 2499, 2500, 2501, 2502, 2503, 2504, 2505, 2506, 2507, 2508, 2509, 2510, 2511, 2512, 2513, 2514, 2515, 2516, 2517, 2518, 2519, 2520, 2521, 2522, 2540, 2541, 2542, 2543, 2544, 2545, 2546, 2547, 2548, 2549, 2523, 2524, 2525, 2526, 2527, 2528, 2529, 2530, 2531, 2532, 2533, 2534, 2535, 2536, 2537, 2538, 2539, 2550, 2551, 2552, 2553] (by decide +kernel) (by decide +kernel)) (goodIn_sub (fun _ h => List.mem_append_left _ (List.mem_append_left _ (List.mem_append_left _ (List.mem_append_left _ (List.mem_append_left _ (List.mem_append_left _ (List.mem_append_right _ h))))))) (by decide +kernel))
set_option maxRecDepth 20000 in
theorem gL_law_X18_conflicts : GoodIn wsL_law (wsV RL 334 RX18 yX18_conflicts wsX18_conflicts) := goodIn_app (goodIn_of _ (by decide +kernel)) ggL_law_X18_conflicts
set_option maxRecDepth 20000 in
theorem ggL_law_L_visit : GoodIn wsL_law wsL_visit := goodIn_ca (goodIn_ca (goodIn_r _ [1886, 355, 1887, 1888, 1889, 2, 1890, 54, 921, 1368, 1369, 1370, 1371, 360, 361, 1891, 1892, 1893, 53, 1894, 221, 1376, 222, 1895, 1377, 1378, 1379, 37, 1380, 153, 983, 984, 985, 986, 987, 1896, 1509, 1510, 1511, 159, 1897, 1532, 1533, 1534, 155, 1898, 1899, 1900, 41, 1901, 180, 179, 169, 970, 979, 980, 981, 982, 154, 1009, 944, 945, 33, 946, 947, 1041, 958, 959, 960, 137, 943, 992, 940, 941, 942, 143, 1902, 1047, 1048, 1049, 1903, 1904, 1905, 1906, 1907, 1831, 1832, 1833, 152, 1386, 1387, 1388, 1389, 1390, 805, 24, 806, 664, 665, 666, 508, 667, 668, 669, 670, 671, 672, 673, 1908, 1909, 1910, 1911, 1912, 966, 967, 968, 969, 170, 971, 972, 973, 974, 176, 177, 178, 975, 976, 977, 978, 988, 989, 990, 991, 993, 994, 995, 996, 140, 997, 998, 999, 1000, 141, 1001, 1002, 1003, 1004, 1005, 1006, 1007, 1008, 173, 1010, 1011, 1012, 1013, 1014, 1015, 1016, 1017, 1018, 1019, 1020, 1021, 156, 1022, 1023, 1024, 1025, 1026, 530, 95, 531, 172, 1027, 533, 534, 535, 1028, 1029, 1030, 1031, 1032, 1033, 1034, 1035, 1036, 1037, 1038, 1039, 1040, 1042, 1043, 1044, 1045, 1046, 1050, 1051, 1052, 1053, 957, 961, 962, 963, 964, 42, 50, 965, 1054, 1055, 1056, 49, 1057, 203, 1058, 199, 205, 1059, 1060, 1061, 1062, 1063, 1064, 1065, 1066, 197, 198, 1067, 1068, 1069, 1070, 1071, 1072, 1073, 1074, 1075, 1076, 138, 1077, 1078, 1079, 1080, 174, 2341, 2342, 2343, 2344, 2345, 2346, 2347, 2348, 2349, 2350, 2351, 2352, 2353, 2354, 2473, 2474, 2475, 2476, 2477, 2478, 2479, 2480, 2481, 2482, 2483, 2484, 2485, 2433, 2434, 2435, 2436, 2437, 2438, 2439, 2440, 2441, 2442, 2443, 2444, 2445, 2446, 2447, 2448, 2449, 2450, 2451, 2452, 2453, 2454, 2455, 2424, 2425, 2426, 2427, 2428, 2429, 2430, 2431, 2432, 2463, 2464, 2465, 2466, 2467, 2468, 2469, 2470, 2471, 2472] (by decide +kernel) (by decide +kernel)) (goodIn_sub (fun _ h => List.mem_append_left _ (List.mem_append_left _ (List.mem_append_left _ (List.mem_append_left _ (List.mem_append_left _ (List.mem_append_left _ (List.mem_append_right _ h))))))) (by decide +kernel))) (goodIn_sub (fun _ h => List.mem_append_left _ (List.mem_append_left _ (List.mem_append_left _ (List.mem_append_left _ (List.mem_append_left _ (List.mem_append_right _ h)))))) (by decide +kernel))
set_option maxRecDepth 20000 in
theorem gL_law_L_visit : GoodIn wsL_law (va_wsS RL 335 yL_visit wsL_visit) := goodIn_app (goodIn_of _ (by decide +kernel)) ggL_law_L_visit
set_option maxRecDepth 20000 in
theorem ggL_law_X18_visit : GoodIn wsL_law wsX18_visit := goodIn_ca (goodIn_r _ [1916, 312, 1210, 1917, 380, 381, 5, 382, 383, 384, 385, 386, 387, 1093, 1094, 1095, 310, 1096, 1097, 1098, 1099, 1100, 1101, 1102, 1103, 1104, 1105, 1106, 1107, 1108, 1109, 1110, 1111, 1112, 1113, 335, 1918, 1919, 1920, 1921, 926, 311, 1085, 1236, 1237, 1238, 1239, 1240, 1241, 1242, 1243, 1244, 1245, 1246, 1247, 12, 13, 1248, 1249, 1129, 1250, 1251, 1252, 1253, 1254, 1255, 1256, 1257, 1258, 1259, 1260, 1261, 1262, 1263, 1264, 1265, 1266, 1267, 1268, 1922, 1923, 1924, 1925, 1206, 1207, 1208, 1209, 1211, 1212, 1213, 60, 1214, 1215, 1216, 1217, 1218, 1219, 1220, 1221, 1222, 1223, 1224, 1225, 1226, 1227, 1228, 1229, 1230, 1231, 1232, 1233, 1234, 1235, 1269, 1270, 1271, 1272, 1273, 1274, 1275, 1276, 1277, 1278, 1279, 1280, 1281, 1282, 1283, 1838, 1839, 1840, 1841, 320, 321, 1442, 1443, 1444, 1445, 314, 315, 316, 346, 347, 348, 349, 350, 1446, 1447, 1448, 1449, 1450, 1451, 1452, 1453, 448, 1454, 445, 446, 447, 449, 450, 451, 452, 453, 1455, 842, 843, 844, 845, 846, 847, 848, 849, 850, 851, 852, 853, 854, 855, 856, 857, 1456, 1457, 1458, 1459, 444, 1460, 1461, 1462, 604, 605, 606, 607, 319, 608, 609, 610, 611, 94, 95, 96, 612, 613, 614, 615, 616, 617, 618, 619, 620, 621, 622, 623, 624, 625, 626, 627, 628, 629, 630, 631, 632, 633, 634, 635, 636, 637, 638, 639, 640, 1463, 1464, 1465, 2355, 2356, 2357, 2358, 2359, 2360, 2361, 2362, 2363, 2364, 2365, 2366, 2367, 2368, 2369, 2370, 2371, 2372, 2373, 2374, 2375, 2376, 2377, 2378, 2379, 2380, 2381, 2382, 2540, 2541, 2542, 2543, 2544, 2545, 2546, 2547, 2548, 2549, 2499, 2500, 2501, 2523, 2524, 2525, 2526, 2527, 2528, 2529, 2530, 2531, 2532, 2533, 2534, 2535, 2536, 2537, 2550, 2551, 2552, 2553, 2538, 2539, 2502, 2503, 2504, 2505, 2506, 2507, 2508, 2509, 2510, 2511, 2512, 2513, 2514, 2515, 2516, 2517, 2518, 2519, 2520, 2521, 2522] (by decide +kernel) (by decide +kernel)) (goodIn_sub (fun _ h => List.mem_append_left _ (List.mem_append_left _ (List.mem_append_left _ (List.mem_append_left _ (List.mem_append_left _ (List.mem_append_left _ (List.mem_append_right _ h))))))) (by decide +kernel))
set_option maxRecDepth 20000 in
theorem gL_law_X18_visit : GoodIn wsL_law (wsV RL 337 RX18 yX18_visit wsX18_visit) := goodIn_app (goodIn_of _ (by decide +kernel)) ggL_law_X18_visit
set_option maxRecDepth 20000 in
theorem ggL_law_X11_disclaimed : GoodIn wsL_law wsX11_disclaimed := goodIn_r _ [1929, 54, 1930, 2341, 2342, 2343, 2344, 2345, 2346, 2347, 2348, 2349, 2350, 2351, 2352, 2353, 2354, 2473, 2474, 2475, 2476, 2477, 2478, 2479, 2480, 2481, 2482, 2483, 2484, 2485] (by decide +kernel) (by decide +kernel)
set_option maxRecDepth 20000 in
theorem gL_law_X11_disclaimed : GoodIn wsL_law (wsV RL 338 RX11 yX11_disclaimed wsX11_disclaimed) := goodIn_app (goodIn_of _ (by decide +kernel)) ggL_law_X11_disclaimed
set_option maxRecDepth 20000 in
theorem ggL_law_X18_disclaimed : GoodIn wsL_law wsX18_disclaimed := goodIn_r _ [1934, 387, 1917, 2355, 2356, 2357, 2358, 2359, 2360, 2361, 2362, 2363, 2364, 2365, 2366, 2367, 2368, 2369, 2370, 2371, 2372, 2373, 2374, 2375, 2376, 2377, 2378, 2379, 2380, 2381, 2382] (by decide +kernel) (by decide +kernel)
set_option maxRecDepth 20000 in
theorem gL_law_X18_disclaimed : GoodIn wsL_law (wsV RL 341 RX18 yX18_disclaimed wsX18_disclaimed) := goodIn_app (goodIn_of _ (by decide +kernel)) ggL_law_X18_disclaimed
set_option maxRecDepth 20000 in
theorem ggL_law_L_sue : GoodIn wsL_law wsL_sue := goodIn_ca (goodIn_ca (goodIn_ca (goodIn_ca (goodIn_r _ [1937, 461, 1938, 1939, 1940, 2, 1941, 476, 477, 34, 54, 42, 921, 935, 936, 937, 938, 470, 471, 934, 1178, 994, 995, 33, 996, 140, 943, 944, 945, 946, 947, 1491, 1060, 1061, 41, 1062, 179, 169, 1009, 1942, 1943, 1944, 53, 1945, 221, 1377, 1378, 1379, 37, 1380, 153, 983, 984, 985, 986, 987, 1907, 1831, 1832, 1833, 152, 1386, 1387, 1388, 1389, 1390, 805, 24, 806, 664, 665, 666, 508, 667, 668, 669, 670, 671, 672, 673, 1946, 1947, 1948, 1949, 362, 363, 1950, 1951, 1952, 1953, 1954, 1897, 1532, 1533, 1534, 155, 1955, 1956, 1957, 1958, 1959, 1960, 530, 95, 531, 219, 212, 213, 1961, 1962, 1963, 1964, 217, 1965, 1966, 1967, 1968, 1969, 1970, 1971, 1972, 214, 215, 216, 218, 1896, 1509, 1510, 1511, 159, 1908, 1909, 1910, 1911, 961, 962, 963, 964, 50, 965, 966, 967, 968, 180, 969, 970, 170, 971, 972, 973, 974, 176, 177, 178, 975, 976, 977, 978, 979, 980, 981, 982, 154, 988, 989, 990, 991, 992, 940, 941, 942, 143, 993, 997, 998, 999, 1000, 141, 1001, 1002, 1003, 1004, 137, 1005, 1006, 1007, 1008, 173, 1010, 1011, 1012, 1013, 1014, 1015, 1016, 1017, 1018, 1019, 1020, 1021, 156, 1022, 1023, 1024, 1025, 1026, 172, 1027, 533, 534, 535, 1028, 1029, 1030, 1031, 1032, 1033, 1034, 1035, 1036, 1037, 1038, 1039, 1040, 1041, 958, 959, 960, 1042, 1043, 1044, 1045, 1046, 1047, 1048, 1049, 1050, 1051, 1052, 1053, 957, 1054, 1055, 1056, 49, 1057, 203, 1058, 199, 205, 1059, 1063, 1064, 1065, 1066, 197, 198, 1067, 1068, 1069, 1070, 1071, 1072, 1073, 1074, 1075, 1076, 138, 1077, 1078, 1079, 1080, 174, 2341, 2342, 2343, 2344, 2345, 2346, 2347, 2348, 2349, 2350, 2351, 2352, 2353, 2354, 2424, 2425, 2426, 2427, 2428, 2429, 2430, 2431, 2432, 2445, 2446, 2447, 2448, 2449, 2450, 2451, 2452, 2453, 2454, 2455, 2473, 2474, 2475, 2476, 2477, 2478, 2479, 2480, 2481, 2482, 2483, 2484, 2485, 2433, 2434, 2435, 2436, 2437, 2438, 2439, 2440, 2441, 2442, 2443, 2444, 2463, 2464, 2465, 2466, 2467, 2468, 2469, 2470, 2471, 2472] (by decide +kernel) (by decide +kernel)) (goodIn_sub (fun _ h => List.mem_append_left _ (List.mem_append_left _ (List.mem_append_left _ (List.mem_append_left _ (List.mem_append_left _ (List.mem_append_left _ (List.mem_append_right _ h))))))) (by decide +kernel))) (goodIn_sub (fun _ h => List.mem_append_left _ (List.mem_append_left _ (List.mem_append_right _ h))) (by decide +kernel))) (goodIn_sub (fun _ h => List.mem_append_left _ (List.mem_append_left _ (List.mem_append_left _ (List.mem_append_right _ h)))) (by decide +kernel))) (goodIn_sub (fun _ h => List.mem_append_left _ (List.mem_append_left _ (List.mem_append_left _ (List.mem_append_left _ (List.mem_append_right _ h))))) (by decide +kernel))
set_option maxRecDepth 20000 in
theorem gL_law_L_sue : GoodIn wsL_law (va_wsS RL 342 yL_sue wsL_sue) := goodIn_app (goodIn_of _ (by decide +kernel)) ggL_law_L_sue
set_option maxRecDepth 20000 in
theorem ggL_law_X18_sue : GoodIn wsL_law wsX18_sue := goodIn_ca (goodIn_r _ [1976, 311, 1085, 312, 1210, 313, 1977, 926, 1978, 1979, 1980, 1089, 1090, 1091, 5, 1092, 1093, 1094, 1095, 310, 1096, 1097, 380, 381, 382, 383, 384, 385, 386, 387, 1098, 1099, 1100, 1101, 1102, 1103, 1104, 1105, 1106, 1107, 1108, 1109, 1110, 1111, 1112, 1113, 335, 1206, 1207, 1208, 1209, 1211, 1212, 1213, 60, 1214, 1215, 1216, 1217, 1218, 1219, 1220, 1221, 12, 13, 1222, 1223, 1224, 1225, 1226, 1227, 1228, 1229, 1230, 1231, 1232, 1233, 1234, 1235, 1236, 1237, 1238, 1239, 1240, 1241, 1242, 1243, 1244, 1245, 1246, 1247, 1248, 1249, 1129, 1250, 1251, 1252, 1253, 1254, 1255, 1256, 1257, 1258, 1259, 1260, 1261, 1262, 1263, 1264, 1265, 1266, 1267, 1268, 1269, 1270, 1271, 1272, 1273, 1274, 1275, 1276, 1277, 1278, 1279, 1280, 1281, 1282, 1283, 1838, 1839, 1840, 1841, 320, 321, 1442, 1443, 1444, 1445, 314, 315, 316, 346, 347, 348, 349, 350, 1446, 1447, 1448, 1449, 1450, 1451, 1452, 1453, 448, 1454, 445, 446, 447, 449, 450, 451, 452, 453, 1455, 842, 843, 844, 845, 846, 847, 848, 849, 850, 851, 852, 853, 854, 855, 856, 857, 1456, 1457, 1458, 1459, 444, 1460, 1461, 1462, 604, 605, 606, 607, 319, 608, 609, 610, 611, 94, 95, 96, 612, 613, 614, 615, 616, 617, 618, 619, 620, 621, 622, 623, 624, 625, 626, 627, 628, 629, 630, 631, 632, 633, 634, 635, 636, 637, 638, 639, 640, 1463, 1464, 1465, 1981, 1982, 1983, 1984, 1985, 1986, 1987, 1988, 1989, 1990, 1991, 1992, 1993, 1994, 1995, 1996, 1997, 1998, 1999, 2000, 1124, 1125, 1126, 1127, 1128, 1130, 1131, 1132, 1133, 1134, 1135, 1136, 1137, 1138, 1139, 1140, 1141, 334, 1142, 287, 288, 1143, 1144, 1145, 1146, 1147, 1148, 1149, 1150, 1151, 1152, 1153, 1154, 238, 1155, 1156, 1157, 1158, 1159, 1160, 1161, 1162, 1163, 1164, 1165, 530, 531, 1166, 533, 534, 535, 2355, 2356, 2357, 2358, 2359, 2360, 2361, 2362, 2363, 2364, 2365, 2366, 2367, 2368, 2369, 2370, 2371, 2372, 2373, 2374, 2375, 2376, 2377, 2378, 2379, 2380, 2381, 2382, 2523, 2524, 2525, 2526, 2527, 2528, 2529, 2530, 2531, 2532, 2533, 2534, 2535, 2536, 2537, 2538, 2539, 2540, 2541, 2542, 2543, 2544, 2545, 2546, 2547, 2548, 2549, 2554, 2555, 2556, 2557, 2558, 2559, 2560, 2561, 2562, 2499, 2500, 2501, 2550, 2551, 2552, 2553, 2502, 2503, 2504, 2505, 2506, 2507, 2508, 2509, 2510, 2511, 2512, 2513, 2514, 2515, 2516, 2517, 2518, 2519, 2520, 2521, 2522] (by decide +kernel) (by decide +kernel)) (goodIn_sub (fun _ h => List.mem_append_left _ (List.mem_append_left _ (List.mem_append_left _ (List.mem_append_left _ (List.mem_append_left _ (List.mem_append_left _ (List.mem_append_right _ h))))))) (by decide +kernel))
set_option maxRecDepth 20000 in
theorem gL_law_X18_sue : GoodIn wsL_law (wsV RL 344 RX18 yX18_sue wsX18_sue) := goodIn_app (goodIn_of _ (by decide +kernel)) ggL_law_X18_sue
set_option maxRecDepth 20000 in
theorem ggL_law_L_judged : GoodIn wsL_law wsL_judged := goodIn_ca (goodIn_ca (goodIn_r _ [2003, 461, 2004, 2005, 2006, 2, 2007, 54, 2008, 2009, 2010, 2011, 470, 471, 1950, 2012, 1962, 1963, 53, 1964, 217, 1965, 1966, 1967, 1968, 1959, 2341, 2342, 2343, 2344, 2345, 2346, 2347, 2348, 2349, 2350, 2351, 2352, 2353, 2354, 2473, 2474, 2475, 2476, 2477, 2478, 2479, 2480, 2481, 2482, 2483, 2484, 2485] (by decide +kernel) (by decide +kernel)) (goodIn_sub (fun _ h => List.mem_append_left _ (List.mem_append_left _ (List.mem_append_left _ (List.mem_append_left _ (List.mem_append_left _ (List.mem_append_left _ (List.mem_append_right _ h))))))) (by decide +kernel))) (goodIn_sub (fun _ h => List.mem_append_left _ (List.mem_append_left _ (List.mem_append_left _ (List.mem_append_right _ h)))) (by decide +kernel))
set_option maxRecDepth 20000 in
theorem gL_law_L_judged : GoodIn wsL_law (va_wsS RL 345 yL_judged wsL_judged) := goodIn_app (goodIn_of _ (by decide +kernel)) ggL_law_L_judged
set_option maxRecDepth 20000 in
theorem ggL_law_X18_judged : GoodIn wsL_law wsX18_judged := goodIn_r _ [2016, 313, 1977, 2017, 2018, 2019, 5, 2020, 1093, 1094, 1095, 310, 1096, 1097, 380, 381, 382, 383, 384, 385, 386, 387, 1098, 1099, 1100, 1101, 1102, 1103, 1104, 1105, 1106, 1107, 1108, 1109, 1110, 1111, 1112, 1113, 335, 2355, 2356, 2357, 2358, 2359, 2360, 2361, 2362, 2363, 2364, 2365, 2366, 2367, 2368, 2369, 2370, 2371, 2372, 2373, 2374, 2375, 2376, 2377, 2378, 2379, 2380, 2381, 2382, 2554, 2555, 2556, 2557, 2558, 2559, 2560, 2561, 2562, 2499, 2500, 2501] (by decide +kernel) (by decide +kernel)
set_option maxRecDepth 20000 in
theorem gL_law_X18_judged : GoodIn wsL_law (wsV RL 347 RX18 yX18_judged wsX18_judged) := goodIn_app (goodIn_of _ (by decide +kernel)) ggL_law_X18_judged
set_option maxRecDepth 20000 in
theorem ggL_law_L_stands : GoodIn wsL_law wsL_stands := goodIn_ca (goodIn_ca (goodIn_r _ [2023, 461, 2024, 2025, 2026, 2, 2027, 54, 2008, 2009, 2010, 2011, 470, 471, 1950, 2028, 2029, 2030, 53, 2031, 219, 1965, 1966, 1967, 1968, 1959, 2341, 2342, 2343, 2344, 2345, 2346, 2347, 2348, 2349, 2350, 2351, 2352, 2353, 2354, 2473, 2474, 2475, 2476, 2477, 2478, 2479, 2480, 2481, 2482, 2483, 2484, 2485] (by decide +kernel) (by decide +kernel)) (goodIn_sub (fun _ h => List.mem_append_left _ (List.mem_append_left _ (List.mem_append_left _ (List.mem_append_left _ (List.mem_append_left _ (List.mem_append_left _ (List.mem_append_right _ h))))))) (by decide +kernel))) (goodIn_sub (fun _ h => List.mem_append_left _ (List.mem_append_left _ (List.mem_append_left _ (List.mem_append_right _ h)))) (by decide +kernel))
set_option maxRecDepth 20000 in
theorem gL_law_L_stands : GoodIn wsL_law (va_wsS RL 348 yL_stands wsL_stands) := goodIn_app (goodIn_of _ (by decide +kernel)) ggL_law_L_stands
set_option maxRecDepth 20000 in
theorem ggL_law_X18_stands : GoodIn wsL_law wsX18_stands := goodIn_r _ [2035, 313, 1977, 2017, 2018, 2019, 5, 2020, 1093, 1094, 1095, 310, 1096, 1097, 380, 381, 382, 383, 384, 385, 386, 387, 1098, 1099, 1100, 1101, 1102, 1103, 1104, 1105, 1106, 1107, 1108, 1109, 1110, 1111, 1112, 1113, 335, 2355, 2356, 2357, 2358, 2359, 2360, 2361, 2362, 2363, 2364, 2365, 2366, 2367, 2368, 2369, 2370, 2371, 2372, 2373, 2374, 2375, 2376, 2377, 2378, 2379, 2380, 2381, 2382, 2554, 2555, 2556, 2557, 2558, 2559, 2560, 2561, 2562, 2499, 2500, 2501] (by decide +kernel) (by decide +kernel)
set_option maxRecDepth 20000 in
theorem gL_law_X18_stands : GoodIn wsL_law (wsV RL 350 RX18 yX18_stands wsX18_stands) := goodIn_app (goodIn_of _ (by decide +kernel)) ggL_law_X18_stands
set_option maxRecDepth 20000 in
theorem ggL_law_L_precedent : GoodIn wsL_law wsL_precedent := goodIn_ca (goodIn_ca (goodIn_ca (goodIn_r _ [2038, 355, 2039, 2040, 2041, 2, 2042, 360, 361, 716, 717, 54, 1368, 1369, 1370, 1371, 2043, 1956, 1957, 53, 1958, 1959, 1960, 530, 95, 531, 219, 212, 213, 2341, 2342, 2343, 2344, 2345, 2346, 2347, 2348, 2349, 2350, 2351, 2352, 2353, 2354, 2473, 2474, 2475, 2476, 2477, 2478, 2479, 2480, 2481, 2482, 2483, 2484, 2485] (by decide +kernel) (by decide +kernel)) (goodIn_sub (fun _ h => List.mem_append_left _ (List.mem_append_left _ (List.mem_append_left _ (List.mem_append_left _ (List.mem_append_left _ (List.mem_append_left _ (List.mem_append_right _ h))))))) (by decide +kernel))) (goodIn_sub (fun _ h => List.mem_append_left _ (List.mem_append_left _ (List.mem_append_left _ (List.mem_append_left _ (List.mem_append_left _ (List.mem_append_right _ h)))))) (by decide +kernel))) (goodIn_sub (fun _ h => List.mem_append_left _ (List.mem_append_right _ h)) (by decide +kernel))
set_option maxRecDepth 20000 in
theorem gL_law_L_precedent : GoodIn wsL_law (va_wsS RL 351 yL_precedent wsL_precedent) := goodIn_app (goodIn_of _ (by decide +kernel)) ggL_law_L_precedent
set_option maxRecDepth 20000 in
theorem ggL_law_X18_precedent : GoodIn wsL_law wsX18_precedent := goodIn_r _ [2047, 380, 381, 5, 382, 383, 384, 385, 386, 387, 1981, 1982, 1983, 1984, 313, 1977, 1093, 1094, 1095, 310, 1096, 1097, 1098, 1099, 1100, 1101, 1102, 1103, 1104, 1105, 1106, 1107, 1108, 1109, 1110, 1111, 1112, 1113, 335, 2355, 2356, 2357, 2358, 2359, 2360, 2361, 2362, 2363, 2364, 2365, 2366, 2367, 2368, 2369, 2370, 2371, 2372, 2373, 2374, 2375, 2376, 2377, 2378, 2379, 2380, 2381, 2382, 2554, 2555, 2556, 2557, 2558, 2559, 2560, 2561, 2562, 2499, 2500, 2501] (by decide +kernel) (by decide +kernel)
set_option maxRecDepth 20000 in
theorem gL_law_X18_precedent : GoodIn wsL_law (wsV RL 353 RX18 yX18_precedent wsX18_precedent) := goodIn_app (goodIn_of _ (by decide +kernel)) ggL_law_X18_precedent
set_option maxRecDepth 20000 in
theorem ggL_law_L_appeal : GoodIn wsL_law wsL_appeal := goodIn_ca (goodIn_ca (goodIn_ca (goodIn_ca (goodIn_r _ [2050, 461, 2051, 2052, 2053, 2, 2054, 476, 477, 54, 921, 2008, 2009, 2010, 2011, 470, 471, 1950, 2055, 2056, 2057, 53, 2058, 214, 220, 213, 2059, 2029, 2030, 2031, 219, 1965, 1966, 1967, 1968, 1959, 1946, 1947, 1948, 1949, 362, 363, 2060, 2061, 2062, 2063, 217, 221, 216, 215, 218, 1908, 1909, 1910, 37, 1911, 159, 983, 984, 985, 986, 987, 1969, 1970, 1971, 1972, 212, 1377, 1378, 1379, 1380, 153, 1896, 1509, 1510, 1511, 961, 962, 963, 964, 42, 50, 965, 966, 967, 41, 968, 180, 969, 179, 970, 169, 170, 971, 972, 973, 974, 176, 177, 178, 975, 976, 977, 978, 979, 980, 981, 982, 154, 988, 989, 990, 991, 992, 940, 941, 33, 942, 143, 943, 944, 945, 946, 947, 993, 994, 995, 996, 140, 997, 998, 999, 1000, 141, 1001, 1002, 1003, 1004, 137, 1005, 1006, 1007, 1008, 173, 1009, 1010, 1011, 1012, 1013, 1014, 1015, 1016, 1017, 1018, 1019, 1020, 1021, 156, 1022, 1023, 1024, 1025, 1026, 530, 95, 531, 172, 1027, 533, 534, 535, 1028, 1029, 1030, 1031, 1032, 1033, 1034, 1035, 1036, 1037, 1038, 1039, 1040, 1041, 958, 959, 960, 1042, 1043, 1044, 1045, 1046, 1047, 1048, 1049, 1050, 1051, 1052, 1053, 957, 1054, 1055, 1056, 49, 1057, 203, 1058, 199, 205, 1059, 1060, 1061, 1062, 1063, 1064, 1065, 1066, 197, 198, 1067, 1068, 1069, 1070, 1071, 1072, 1073, 1074, 1075, 1076, 138, 1077, 1078, 1079, 1080, 174, 2341, 2342, 2343, 2344, 2345, 2346, 2347, 2348, 2349, 2350, 2351, 2352, 2353, 2354, 2473, 2474, 2475, 2476, 2477, 2478, 2479, 2480, 2481, 2482, 2483, 2484, 2485, 2433, 2434, 2435, 2436, 2437, 2438, 2439, 2440, 2441, 2442, 2443, 2444, 2445, 2446, 2447, 2448, 2449, 2450, 2451, 2452, 2453, 2454, 2455, 2424, 2425, 2426, 2427, 2428, 2429, 2430, 2431, 2432, 2463, 2464, 2465, 2466, 2467, 2468, 2469, 2470, 2471, 2472] (by decide +kernel) (by decide +kernel)) (goodIn_sub (fun _ h => List.mem_append_left _ (List.mem_append_left _ (List.mem_append_left _ (List.mem_append_left _ (List.mem_append_left _ (List.mem_append_left _ (List.mem_append_right _ h))))))) (by decide +kernel))) (goodIn_sub (fun _ h => List.mem_append_left _ (List.mem_append_left _ (List.mem_append_right _ h))) (by decide +kernel))) (goodIn_sub (fun _ h => List.mem_append_left _ (List.mem_append_left _ (List.mem_append_left _ (List.mem_append_right _ h)))) (by decide +kernel))) (goodIn_sub (fun _ h => List.mem_append_left _ (List.mem_append_left _ (List.mem_append_left _ (List.mem_append_left _ (List.mem_append_right _ h))))) (by decide +kernel))
set_option maxRecDepth 20000 in
theorem gL_law_L_appeal : GoodIn wsL_law (va_wsS RL 354 yL_appeal wsL_appeal) := goodIn_app (goodIn_of _ (by decide +kernel)) ggL_law_L_appeal
set_option maxRecDepth 20000 in
theorem ggL_law_X18_appeal : GoodIn wsL_law wsX18_appeal := goodIn_r _ [2067, 313, 1977, 926, 312, 1210, 1978, 1979, 1980, 2017, 2018, 2019, 5, 2020, 1093, 1094, 1095, 310, 1096, 1097, 380, 381, 382, 383, 384, 385, 386, 387, 1098, 1099, 1100, 1101, 1102, 1103, 1104, 1105, 1106, 1107, 1108, 1109, 1110, 1111, 1112, 1113, 335, 1985, 1986, 1987, 1988, 12, 13, 1989, 1990, 1991, 1992, 1993, 1994, 1995, 1996, 1997, 1998, 1999, 2000, 1124, 1125, 1126, 1127, 1128, 1129, 1130, 1131, 1132, 1133, 1134, 1135, 1136, 1137, 1138, 1139, 1140, 1141, 334, 1142, 287, 95, 288, 1143, 1144, 1145, 1146, 1147, 1148, 1149, 1150, 1151, 1152, 1153, 1154, 238, 1155, 1156, 1157, 1158, 1159, 1160, 1161, 1162, 1163, 1164, 1165, 530, 531, 1166, 533, 534, 535, 2355, 2356, 2357, 2358, 2359, 2360, 2361, 2362, 2363, 2364, 2365, 2366, 2367, 2368, 2369, 2370, 2371, 2372, 2373, 2374, 2375, 2376, 2377, 2378, 2379, 2380, 2381, 2382, 2554, 2555, 2556, 2557, 2558, 2559, 2560, 2561, 2562, 2540, 2541, 2542, 2543, 2544, 2545, 2546, 2547, 2548, 2549, 2499, 2500, 2501] (by decide +kernel) (by decide +kernel)
set_option maxRecDepth 20000 in
theorem gL_law_X18_appeal : GoodIn wsL_law (wsV RL 356 RX18 yX18_appeal wsX18_appeal) := goodIn_app (goodIn_of _ (by decide +kernel)) ggL_law_X18_appeal
set_option maxRecDepth 20000 in
theorem ggL_law_L_setRank : GoodIn wsL_law wsL_setRank := goodIn_ca (goodIn_ca (goodIn_ca (goodIn_r _ [2070, 461, 2071, 2072, 2073, 2, 2074, 360, 361, 46, 935, 936, 937, 938, 470, 471, 34, 934, 2075, 2076, 2077, 45, 2078, 190, 185, 2079, 944, 945, 33, 946, 947, 2341, 2342, 2343, 2344, 2345, 2346, 2347, 2348, 2349, 2350, 2351, 2352, 2353, 2354, 2424, 2425, 2426, 2427, 2428, 2429, 2430, 2431, 2432, 2456, 2457, 2458, 2459, 2460, 2461, 2462] (by decide +kernel) (by decide +kernel)) (goodIn_sub (fun _ h => List.mem_append_left _ (List.mem_append_left _ (List.mem_append_left _ (List.mem_append_left _ (List.mem_append_left _ (List.mem_append_left _ (List.mem_append_right _ h))))))) (by decide +kernel))) (goodIn_sub (fun _ h => List.mem_append_left _ (List.mem_append_left _ (List.mem_append_left _ (List.mem_append_left _ (List.mem_append_left _ (List.mem_append_right _ h)))))) (by decide +kernel))) (goodIn_sub (fun _ h => List.mem_append_left _ (List.mem_append_left _ (List.mem_append_left _ (List.mem_append_right _ h)))) (by decide +kernel))
set_option maxRecDepth 20000 in
theorem gL_law_L_setRank : GoodIn wsL_law (va_wsS RL 357 yL_setRank wsL_setRank) := goodIn_app (goodIn_of _ (by decide +kernel)) ggL_law_L_setRank
set_option maxRecDepth 20000 in
theorem ggL_law_X18_setRank : GoodIn wsL_law wsX18_setRank := goodIn_r _ [2083, 311, 1085, 1202, 1203, 1204, 5, 1205, 1089, 1090, 1091, 1092, 1093, 1094, 1095, 310, 1096, 1097, 380, 381, 382, 383, 384, 385, 386, 387, 1098, 1099, 1100, 1101, 1102, 1103, 1104, 1105, 1106, 1107, 1108, 1109, 1110, 1111, 1112, 1113, 335, 2355, 2356, 2357, 2358, 2359, 2360, 2361, 2362, 2363, 2364, 2365, 2366, 2367, 2368, 2369, 2370, 2371, 2372, 2373, 2374, 2375, 2376, 2377, 2378, 2379, 2380, 2381, 2382, 2523, 2524, 2525, 2526, 2527, 2528, 2529, 2530, 2531, 2532, 2533, 2534, 2535, 2536, 2537, 2499, 2500, 2501] (by decide +kernel) (by decide +kernel)
set_option maxRecDepth 20000 in
theorem gL_law_X18_setRank : GoodIn wsL_law (wsV RL 359 RX18 yX18_setRank wsX18_setRank) := goodIn_app (goodIn_of _ (by decide +kernel)) ggL_law_X18_setRank
set_option maxRecDepth 20000 in
theorem ggL_law_L_setCrest : GoodIn wsL_law wsL_setCrest := goodIn_ca (goodIn_ca (goodIn_ca (goodIn_r _ [2086, 461, 2087, 2088, 2089, 2, 2090, 46, 935, 936, 937, 938, 470, 471, 34, 934, 2091, 2092, 2093, 2094, 360, 361, 2095, 2096, 2097, 45, 2098, 190, 186, 2079, 944, 945, 33, 946, 947, 2341, 2342, 2343, 2344, 2345, 2346, 2347, 2348, 2349, 2350, 2351, 2352, 2353, 2354, 2424, 2425, 2426, 2427, 2428, 2429, 2430, 2431, 2432, 2456, 2457, 2458, 2459, 2460, 2461, 2462] (by decide +kernel) (by decide +kernel)) (goodIn_sub (fun _ h => List.mem_append_left _ (List.mem_append_left _ (List.mem_append_left _ (List.mem_append_left _ (List.mem_append_left _ (List.mem_append_left _ (List.mem_append_right _ h))))))) (by decide +kernel))) (goodIn_sub (fun _ h => List.mem_append_left _ (List.mem_append_left _ (List.mem_append_left _ (List.mem_append_right _ h)))) (by decide +kernel))) (goodIn_sub (fun _ h => List.mem_append_left _ (List.mem_append_left _ (List.mem_append_left _ (List.mem_append_left _ (List.mem_append_left _ (List.mem_append_right _ h)))))) (by decide +kernel))
set_option maxRecDepth 20000 in
theorem gL_law_L_setCrest : GoodIn wsL_law (va_wsS RL 360 yL_setCrest wsL_setCrest) := goodIn_app (goodIn_of _ (by decide +kernel)) ggL_law_L_setCrest
set_option maxRecDepth 20000 in
theorem ggL_law_X18_setCrest : GoodIn wsL_law wsX18_setCrest := goodIn_r _ [2102, 311, 1085, 1202, 1203, 1204, 5, 1205, 1089, 1090, 1091, 1092, 1093, 1094, 1095, 310, 1096, 1097, 380, 381, 382, 383, 384, 385, 386, 387, 1098, 1099, 1100, 1101, 1102, 1103, 1104, 1105, 1106, 1107, 1108, 1109, 1110, 1111, 1112, 1113, 335, 2355, 2356, 2357, 2358, 2359, 2360, 2361, 2362, 2363, 2364, 2365, 2366, 2367, 2368, 2369, 2370, 2371, 2372, 2373, 2374, 2375, 2376, 2377, 2378, 2379, 2380, 2381, 2382, 2523, 2524, 2525, 2526, 2527, 2528, 2529, 2530, 2531, 2532, 2533, 2534, 2535, 2536, 2537, 2499, 2500, 2501] (by decide +kernel) (by decide +kernel)
set_option maxRecDepth 20000 in
theorem gL_law_X18_setCrest : GoodIn wsL_law (wsV RL 362 RX18 yX18_setCrest wsX18_setCrest) := goodIn_app (goodIn_of _ (by decide +kernel)) ggL_law_X18_setCrest
set_option maxRecDepth 20000 in
theorem ggL_law_L_crest : GoodIn wsL_law wsL_crest := goodIn_ca (goodIn_ca (goodIn_ca (goodIn_r _ [2105, 461, 2106, 2107, 2108, 2, 2109, 716, 717, 46, 935, 936, 937, 938, 470, 471, 34, 934, 2110, 2111, 2112, 45, 2113, 190, 185, 186, 191, 2079, 944, 945, 33, 946, 947, 2114, 958, 959, 960, 137, 943, 2115, 2116, 2117, 41, 2118, 179, 175, 2119, 1060, 1061, 1062, 169, 1009, 1041, 1042, 1043, 1044, 1045, 143, 140, 141, 1046, 1047, 1048, 1049, 993, 994, 995, 996, 2341, 2342, 2343, 2344, 2345, 2346, 2347, 2348, 2349, 2350, 2351, 2352, 2353, 2354, 2424, 2425, 2426, 2427, 2428, 2429, 2430, 2431, 2432, 2456, 2457, 2458, 2459, 2460, 2461, 2462, 2445, 2446, 2447, 2448, 2449, 2450, 2451, 2452, 2453, 2454, 2455] (by decide +kernel) (by decide +kernel)) (goodIn_sub (fun _ h => List.mem_append_left _ (List.mem_append_left _ (List.mem_append_left _ (List.mem_append_left _ (List.mem_append_left _ (List.mem_append_left _ (List.mem_append_right _ h))))))) (by decide +kernel))) (goodIn_sub (fun _ h => List.mem_append_left _ (List.mem_append_right _ h)) (by decide +kernel))) (goodIn_sub (fun _ h => List.mem_append_left _ (List.mem_append_left _ (List.mem_append_left _ (List.mem_append_right _ h)))) (by decide +kernel))
set_option maxRecDepth 20000 in
theorem gL_law_L_crest : GoodIn wsL_law (va_wsS RL 363 yL_crest wsL_crest) := goodIn_app (goodIn_of _ (by decide +kernel)) ggL_law_L_crest
set_option maxRecDepth 20000 in
theorem ggL_law_X18_crest : GoodIn wsL_law wsX18_crest := goodIn_ca (goodIn_r _ [2123, 311, 1085, 1202, 1203, 1204, 5, 1205, 1089, 1090, 1091, 1092, 1093, 1094, 1095, 310, 1096, 1097, 380, 381, 382, 383, 384, 385, 386, 387, 1098, 1099, 1100, 1101, 1102, 1103, 1104, 1105, 1106, 1107, 1108, 1109, 1110, 1111, 1112, 1113, 335, 2124, 2125, 2126, 2127, 1206, 1207, 1208, 1209, 312, 1210, 1211, 1212, 1213, 60, 1214, 1215, 1216, 1217, 1218, 1219, 1220, 1221, 12, 13, 1222, 1223, 1224, 1225, 1226, 1227, 1228, 1229, 1230, 1231, 1232, 1233, 1234, 1235, 1236, 1237, 1238, 1239, 1240, 1241, 1242, 1243, 1244, 1245, 1246, 1247, 1248, 1249, 1129, 1250, 1251, 1252, 1253, 1254, 1255, 1256, 1257, 1258, 1259, 1260, 1261, 1262, 1263, 1264, 1265, 1266, 1267, 1268, 1269, 1270, 1271, 1272, 1273, 1274, 1275, 1276, 1277, 1278, 1279, 1280, 1281, 1282, 1283, 2355, 2356, 2357, 2358, 2359, 2360, 2361, 2362, 2363, 2364, 2365, 2366, 2367, 2368, 2369, 2370, 2371, 2372, 2373, 2374, 2375, 2376, 2377, 2378, 2379, 2380, 2381, 2382, 2523, 2524, 2525, 2526, 2527, 2528, 2529, 2530, 2531, 2532, 2533, 2534, 2535, 2536, 2537, 2499, 2500, 2501, 2538, 2539, 2540, 2541, 2542, 2543, 2544, 2545, 2546, 2547, 2548, 2549, 2550, 2551, 2552, 2553] (by decide +kernel) (by decide +kernel)) (goodIn_sub (fun _ h => List.mem_append_left _ (List.mem_append_left _ (List.mem_append_left _ (List.mem_append_left _ (List.mem_append_left _ (List.mem_append_left _ (List.mem_append_right _ h))))))) (by decide +kernel))
set_option maxRecDepth 20000 in
theorem gL_law_X18_crest : GoodIn wsL_law (wsV RL 365 RX18 yX18_crest wsX18_crest) := goodIn_app (goodIn_of _ (by decide +kernel)) ggL_law_X18_crest
set_option maxRecDepth 20000 in
theorem ggL_law_L_setSupporters : GoodIn wsL_law wsL_setSupporters := goodIn_ca (goodIn_ca (goodIn_ca (goodIn_r _ [2130, 461, 2131, 2132, 2133, 2, 2134, 46, 935, 936, 937, 938, 470, 471, 34, 934, 2091, 2092, 2093, 2094, 360, 361, 2135, 2136, 2137, 45, 2138, 190, 187, 188, 2079, 944, 945, 33, 946, 947, 2341, 2342, 2343, 2344, 2345, 2346, 2347, 2348, 2349, 2350, 2351, 2352, 2353, 2354, 2424, 2425, 2426, 2427, 2428, 2429, 2430, 2431, 2432, 2456, 2457, 2458, 2459, 2460, 2461, 2462] (by decide +kernel) (by decide +kernel)) (goodIn_sub (fun _ h => List.mem_append_left _ (List.mem_append_left _ (List.mem_append_left _ (List.mem_append_left _ (List.mem_append_left _ (List.mem_append_left _ (List.mem_append_right _ h))))))) (by decide +kernel))) (goodIn_sub (fun _ h => List.mem_append_left _ (List.mem_append_left _ (List.mem_append_left _ (List.mem_append_right _ h)))) (by decide +kernel))) (goodIn_sub (fun _ h => List.mem_append_left _ (List.mem_append_left _ (List.mem_append_left _ (List.mem_append_left _ (List.mem_append_left _ (List.mem_append_right _ h)))))) (by decide +kernel))
set_option maxRecDepth 20000 in
theorem gL_law_L_setSupporters : GoodIn wsL_law (va_wsS RL 366 yL_setSupporters wsL_setSupporters) := goodIn_app (goodIn_of _ (by decide +kernel)) ggL_law_L_setSupporters
set_option maxRecDepth 20000 in
theorem ggL_law_X18_setSupporters : GoodIn wsL_law wsX18_setSupporters := goodIn_r _ [2142, 311, 1085, 1202, 1203, 1204, 5, 1205, 1089, 1090, 1091, 1092, 1093, 1094, 1095, 310, 1096, 1097, 380, 381, 382, 383, 384, 385, 386, 387, 1098, 1099, 1100, 1101, 1102, 1103, 1104, 1105, 1106, 1107, 1108, 1109, 1110, 1111, 1112, 1113, 335, 2355, 2356, 2357, 2358, 2359, 2360, 2361, 2362, 2363, 2364, 2365, 2366, 2367, 2368, 2369, 2370, 2371, 2372, 2373, 2374, 2375, 2376, 2377, 2378, 2379, 2380, 2381, 2382, 2523, 2524, 2525, 2526, 2527, 2528, 2529, 2530, 2531, 2532, 2533, 2534, 2535, 2536, 2537, 2499, 2500, 2501] (by decide +kernel) (by decide +kernel)
set_option maxRecDepth 20000 in
theorem gL_law_X18_setSupporters : GoodIn wsL_law (wsV RL 368 RX18 yX18_setSupporters wsX18_setSupporters) := goodIn_app (goodIn_of _ (by decide +kernel)) ggL_law_X18_setSupporters
set_option maxRecDepth 20000 in
theorem ggL_law_L_supporter : GoodIn wsL_law wsL_supporter := goodIn_ca (goodIn_ca (goodIn_ca (goodIn_r _ [2145, 461, 2146, 2147, 2148, 2, 2149, 716, 717, 46, 935, 936, 937, 938, 470, 471, 34, 934, 2150, 2151, 2152, 45, 2153, 190, 185, 187, 188, 2079, 944, 945, 33, 946, 947, 2341, 2342, 2343, 2344, 2345, 2346, 2347, 2348, 2349, 2350, 2351, 2352, 2353, 2354, 2424, 2425, 2426, 2427, 2428, 2429, 2430, 2431, 2432, 2456, 2457, 2458, 2459, 2460, 2461, 2462] (by decide +kernel) (by decide +kernel)) (goodIn_sub (fun _ h => List.mem_append_left _ (List.mem_append_left _ (List.mem_append_left _ (List.mem_append_left _ (List.mem_append_left _ (List.mem_append_left _ (List.mem_append_right _ h))))))) (by decide +kernel))) (goodIn_sub (fun _ h => List.mem_append_left _ (List.mem_append_right _ h)) (by decide +kernel))) (goodIn_sub (fun _ h => List.mem_append_left _ (List.mem_append_left _ (List.mem_append_left _ (List.mem_append_right _ h)))) (by decide +kernel))
set_option maxRecDepth 20000 in
theorem gL_law_L_supporter : GoodIn wsL_law (va_wsS RL 369 yL_supporter wsL_supporter) := goodIn_app (goodIn_of _ (by decide +kernel)) ggL_law_L_supporter
set_option maxRecDepth 20000 in
theorem ggL_law_X18_supporter : GoodIn wsL_law wsX18_supporter := goodIn_r _ [2157, 311, 1085, 1202, 1203, 1204, 5, 1205, 1089, 1090, 1091, 1092, 1093, 1094, 1095, 310, 1096, 1097, 380, 381, 382, 383, 384, 385, 386, 387, 1098, 1099, 1100, 1101, 1102, 1103, 1104, 1105, 1106, 1107, 1108, 1109, 1110, 1111, 1112, 1113, 335, 2355, 2356, 2357, 2358, 2359, 2360, 2361, 2362, 2363, 2364, 2365, 2366, 2367, 2368, 2369, 2370, 2371, 2372, 2373, 2374, 2375, 2376, 2377, 2378, 2379, 2380, 2381, 2382, 2523, 2524, 2525, 2526, 2527, 2528, 2529, 2530, 2531, 2532, 2533, 2534, 2535, 2536, 2537, 2499, 2500, 2501] (by decide +kernel) (by decide +kernel)
set_option maxRecDepth 20000 in
theorem gL_law_X18_supporter : GoodIn wsL_law (wsV RL 371 RX18 yX18_supporter wsX18_supporter) := goodIn_app (goodIn_of _ (by decide +kernel)) ggL_law_X18_supporter
set_option maxRecDepth 20000 in
theorem ggL_law_L_augment : GoodIn wsL_law wsL_augment := goodIn_ca (goodIn_ca (goodIn_ca (goodIn_ca (goodIn_r _ [2160, 461, 2161, 2162, 2163, 2, 2164, 476, 477, 38, 1504, 1505, 1506, 1507, 470, 471, 1399, 652, 653, 654, 655, 360, 361, 2091, 2092, 2093, 2094, 2165, 989, 990, 37, 991, 159, 983, 984, 985, 986, 987, 2166, 2167, 2168, 2169, 157, 2170, 2171, 16, 2172, 1415, 1416, 1417, 1418, 163, 162, 150, 1419, 1385, 152, 1420, 533, 534, 535, 1421, 484, 485, 486, 487, 488, 489, 490, 491, 492, 493, 494, 495, 496, 497, 498, 61, 65, 499, 500, 501, 502, 503, 504, 24, 505, 506, 507, 84, 85, 83, 508, 509, 510, 237, 238, 239, 511, 512, 513, 514, 515, 516, 517, 518, 519, 520, 20, 521, 116, 522, 523, 524, 525, 67, 526, 527, 528, 66, 529, 530, 95, 531, 532, 536, 537, 538, 539, 540, 541, 542, 543, 544, 545, 546, 547, 548, 549, 550, 551, 552, 64, 553, 554, 555, 556, 557, 558, 559, 560, 561, 562, 62, 563, 564, 565, 566, 567, 568, 569, 570, 571, 572, 573, 574, 575, 576, 577, 578, 579, 580, 581, 582, 583, 584, 585, 1422, 1423, 1424, 1425, 1426, 1427, 1428, 1429, 2341, 2342, 2343, 2344, 2345, 2346, 2347, 2348, 2349, 2350, 2351, 2352, 2353, 2354, 2433, 2434, 2435, 2436, 2437, 2438, 2439, 2440, 2441, 2442, 2443, 2444, 2396, 2397, 2398, 2399, 2400, 2401, 2402, 2403, 2404, 2405, 2406, 2407, 2408, 2409, 2410, 2411, 2412, 2383, 2384, 2385, 2386, 2387, 2388, 2389, 2390, 2391, 2392, 2393, 2394, 2395, 2486, 2487, 2488, 2489, 2490, 2491, 2492, 2493, 2494, 2495, 2496, 2497, 2498] (by decide +kernel) (by decide +kernel)) (goodIn_sub (fun _ h => List.mem_append_left _ (List.mem_append_left _ (List.mem_append_left _ (List.mem_append_left _ (List.mem_append_left _ (List.mem_append_left _ (List.mem_append_right _ h))))))) (by decide +kernel))) (goodIn_sub (fun _ h => List.mem_append_left _ (List.mem_append_left _ (List.mem_append_right _ h))) (by decide +kernel))) (goodIn_sub (fun _ h => List.mem_append_left _ (List.mem_append_left _ (List.mem_append_left _ (List.mem_append_right _ h)))) (by decide +kernel))) (goodIn_sub (fun _ h => List.mem_append_left _ (List.mem_append_left _ (List.mem_append_left _ (List.mem_append_left _ (List.mem_append_left _ (List.mem_append_right _ h)))))) (by decide +kernel))
set_option maxRecDepth 20000 in
theorem gL_law_L_augment : GoodIn wsL_law (va_wsS RL 372 yL_augment wsL_augment) := goodIn_app (goodIn_of _ (by decide +kernel)) ggL_law_L_augment
set_option maxRecDepth 20000 in
theorem ggL_law_X18_augment : GoodIn wsL_law wsX18_augment := goodIn_r _ [2176, 312, 1210, 380, 381, 5, 382, 1516, 1517, 1518, 1519, 1520, 1521, 1522, 1523, 1093, 1094, 1095, 310, 1096, 1097, 383, 384, 385, 386, 387, 1214, 1215, 1216, 1217, 1098, 1099, 1100, 1101, 1102, 1103, 1104, 1105, 1106, 1107, 1108, 1109, 1110, 1111, 1112, 1113, 335, 2355, 2356, 2357, 2358, 2359, 2360, 2361, 2362, 2363, 2364, 2365, 2366, 2367, 2368, 2369, 2370, 2371, 2372, 2373, 2374, 2375, 2376, 2377, 2378, 2379, 2380, 2381, 2382, 2540, 2541, 2542, 2543, 2544, 2545, 2546, 2547, 2548, 2549, 2499, 2500, 2501] (by decide +kernel) (by decide +kernel)
set_option maxRecDepth 20000 in
theorem gL_law_X18_augment : GoodIn wsL_law (wsV RL 375 RX18 yX18_augment wsX18_augment) := goodIn_app (goodIn_of _ (by decide +kernel)) ggL_law_X18_augment
set_option maxRecDepth 20000 in
theorem ggL_law_L_abate : GoodIn wsL_law wsL_abate := goodIn_ca (goodIn_ca (goodIn_r _ [2179, 461, 2180, 2181, 2182, 2, 2183, 46, 935, 936, 937, 938, 470, 471, 34, 934, 2184, 2185, 2186, 45, 2187, 190, 189, 2079, 944, 945, 33, 946, 947, 2341, 2342, 2343, 2344, 2345, 2346, 2347, 2348, 2349, 2350, 2351, 2352, 2353, 2354, 2424, 2425, 2426, 2427, 2428, 2429, 2430, 2431, 2432, 2456, 2457, 2458, 2459, 2460, 2461, 2462] (by decide +kernel) (by decide +kernel)) (goodIn_sub (fun _ h => List.mem_append_left _ (List.mem_append_left _ (List.mem_append_left _ (List.mem_append_left _ (List.mem_append_left _ (List.mem_append_left _ (List.mem_append_right _ h))))))) (by decide +kernel))) (goodIn_sub (fun _ h => List.mem_append_left _ (List.mem_append_left _ (List.mem_append_left _ (List.mem_append_right _ h)))) (by decide +kernel))
set_option maxRecDepth 20000 in
theorem gL_law_L_abate : GoodIn wsL_law (va_wsS RL 376 yL_abate wsL_abate) := goodIn_app (goodIn_of _ (by decide +kernel)) ggL_law_L_abate
set_option maxRecDepth 20000 in
theorem ggL_law_X18_abate : GoodIn wsL_law wsX18_abate := goodIn_r _ [2191, 311, 1085, 1202, 1203, 1204, 5, 1205, 1089, 1090, 1091, 1092, 1093, 1094, 1095, 310, 1096, 1097, 380, 381, 382, 383, 384, 385, 386, 387, 1098, 1099, 1100, 1101, 1102, 1103, 1104, 1105, 1106, 1107, 1108, 1109, 1110, 1111, 1112, 1113, 335, 2355, 2356, 2357, 2358, 2359, 2360, 2361, 2362, 2363, 2364, 2365, 2366, 2367, 2368, 2369, 2370, 2371, 2372, 2373, 2374, 2375, 2376, 2377, 2378, 2379, 2380, 2381, 2382, 2523, 2524, 2525, 2526, 2527, 2528, 2529, 2530, 2531, 2532, 2533, 2534, 2535, 2536, 2537, 2499, 2500, 2501] (by decide +kernel) (by decide +kernel)
set_option maxRecDepth 20000 in
theorem gL_law_X18_abate : GoodIn wsL_law (wsV RL 378 RX18 yX18_abate wsX18_abate) := goodIn_app (goodIn_of _ (by decide +kernel)) ggL_law_X18_abate
set_option maxRecDepth 20000 in
theorem ggL_law_X11_year : GoodIn wsL_law wsX11_year := goodIn_r _ [2195, 921, 2341, 2342, 2343, 2344, 2345, 2346, 2347, 2348, 2349, 2350, 2351, 2352, 2353, 2354] (by decide +kernel) (by decide +kernel)
set_option maxRecDepth 20000 in
theorem gL_law_X11_year : GoodIn wsL_law (wsV RL 379 RX11 yX11_year wsX11_year) := goodIn_app (goodIn_of _ (by decide +kernel)) ggL_law_X11_year
set_option maxRecDepth 20000 in
theorem ggL_law_X18_year : GoodIn wsL_law wsX18_year := goodIn_r _ [2199, 387, 926, 2355, 2356, 2357, 2358, 2359, 2360, 2361, 2362, 2363, 2364, 2365, 2366, 2367, 2368, 2369, 2370, 2371, 2372, 2373, 2374, 2375, 2376, 2377, 2378, 2379, 2380, 2381, 2382] (by decide +kernel) (by decide +kernel)
set_option maxRecDepth 20000 in
theorem gL_law_X18_year : GoodIn wsL_law (wsV RL 382 RX18 yX18_year wsX18_year) := goodIn_app (goodIn_of _ (by decide +kernel)) ggL_law_X18_year
set_option maxRecDepth 20000 in
theorem ggL_law_X11_persons : GoodIn wsL_law wsX11_persons := goodIn_r _ [2203, 34, 934, 2341, 2342, 2343, 2344, 2345, 2346, 2347, 2348, 2349, 2350, 2351, 2352, 2353, 2354, 2424, 2425, 2426, 2427, 2428, 2429, 2430, 2431, 2432] (by decide +kernel) (by decide +kernel)
set_option maxRecDepth 20000 in
theorem gL_law_X11_persons : GoodIn wsL_law (wsV RL 383 RX11 yX11_persons wsX11_persons) := goodIn_app (goodIn_of _ (by decide +kernel)) ggL_law_X11_persons
set_option maxRecDepth 20000 in
theorem ggL_law_X18_persons : GoodIn wsL_law wsX18_persons := goodIn_r _ [2207, 387, 311, 1093, 1094, 1095, 310, 1096, 1097, 2355, 2356, 2357, 2358, 2359, 2360, 2361, 2362, 2363, 2364, 2365, 2366, 2367, 2368, 2369, 2370, 2371, 2372, 2373, 2374, 2375, 2376, 2377, 2378, 2379, 2380, 2381, 2382, 2499, 2500, 2501] (by decide +kernel) (by decide +kernel)
set_option maxRecDepth 20000 in
theorem gL_law_X18_persons : GoodIn wsL_law (wsV RL 386 RX18 yX18_persons wsX18_persons) := goodIn_app (goodIn_of _ (by decide +kernel)) ggL_law_X18_persons
set_option maxRecDepth 20000 in
theorem ggL_law_X11_arms : GoodIn wsL_law wsX11_arms := goodIn_r _ [2211, 38, 1399, 2341, 2342, 2343, 2344, 2345, 2346, 2347, 2348, 2349, 2350, 2351, 2352, 2353, 2354, 2433, 2434, 2435, 2436, 2437, 2438, 2439, 2440, 2441, 2442, 2443, 2444] (by decide +kernel) (by decide +kernel)
set_option maxRecDepth 20000 in
theorem gL_law_X11_arms : GoodIn wsL_law (wsV RL 387 RX11 yX11_arms wsX11_arms) := goodIn_app (goodIn_of _ (by decide +kernel)) ggL_law_X11_arms
set_option maxRecDepth 20000 in
theorem ggL_law_X18_arms : GoodIn wsL_law wsX18_arms := goodIn_r _ [2215, 387, 312, 1093, 1094, 1095, 310, 1096, 1097, 2355, 2356, 2357, 2358, 2359, 2360, 2361, 2362, 2363, 2364, 2365, 2366, 2367, 2368, 2369, 2370, 2371, 2372, 2373, 2374, 2375, 2376, 2377, 2378, 2379, 2380, 2381, 2382, 2499, 2500, 2501] (by decide +kernel) (by decide +kernel)
set_option maxRecDepth 20000 in
theorem gL_law_X18_arms : GoodIn wsL_law (wsV RL 390 RX18 yX18_arms wsX18_arms) := goodIn_app (goodIn_of _ (by decide +kernel)) ggL_law_X18_arms
set_option maxRecDepth 20000 in
theorem ggL_law_X11_allPoints : GoodIn wsL_law wsX11_allPoints := goodIn_ca (goodIn_r _ [2219, 38, 2220, 2221, 2222, 37, 2223, 987, 152, 1660, 591, 24, 592, 2341, 2342, 2343, 2344, 2345, 2346, 2347, 2348, 2349, 2350, 2351, 2352, 2353, 2354, 2433, 2434, 2435, 2436, 2437, 2438, 2439, 2440, 2441, 2442, 2443, 2444] (by decide +kernel) (by decide +kernel)) (goodIn_sub (fun _ h => List.mem_append_left _ (List.mem_append_left _ (List.mem_append_left _ (List.mem_append_left _ (List.mem_append_left _ (List.mem_append_left _ (List.mem_append_right _ h))))))) (by decide +kernel))
set_option maxRecDepth 20000 in
theorem gL_law_X11_allPoints : GoodIn wsL_law (wsV RL 391 RX11 yX11_allPoints wsX11_allPoints) := goodIn_app (goodIn_of _ (by decide +kernel)) ggL_law_X11_allPoints
set_option maxRecDepth 20000 in
theorem ggL_law_X18_allPoints : GoodIn wsL_law wsX18_allPoints := goodIn_ca (goodIn_r _ [2227, 387, 312, 60, 320, 1093, 1094, 1095, 310, 1096, 1097, 1442, 1443, 1444, 5, 1445, 1210, 314, 315, 316, 1098, 1099, 1100, 1101, 1102, 1103, 1104, 1105, 1106, 1107, 1108, 1109, 1110, 1111, 1112, 1113, 335, 346, 347, 348, 12, 13, 349, 350, 1446, 1447, 1448, 1449, 1450, 1451, 1452, 1453, 448, 1454, 445, 446, 447, 449, 450, 451, 452, 453, 1455, 842, 843, 844, 845, 846, 847, 848, 849, 850, 851, 852, 853, 854, 855, 856, 857, 1456, 1457, 1458, 1459, 444, 1460, 1461, 1462, 604, 605, 606, 607, 319, 608, 609, 610, 611, 94, 95, 96, 612, 613, 614, 615, 616, 617, 618, 619, 620, 621, 380, 381, 382, 622, 623, 624, 625, 626, 627, 628, 629, 630, 631, 632, 633, 634, 635, 636, 637, 638, 639, 640, 2355, 2356, 2357, 2358, 2359, 2360, 2361, 2362, 2363, 2364, 2365, 2366, 2367, 2368, 2369, 2370, 2371, 2372, 2373, 2374, 2375, 2376, 2377, 2378, 2379, 2380, 2381, 2382, 2499, 2500, 2501, 2502, 2503, 2504, 2505, 2506, 2507, 2540, 2541, 2542, 2543, 2544, 2545, 2546, 2547, 2548, 2549, 2508, 2509, 2510, 2511, 2512, 2513, 2514, 2515, 2516, 2517, 2518, 2519, 2520, 2521, 2522] (by decide +kernel) (by decide +kernel)) (goodIn_sub (fun _ h => List.mem_append_left _ (List.mem_append_left _ (List.mem_append_left _ (List.mem_append_left _ (List.mem_append_left _ (List.mem_append_left _ (List.mem_append_right _ h))))))) (by decide +kernel))
set_option maxRecDepth 20000 in
theorem gL_law_X18_allPoints : GoodIn wsL_law (wsV RL 395 RX18 yX18_allPoints wsX18_allPoints) := goodIn_app (goodIn_of _ (by decide +kernel)) ggL_law_X18_allPoints
set_option maxRecDepth 20000 in
theorem ggL_law_L_armigerShare : GoodIn wsL_law wsL_armigerShare := goodIn_ca (goodIn_ca (goodIn_r _ [2230, 2231, 2232, 2233, 2234, 2, 2235, 2236, 2237, 34, 42, 2238, 2239, 2240, 33, 2241, 947, 1187, 2242, 2243, 2244, 41, 2245, 179, 970, 169, 993, 994, 995, 996, 140, 943, 944, 945, 946, 2341, 2342, 2343, 2344, 2345, 2346, 2347, 2348, 2349, 2350, 2351, 2352, 2353, 2354, 2424, 2425, 2426, 2427, 2428, 2429, 2430, 2431, 2432, 2445, 2446, 2447, 2448, 2449, 2450, 2451, 2452, 2453, 2454, 2455] (by decide +kernel) (by decide +kernel)) (goodIn_sub (fun _ h => List.mem_append_left _ (List.mem_append_left _ (List.mem_append_left _ (List.mem_append_left _ (List.mem_append_left _ (List.mem_append_left _ (List.mem_append_right _ h))))))) (by decide +kernel))) (goodIn_sub (fun _ h => List.mem_append_right _ h) (by decide +kernel))
set_option maxRecDepth 20000 in
theorem gL_law_L_armigerShare : GoodIn wsL_law (va_wsS RL 396 yL_armigerShare wsL_armigerShare) := goodIn_app (goodIn_of _ (by decide +kernel)) ggL_law_L_armigerShare
set_option maxRecDepth 20000 in
theorem ggL_law_X18_armigerShare : GoodIn wsL_law wsX18_armigerShare := goodIn_ca (goodIn_r _ [2249, 311, 1085, 1236, 1237, 1238, 310, 1239, 1240, 1241, 1242, 1243, 1244, 1245, 1246, 1247, 12, 13, 1248, 1249, 1129, 1250, 1251, 1252, 1253, 1254, 1255, 1256, 1257, 1258, 1259, 1260, 1261, 1262, 1263, 1264, 1206, 1207, 1208, 5, 1209, 312, 1210, 1211, 1212, 1213, 60, 1214, 1215, 1216, 1217, 1098, 1099, 1100, 1101, 1097, 1102, 1103, 1104, 1105, 1106, 1107, 1108, 1109, 1110, 1111, 1112, 1113, 335, 1093, 1094, 1095, 1096, 1218, 1219, 1220, 1221, 1222, 1223, 1224, 1225, 1226, 1227, 1228, 1229, 1230, 1231, 1232, 1233, 1234, 1235, 1265, 1266, 1267, 1268, 1269, 1270, 1271, 1272, 1273, 1274, 1275, 1276, 1277, 1278, 1279, 1280, 1281, 1282, 1283, 383, 384, 385, 386, 387, 2355, 2356, 2357, 2358, 2359, 2360, 2361, 2362, 2363, 2364, 2365, 2366, 2367, 2368, 2369, 2370, 2371, 2372, 2373, 2374, 2375, 2376, 2377, 2378, 2379, 2380, 2381, 2382, 2523, 2524, 2525, 2526, 2527, 2528, 2529, 2530, 2531, 2532, 2533, 2534, 2535, 2536, 2537, 2550, 2551, 2552, 2553, 2499, 2500, 2501, 2538, 2539, 2540, 2541, 2542, 2543, 2544, 2545, 2546, 2547, 2548, 2549] (by decide +kernel) (by decide +kernel)) (goodIn_sub (fun _ h => List.mem_append_left _ (List.mem_append_left _ (List.mem_append_left _ (List.mem_append_left _ (List.mem_append_left _ (List.mem_append_left _ (List.mem_append_right _ h))))))) (by decide +kernel))
set_option maxRecDepth 20000 in
theorem gL_law_X18_armigerShare : GoodIn wsL_law (wsV RL 399 RX18 yX18_armigerShare wsX18_armigerShare) := goodIn_app (goodIn_of _ (by decide +kernel)) ggL_law_X18_armigerShare
set_option maxRecDepth 20000 in
theorem ggL_law_L_meanWords : GoodIn wsL_law wsL_meanWords := goodIn_ca (goodIn_ca (goodIn_r _ [2252, 2231, 2253, 2254, 2255, 2, 2256, 2236, 2237, 38, 1399, 2257, 2258, 2259, 37, 2260, 987, 150, 1408, 2341, 2342, 2343, 2344, 2345, 2346, 2347, 2348, 2349, 2350, 2351, 2352, 2353, 2354, 2433, 2434, 2435, 2436, 2437, 2438, 2439, 2440, 2441, 2442, 2443, 2444, 2396, 2397, 2398, 2399, 2400, 2401, 2402, 2403, 2404, 2405, 2406, 2407] (by decide +kernel) (by decide +kernel)) (goodIn_sub (fun _ h => List.mem_append_left _ (List.mem_append_left _ (List.mem_append_left _ (List.mem_append_left _ (List.mem_append_left _ (List.mem_append_left _ (List.mem_append_right _ h))))))) (by decide +kernel))) (goodIn_sub (fun _ h => List.mem_append_right _ h) (by decide +kernel))
set_option maxRecDepth 20000 in
theorem gL_law_L_meanWords : GoodIn wsL_law (va_wsS RL 400 yL_meanWords wsL_meanWords) := goodIn_app (goodIn_of _ (by decide +kernel)) ggL_law_L_meanWords
set_option maxRecDepth 20000 in
theorem ggL_law_X18_meanWords : GoodIn wsL_law wsX18_meanWords := goodIn_r _ [2264, 312, 1210, 1236, 1237, 1238, 310, 1239, 1240, 1241, 1242, 1243, 1244, 1245, 1246, 1247, 12, 13, 1248, 1249, 1129, 1250, 1251, 1252, 1253, 1254, 1255, 1256, 1257, 1258, 1259, 1260, 1261, 1262, 1263, 1264, 2265, 2266, 2267, 2268, 1097, 383, 384, 385, 5, 386, 387, 1093, 1094, 1095, 1096, 2355, 2356, 2357, 2358, 2359, 2360, 2361, 2362, 2363, 2364, 2365, 2366, 2367, 2368, 2369, 2370, 2371, 2372, 2373, 2374, 2375, 2376, 2377, 2378, 2379, 2380, 2381, 2382, 2540, 2541, 2542, 2543, 2544, 2545, 2546, 2547, 2548, 2549, 2550, 2551, 2552, 2553, 2499, 2500, 2501] (by decide +kernel) (by decide +kernel)
set_option maxRecDepth 20000 in
theorem gL_law_X18_meanWords : GoodIn wsL_law (wsV RL 402 RX18 yX18_meanWords wsX18_meanWords) := goodIn_app (goodIn_of _ (by decide +kernel)) ggL_law_X18_meanWords
set_option maxRecDepth 20000 in
theorem ggL_law_X11_isSound : GoodIn wsL_law wsX11_isSound := goodIn_ca (goodIn_r _ [2272, 50, 42, 2273, 2274, 2275, 2, 2276, 38, 1399, 374, 30, 2277, 2278, 2279, 37, 2280, 160, 983, 984, 985, 986, 987, 2281, 1690, 1691, 1692, 150, 1386, 1387, 1388, 1389, 2282, 2283, 2284, 29, 2285, 132, 129, 770, 131, 126, 759, 2286, 122, 802, 2287, 484, 485, 16, 486, 487, 488, 489, 490, 491, 492, 493, 494, 495, 496, 497, 498, 61, 65, 499, 500, 501, 502, 503, 504, 24, 505, 506, 507, 84, 85, 83, 508, 509, 510, 237, 238, 239, 511, 512, 513, 514, 515, 516, 517, 518, 519, 520, 20, 521, 116, 522, 523, 524, 525, 67, 526, 527, 528, 66, 529, 530, 95, 531, 532, 533, 534, 535, 536, 537, 538, 539, 540, 541, 542, 543, 544, 545, 546, 547, 548, 549, 550, 551, 552, 64, 553, 554, 555, 556, 557, 558, 559, 560, 561, 562, 62, 563, 564, 565, 566, 567, 568, 569, 570, 571, 572, 573, 574, 575, 576, 577, 578, 579, 580, 581, 582, 583, 584, 585, 2288, 756, 757, 758, 124, 760, 761, 762, 763, 764, 765, 766, 767, 768, 125, 769, 123, 771, 73, 772, 773, 774, 775, 776, 777, 778, 779, 780, 781, 128, 782, 783, 784, 785, 264, 265, 266, 267, 271, 268, 269, 270, 280, 276, 277, 278, 279, 786, 273, 274, 275, 787, 788, 789, 790, 791, 792, 793, 794, 795, 796, 797, 798, 799, 800, 801, 803, 804, 805, 806, 664, 665, 666, 667, 668, 669, 670, 671, 672, 673, 807, 808, 809, 810, 2289, 1410, 1411, 1412, 235, 1413, 366, 367, 368, 113, 2290, 224, 225, 226, 227, 228, 229, 230, 231, 232, 233, 234, 114, 236, 240, 241, 242, 243, 244, 245, 246, 247, 248, 249, 250, 251, 252, 253, 254, 255, 256, 257, 258, 259, 260, 261, 262, 263, 272, 281, 282, 283, 284, 285, 286, 287, 288, 289, 290, 291, 292, 293, 294, 295, 296, 297, 298, 299, 300, 301, 302, 2291, 2292, 2293, 2294, 2295, 2296, 2297, 2298, 17, 2299, 1708, 1709, 1710, 157, 2300, 2301, 2302, 2303, 152, 2304, 2305, 2306, 2307, 2308, 76, 2309, 70, 2310, 68, 69, 2311, 2312, 2313, 2314, 2315, 1426, 1427, 1428, 1429, 2316, 2317, 2318, 2319, 2320, 2321, 2322, 2323, 49, 2324, 203, 1058, 199, 198, 205, 197, 2325, 2326, 2327, 33, 2328, 144, 137, 138, 943, 944, 945, 946, 947, 2329, 2330, 2331, 2332, 1059, 1060, 1061, 41, 1062, 179, 169, 1009, 2333, 2334, 2335, 2336, 970, 180, 988, 989, 990, 991, 159, 2341, 2342, 2343, 2344, 2345, 2346, 2347, 2348, 2349, 2350, 2351, 2352, 2353, 2354, 2433, 2434, 2435, 2436, 2437, 2438, 2439, 2440, 2441, 2442, 2443, 2444, 2413, 2414, 2415, 2416, 2417, 2418, 2419, 2420, 2421, 2422, 2423, 2396, 2397, 2398, 2399, 2400, 2401, 2402, 2403, 2404, 2405, 2406, 2407, 2408, 2409, 2410, 2411, 2412, 2383, 2384, 2385, 2386, 2387, 2388, 2389, 2390, 2391, 2392, 2393, 2394, 2395, 2486, 2487, 2488, 2489, 2490, 2491, 2492, 2493, 2494, 2495, 2496, 2497, 2498, 2463, 2464, 2465, 2466, 2467, 2468, 2469, 2470, 2471, 2472, 2424, 2425, 2426, 2427, 2428, 2429, 2430, 2431, 2432, 2445, 2446, 2447, 2448, 2449, 2450, 2451, 2452, 2453, 2454, 2455] (by decide +kernel) (by decide +kernel)) (goodIn_sub (fun _ h => List.mem_append_left _ (List.mem_append_left _ (List.mem_append_left _ (List.mem_append_left _ (List.mem_append_left _ (List.mem_append_left _ (List.mem_append_right _ h))))))) (by decide +kernel))
set_option maxRecDepth 20000 in
theorem gL_law_X11_isSound : GoodIn wsL_law (wsV RL 403 RX11 yX11_isSound wsX11_isSound) := goodIn_app (goodIn_of _ (by decide +kernel)) ggL_law_X11_isSound
set_option maxRecDepth 20000 in
theorem ggL_law_X18_isSound : GoodIn wsL_law wsX18_isSound := goodIn_r _ [2340, 387, 2355, 2356, 2357, 2358, 2359, 2360, 2361, 2362, 2363, 2364, 2365, 2366, 2367, 2368, 2369, 2370, 2371, 2372, 2373, 2374, 2375, 2376, 2377, 2378, 2379, 2380, 2381, 2382] (by decide +kernel) (by decide +kernel)
set_option maxRecDepth 20000 in
theorem gL_law_X18_isSound : GoodIn wsL_law (wsV RL 407 RX18 yX18_isSound wsX18_isSound) := goodIn_app (goodIn_of _ (by decide +kernel)) ggL_law_X18_isSound
theorem dL_law_0 : decode cL_law 0 = .ok (.new 8, 3) := by decide +kernel
theorem dL_law_3 : decode cL_law 3 = .ok (.dup, 1) := by decide +kernel
theorem dL_law_4 : decode cL_law 4 = .ok (.invokespecial 194, 3) := by decide +kernel
theorem dL_law_7 : decode cL_law 7 = .ok (.astore_n 1, 1) := by decide +kernel
theorem dL_law_8 : decode cL_law 8 = .ok (.new 195, 3) := by decide +kernel
theorem dL_law_11 : decode cL_law 11 = .ok (.dup, 1) := by decide +kernel
theorem dL_law_12 : decode cL_law 12 = .ok (.invokespecial 197, 3) := by decide +kernel
theorem dL_law_15 : decode cL_law 15 = .ok (.astore_n 2, 1) := by decide +kernel
theorem dL_law_16 : decode cL_law 16 = .ok (.iconst 1, 1) := by decide +kernel
theorem dL_law_17 : decode cL_law 17 = .ok (.newarray .long, 2) := by decide +kernel
theorem dL_law_19 : decode cL_law 19 = .ok (.astore_n 3, 1) := by decide +kernel
theorem dL_law_20 : decode cL_law 20 = .ok (.iconst 1, 1) := by decide +kernel
theorem dL_law_21 : decode cL_law 21 = .ok (.newarray .double, 2) := by decide +kernel
theorem dL_law_23 : decode cL_law 23 = .ok (.astore 4, 2) := by decide +kernel
theorem dL_law_25 : decode cL_law 25 = .ok (.iconst 0, 1) := by decide +kernel
theorem dL_law_26 : decode cL_law 26 = .ok (.istore 5, 2) := by decide +kernel
theorem dL_law_28 : decode cL_law 28 = .ok (.iload 5, 2) := by decide +kernel
theorem dL_law_30 : decode cL_law 30 = .ok (.aload_n 0, 1) := by decide +kernel
theorem dL_law_31 : decode cL_law 31 = .ok (.arraylength, 1) := by decide +kernel
theorem dL_law_32 : decode cL_law 32 = .ok (.iconst 5, 1) := by decide +kernel
theorem dL_law_33 : decode cL_law 33 = .ok (.isub, 1) := by decide +kernel
theorem dL_law_34 : decode cL_law 34 = .ok (.if_icmp .gt 3872, 3) := by decide +kernel
theorem dL_law_37 : decode cL_law 37 = .ok (.aload_n 0, 1) := by decide +kernel
theorem dL_law_38 : decode cL_law 38 = .ok (.iload 5, 2) := by decide +kernel
theorem dL_law_40 : decode cL_law 40 = .ok (.iaload, 1) := by decide +kernel
theorem dL_law_41 : decode cL_law 41 = .ok (.bipush 63, 2) := by decide +kernel
theorem dL_law_43 : decode cL_law 43 = .ok (.iand, 1) := by decide +kernel
theorem dL_law_44 : decode cL_law 44 = .ok (.tableswitch 3856 0 61 #[264, 320, 333, 346, 414, 482, 526, 610, 666, 710, 766, 822, 890, 946, 1042, 1098, 1173, 1236, 1292, 1355, 1411, 1479, 1547, 1603, 1659, 1715, 1771, 1839, 1902, 1970, 2033, 2089, 2169, 2249, 2329, 2385, 2453, 2521, 2589, 2633, 2658, 2726, 2782, 2795, 2863, 2919, 2982, 3050, 3106, 3174, 3242, 3298, 3385, 3469, 3568, 3659, 3672, 3685, 3698, 3712, 3778, 3843], 264) := by decide +kernel
theorem dL_law_308 : decode cL_law 308 = .ok (.aload_n 1, 1) := by decide +kernel
theorem dL_law_309 : decode cL_law 309 = .ok (.aload_n 0, 1) := by decide +kernel
theorem dL_law_310 : decode cL_law 310 = .ok (.iload 5, 2) := by decide +kernel
theorem dL_law_312 : decode cL_law 312 = .ok (.iconst 1, 1) := by decide +kernel
theorem dL_law_313 : decode cL_law 313 = .ok (.iadd, 1) := by decide +kernel
theorem dL_law_314 : decode cL_law 314 = .ok (.iaload, 1) := by decide +kernel
theorem dL_law_315 : decode cL_law 315 = .ok (.aload_n 3, 1) := by decide +kernel
theorem dL_law_316 : decode cL_law 316 = .ok (.invokestatic 198, 3) := by decide +kernel
theorem dL_law_319 : decode cL_law 319 = .ok (.istore 6, 2) := by decide +kernel
theorem dL_law_321 : decode cL_law 321 = .ok (.aload_n 2, 1) := by decide +kernel
theorem dL_law_322 : decode cL_law 322 = .ok (.aload_n 0, 1) := by decide +kernel
theorem dL_law_323 : decode cL_law 323 = .ok (.iload 5, 2) := by decide +kernel
theorem dL_law_325 : decode cL_law 325 = .ok (.iconst 1, 1) := by decide +kernel
theorem dL_law_326 : decode cL_law 326 = .ok (.iadd, 1) := by decide +kernel
theorem dL_law_327 : decode cL_law 327 = .ok (.iaload, 1) := by decide +kernel
theorem dL_law_328 : decode cL_law 328 = .ok (.invokevirtual 203, 3) := by decide +kernel
theorem dL_law_331 : decode cL_law 331 = .ok (.istore 7, 2) := by decide +kernel
theorem dL_law_333 : decode cL_law 333 = .ok (.aload_n 2, 1) := by decide +kernel
theorem dL_law_334 : decode cL_law 334 = .ok (.invokevirtual 204, 3) := by decide +kernel
theorem dL_law_337 : decode cL_law 337 = .ok (.iload 6, 2) := by decide +kernel
theorem dL_law_339 : decode cL_law 339 = .ok (.if_icmp .eq 5, 3) := by decide +kernel
theorem dL_law_342 : decode cL_law 342 = .ok (.iconst 0, 1) := by decide +kernel
theorem dL_law_343 : decode cL_law 343 = .ok (.ireturn, 1) := by decide +kernel
theorem dL_law_344 : decode cL_law 344 = .ok (.iload 6, 2) := by decide +kernel
theorem dL_law_346 : decode cL_law 346 = .ok (.ifCond .ne 15, 3) := by decide +kernel
theorem dL_law_349 : decode cL_law 349 = .ok (.aload_n 3, 1) := by decide +kernel
theorem dL_law_350 : decode cL_law 350 = .ok (.iconst 0, 1) := by decide +kernel
theorem dL_law_351 : decode cL_law 351 = .ok (.laload, 1) := by decide +kernel
theorem dL_law_352 : decode cL_law 352 = .ok (.iload 7, 2) := by decide +kernel
theorem dL_law_354 : decode cL_law 354 = .ok (.i2l, 1) := by decide +kernel
theorem dL_law_355 : decode cL_law 355 = .ok (.lcmp, 1) := by decide +kernel
theorem dL_law_356 : decode cL_law 356 = .ok (.ifCond .eq 5, 3) := by decide +kernel
theorem dL_law_359 : decode cL_law 359 = .ok (.iconst 0, 1) := by decide +kernel
theorem dL_law_360 : decode cL_law 360 = .ok (.ireturn, 1) := by decide +kernel
theorem dL_law_361 : decode cL_law 361 = .ok (.goto 3539, 3) := by decide +kernel
theorem dL_law_364 : decode cL_law 364 = .ok (.aload_n 1, 1) := by decide +kernel
theorem dL_law_365 : decode cL_law 365 = .ok (.invokevirtual 207, 3) := by decide +kernel
theorem dL_law_368 : decode cL_law 368 = .ok (.aload_n 2, 1) := by decide +kernel
theorem dL_law_369 : decode cL_law 369 = .ok (.invokevirtual 210, 3) := by decide +kernel
theorem dL_law_372 : decode cL_law 372 = .ok (.if_icmp .eq 3528, 3) := by decide +kernel
theorem dL_law_375 : decode cL_law 375 = .ok (.iconst 0, 1) := by decide +kernel
theorem dL_law_376 : decode cL_law 376 = .ok (.ireturn, 1) := by decide +kernel
theorem dL_law_377 : decode cL_law 377 = .ok (.aload_n 1, 1) := by decide +kernel
theorem dL_law_378 : decode cL_law 378 = .ok (.invokevirtual 211, 3) := by decide +kernel
theorem dL_law_381 : decode cL_law 381 = .ok (.aload_n 2, 1) := by decide +kernel
theorem dL_law_382 : decode cL_law 382 = .ok (.invokevirtual 214, 3) := by decide +kernel
theorem dL_law_385 : decode cL_law 385 = .ok (.if_icmp .eq 3515, 3) := by decide +kernel
theorem dL_law_388 : decode cL_law 388 = .ok (.iconst 0, 1) := by decide +kernel
theorem dL_law_389 : decode cL_law 389 = .ok (.ireturn, 1) := by decide +kernel
theorem dL_law_390 : decode cL_law 390 = .ok (.aload_n 1, 1) := by decide +kernel
theorem dL_law_391 : decode cL_law 391 = .ok (.aload_n 0, 1) := by decide +kernel
theorem dL_law_392 : decode cL_law 392 = .ok (.iload 5, 2) := by decide +kernel
theorem dL_law_394 : decode cL_law 394 = .ok (.iconst 1, 1) := by decide +kernel
theorem dL_law_395 : decode cL_law 395 = .ok (.iadd, 1) := by decide +kernel
theorem dL_law_396 : decode cL_law 396 = .ok (.iaload, 1) := by decide +kernel
theorem dL_law_397 : decode cL_law 397 = .ok (.aload_n 0, 1) := by decide +kernel
theorem dL_law_398 : decode cL_law 398 = .ok (.iload 5, 2) := by decide +kernel
theorem dL_law_400 : decode cL_law 400 = .ok (.iconst 2, 1) := by decide +kernel
theorem dL_law_401 : decode cL_law 401 = .ok (.iadd, 1) := by decide +kernel
theorem dL_law_402 : decode cL_law 402 = .ok (.iaload, 1) := by decide +kernel
theorem dL_law_403 : decode cL_law 403 = .ok (.aload_n 3, 1) := by decide +kernel
theorem dL_law_404 : decode cL_law 404 = .ok (.invokestatic 215, 3) := by decide +kernel
theorem dL_law_407 : decode cL_law 407 = .ok (.istore 6, 2) := by decide +kernel
theorem dL_law_409 : decode cL_law 409 = .ok (.aload_n 2, 1) := by decide +kernel
theorem dL_law_410 : decode cL_law 410 = .ok (.aload_n 0, 1) := by decide +kernel
theorem dL_law_411 : decode cL_law 411 = .ok (.iload 5, 2) := by decide +kernel
theorem dL_law_413 : decode cL_law 413 = .ok (.iconst 1, 1) := by decide +kernel
theorem dL_law_414 : decode cL_law 414 = .ok (.iadd, 1) := by decide +kernel
theorem dL_law_415 : decode cL_law 415 = .ok (.iaload, 1) := by decide +kernel
theorem dL_law_416 : decode cL_law 416 = .ok (.aload_n 0, 1) := by decide +kernel
theorem dL_law_417 : decode cL_law 417 = .ok (.iload 5, 2) := by decide +kernel
theorem dL_law_419 : decode cL_law 419 = .ok (.iconst 2, 1) := by decide +kernel
theorem dL_law_420 : decode cL_law 420 = .ok (.iadd, 1) := by decide +kernel
theorem dL_law_421 : decode cL_law 421 = .ok (.iaload, 1) := by decide +kernel
theorem dL_law_422 : decode cL_law 422 = .ok (.invokevirtual 218, 3) := by decide +kernel
theorem dL_law_425 : decode cL_law 425 = .ok (.istore 7, 2) := by decide +kernel
theorem dL_law_427 : decode cL_law 427 = .ok (.aload_n 2, 1) := by decide +kernel
theorem dL_law_428 : decode cL_law 428 = .ok (.invokevirtual 204, 3) := by decide +kernel
theorem dL_law_431 : decode cL_law 431 = .ok (.iload 6, 2) := by decide +kernel
theorem dL_law_433 : decode cL_law 433 = .ok (.if_icmp .eq 5, 3) := by decide +kernel
theorem dL_law_436 : decode cL_law 436 = .ok (.iconst 0, 1) := by decide +kernel
theorem dL_law_437 : decode cL_law 437 = .ok (.ireturn, 1) := by decide +kernel
theorem dL_law_438 : decode cL_law 438 = .ok (.iload 6, 2) := by decide +kernel
theorem dL_law_440 : decode cL_law 440 = .ok (.ifCond .ne 15, 3) := by decide +kernel
theorem dL_law_443 : decode cL_law 443 = .ok (.aload_n 3, 1) := by decide +kernel
theorem dL_law_444 : decode cL_law 444 = .ok (.iconst 0, 1) := by decide +kernel
theorem dL_law_445 : decode cL_law 445 = .ok (.laload, 1) := by decide +kernel
theorem dL_law_446 : decode cL_law 446 = .ok (.iload 7, 2) := by decide +kernel
theorem dL_law_448 : decode cL_law 448 = .ok (.i2l, 1) := by decide +kernel
theorem dL_law_449 : decode cL_law 449 = .ok (.lcmp, 1) := by decide +kernel
theorem dL_law_450 : decode cL_law 450 = .ok (.ifCond .eq 5, 3) := by decide +kernel
theorem dL_law_453 : decode cL_law 453 = .ok (.iconst 0, 1) := by decide +kernel
theorem dL_law_454 : decode cL_law 454 = .ok (.ireturn, 1) := by decide +kernel
theorem dL_law_455 : decode cL_law 455 = .ok (.goto 3445, 3) := by decide +kernel
theorem dL_law_458 : decode cL_law 458 = .ok (.aload_n 1, 1) := by decide +kernel
theorem dL_law_459 : decode cL_law 459 = .ok (.aload_n 0, 1) := by decide +kernel
theorem dL_law_460 : decode cL_law 460 = .ok (.iload 5, 2) := by decide +kernel
theorem dL_law_462 : decode cL_law 462 = .ok (.iconst 1, 1) := by decide +kernel
theorem dL_law_463 : decode cL_law 463 = .ok (.iadd, 1) := by decide +kernel
theorem dL_law_464 : decode cL_law 464 = .ok (.iaload, 1) := by decide +kernel
theorem dL_law_465 : decode cL_law 465 = .ok (.aload_n 0, 1) := by decide +kernel
theorem dL_law_466 : decode cL_law 466 = .ok (.iload 5, 2) := by decide +kernel
theorem dL_law_468 : decode cL_law 468 = .ok (.iconst 2, 1) := by decide +kernel
theorem dL_law_469 : decode cL_law 469 = .ok (.iadd, 1) := by decide +kernel
theorem dL_law_470 : decode cL_law 470 = .ok (.iaload, 1) := by decide +kernel
theorem dL_law_471 : decode cL_law 471 = .ok (.aload_n 3, 1) := by decide +kernel
theorem dL_law_472 : decode cL_law 472 = .ok (.invokestatic 219, 3) := by decide +kernel
theorem dL_law_475 : decode cL_law 475 = .ok (.istore 6, 2) := by decide +kernel
theorem dL_law_477 : decode cL_law 477 = .ok (.aload_n 2, 1) := by decide +kernel
theorem dL_law_478 : decode cL_law 478 = .ok (.aload_n 0, 1) := by decide +kernel
theorem dL_law_479 : decode cL_law 479 = .ok (.iload 5, 2) := by decide +kernel
theorem dL_law_481 : decode cL_law 481 = .ok (.iconst 1, 1) := by decide +kernel
theorem dL_law_482 : decode cL_law 482 = .ok (.iadd, 1) := by decide +kernel
theorem dL_law_483 : decode cL_law 483 = .ok (.iaload, 1) := by decide +kernel
theorem dL_law_484 : decode cL_law 484 = .ok (.aload_n 0, 1) := by decide +kernel
theorem dL_law_485 : decode cL_law 485 = .ok (.iload 5, 2) := by decide +kernel
theorem dL_law_487 : decode cL_law 487 = .ok (.iconst 2, 1) := by decide +kernel
theorem dL_law_488 : decode cL_law 488 = .ok (.iadd, 1) := by decide +kernel
theorem dL_law_489 : decode cL_law 489 = .ok (.iaload, 1) := by decide +kernel
theorem dL_law_490 : decode cL_law 490 = .ok (.invokevirtual 221, 3) := by decide +kernel
theorem dL_law_493 : decode cL_law 493 = .ok (.istore 7, 2) := by decide +kernel
theorem dL_law_495 : decode cL_law 495 = .ok (.aload_n 2, 1) := by decide +kernel
theorem dL_law_496 : decode cL_law 496 = .ok (.invokevirtual 204, 3) := by decide +kernel
theorem dL_law_499 : decode cL_law 499 = .ok (.iload 6, 2) := by decide +kernel
theorem dL_law_501 : decode cL_law 501 = .ok (.if_icmp .eq 5, 3) := by decide +kernel
theorem dL_law_504 : decode cL_law 504 = .ok (.iconst 0, 1) := by decide +kernel
theorem dL_law_505 : decode cL_law 505 = .ok (.ireturn, 1) := by decide +kernel
theorem dL_law_506 : decode cL_law 506 = .ok (.iload 6, 2) := by decide +kernel
theorem dL_law_508 : decode cL_law 508 = .ok (.ifCond .ne 15, 3) := by decide +kernel
theorem dL_law_511 : decode cL_law 511 = .ok (.aload_n 3, 1) := by decide +kernel
theorem dL_law_512 : decode cL_law 512 = .ok (.iconst 0, 1) := by decide +kernel
theorem dL_law_513 : decode cL_law 513 = .ok (.laload, 1) := by decide +kernel
theorem dL_law_514 : decode cL_law 514 = .ok (.iload 7, 2) := by decide +kernel
theorem dL_law_516 : decode cL_law 516 = .ok (.i2l, 1) := by decide +kernel
theorem dL_law_517 : decode cL_law 517 = .ok (.lcmp, 1) := by decide +kernel
theorem dL_law_518 : decode cL_law 518 = .ok (.ifCond .eq 5, 3) := by decide +kernel
theorem dL_law_521 : decode cL_law 521 = .ok (.iconst 0, 1) := by decide +kernel
theorem dL_law_522 : decode cL_law 522 = .ok (.ireturn, 1) := by decide +kernel
theorem dL_law_523 : decode cL_law 523 = .ok (.goto 3377, 3) := by decide +kernel
theorem dL_law_526 : decode cL_law 526 = .ok (.aload_n 1, 1) := by decide +kernel
theorem dL_law_527 : decode cL_law 527 = .ok (.aload_n 3, 1) := by decide +kernel
theorem dL_law_528 : decode cL_law 528 = .ok (.invokestatic 222, 3) := by decide +kernel
theorem dL_law_531 : decode cL_law 531 = .ok (.istore 6, 2) := by decide +kernel
theorem dL_law_533 : decode cL_law 533 = .ok (.aload_n 2, 1) := by decide +kernel
theorem dL_law_534 : decode cL_law 534 = .ok (.invokevirtual 225, 3) := by decide +kernel
theorem dL_law_537 : decode cL_law 537 = .ok (.istore 7, 2) := by decide +kernel
theorem dL_law_539 : decode cL_law 539 = .ok (.aload_n 2, 1) := by decide +kernel
theorem dL_law_540 : decode cL_law 540 = .ok (.invokevirtual 204, 3) := by decide +kernel
theorem dL_law_543 : decode cL_law 543 = .ok (.iload 6, 2) := by decide +kernel
theorem dL_law_545 : decode cL_law 545 = .ok (.if_icmp .eq 5, 3) := by decide +kernel
theorem dL_law_548 : decode cL_law 548 = .ok (.iconst 0, 1) := by decide +kernel
theorem dL_law_549 : decode cL_law 549 = .ok (.ireturn, 1) := by decide +kernel
theorem dL_law_550 : decode cL_law 550 = .ok (.iload 6, 2) := by decide +kernel
theorem dL_law_552 : decode cL_law 552 = .ok (.ifCond .ne 15, 3) := by decide +kernel
theorem dL_law_555 : decode cL_law 555 = .ok (.aload_n 3, 1) := by decide +kernel
theorem dL_law_556 : decode cL_law 556 = .ok (.iconst 0, 1) := by decide +kernel
theorem dL_law_557 : decode cL_law 557 = .ok (.laload, 1) := by decide +kernel
theorem dL_law_558 : decode cL_law 558 = .ok (.iload 7, 2) := by decide +kernel
theorem dL_law_560 : decode cL_law 560 = .ok (.i2l, 1) := by decide +kernel
theorem dL_law_561 : decode cL_law 561 = .ok (.lcmp, 1) := by decide +kernel
theorem dL_law_562 : decode cL_law 562 = .ok (.ifCond .eq 5, 3) := by decide +kernel
theorem dL_law_565 : decode cL_law 565 = .ok (.iconst 0, 1) := by decide +kernel
theorem dL_law_566 : decode cL_law 566 = .ok (.ireturn, 1) := by decide +kernel
theorem dL_law_567 : decode cL_law 567 = .ok (.goto 3333, 3) := by decide +kernel
theorem dL_law_570 : decode cL_law 570 = .ok (.aload_n 1, 1) := by decide +kernel
theorem dL_law_571 : decode cL_law 571 = .ok (.aload_n 0, 1) := by decide +kernel
theorem dL_law_572 : decode cL_law 572 = .ok (.iload 5, 2) := by decide +kernel
theorem dL_law_574 : decode cL_law 574 = .ok (.iconst 1, 1) := by decide +kernel
theorem dL_law_575 : decode cL_law 575 = .ok (.iadd, 1) := by decide +kernel
theorem dL_law_576 : decode cL_law 576 = .ok (.iaload, 1) := by decide +kernel
theorem dL_law_577 : decode cL_law 577 = .ok (.aload_n 0, 1) := by decide +kernel
theorem dL_law_578 : decode cL_law 578 = .ok (.iload 5, 2) := by decide +kernel
theorem dL_law_580 : decode cL_law 580 = .ok (.iconst 2, 1) := by decide +kernel
theorem dL_law_581 : decode cL_law 581 = .ok (.iadd, 1) := by decide +kernel
theorem dL_law_582 : decode cL_law 582 = .ok (.iaload, 1) := by decide +kernel
theorem dL_law_583 : decode cL_law 583 = .ok (.ifCond .eq 7, 3) := by decide +kernel
theorem dL_law_586 : decode cL_law 586 = .ok (.iconst 1, 1) := by decide +kernel
theorem dL_law_587 : decode cL_law 587 = .ok (.goto 4, 3) := by decide +kernel
theorem dL_law_590 : decode cL_law 590 = .ok (.iconst 0, 1) := by decide +kernel
theorem dL_law_591 : decode cL_law 591 = .ok (.aload_n 3, 1) := by decide +kernel
theorem dL_law_592 : decode cL_law 592 = .ok (.invokestatic 226, 3) := by decide +kernel
theorem dL_law_595 : decode cL_law 595 = .ok (.istore 6, 2) := by decide +kernel
theorem dL_law_597 : decode cL_law 597 = .ok (.aload_n 2, 1) := by decide +kernel
theorem dL_law_598 : decode cL_law 598 = .ok (.aload_n 0, 1) := by decide +kernel
theorem dL_law_599 : decode cL_law 599 = .ok (.iload 5, 2) := by decide +kernel
theorem dL_law_601 : decode cL_law 601 = .ok (.iconst 1, 1) := by decide +kernel
theorem dL_law_602 : decode cL_law 602 = .ok (.iadd, 1) := by decide +kernel
theorem dL_law_603 : decode cL_law 603 = .ok (.iaload, 1) := by decide +kernel
theorem dL_law_604 : decode cL_law 604 = .ok (.aload_n 0, 1) := by decide +kernel
theorem dL_law_605 : decode cL_law 605 = .ok (.iload 5, 2) := by decide +kernel
theorem dL_law_607 : decode cL_law 607 = .ok (.iconst 2, 1) := by decide +kernel
theorem dL_law_608 : decode cL_law 608 = .ok (.iadd, 1) := by decide +kernel
theorem dL_law_609 : decode cL_law 609 = .ok (.iaload, 1) := by decide +kernel
theorem dL_law_610 : decode cL_law 610 = .ok (.ifCond .eq 7, 3) := by decide +kernel
theorem dL_law_613 : decode cL_law 613 = .ok (.iconst 1, 1) := by decide +kernel
theorem dL_law_614 : decode cL_law 614 = .ok (.goto 4, 3) := by decide +kernel
theorem dL_law_617 : decode cL_law 617 = .ok (.iconst 0, 1) := by decide +kernel
theorem dL_law_618 : decode cL_law 618 = .ok (.invokevirtual 229, 3) := by decide +kernel
theorem dL_law_621 : decode cL_law 621 = .ok (.istore 7, 2) := by decide +kernel
theorem dL_law_623 : decode cL_law 623 = .ok (.aload_n 2, 1) := by decide +kernel
theorem dL_law_624 : decode cL_law 624 = .ok (.invokevirtual 204, 3) := by decide +kernel
theorem dL_law_627 : decode cL_law 627 = .ok (.iload 6, 2) := by decide +kernel
theorem dL_law_629 : decode cL_law 629 = .ok (.if_icmp .eq 5, 3) := by decide +kernel
theorem dL_law_632 : decode cL_law 632 = .ok (.iconst 0, 1) := by decide +kernel
theorem dL_law_633 : decode cL_law 633 = .ok (.ireturn, 1) := by decide +kernel
theorem dL_law_634 : decode cL_law 634 = .ok (.iload 6, 2) := by decide +kernel
theorem dL_law_636 : decode cL_law 636 = .ok (.ifCond .ne 15, 3) := by decide +kernel
theorem dL_law_639 : decode cL_law 639 = .ok (.aload_n 3, 1) := by decide +kernel
theorem dL_law_640 : decode cL_law 640 = .ok (.iconst 0, 1) := by decide +kernel
theorem dL_law_641 : decode cL_law 641 = .ok (.laload, 1) := by decide +kernel
theorem dL_law_642 : decode cL_law 642 = .ok (.iload 7, 2) := by decide +kernel
theorem dL_law_644 : decode cL_law 644 = .ok (.i2l, 1) := by decide +kernel
theorem dL_law_645 : decode cL_law 645 = .ok (.lcmp, 1) := by decide +kernel
theorem dL_law_646 : decode cL_law 646 = .ok (.ifCond .eq 5, 3) := by decide +kernel
theorem dL_law_649 : decode cL_law 649 = .ok (.iconst 0, 1) := by decide +kernel
theorem dL_law_650 : decode cL_law 650 = .ok (.ireturn, 1) := by decide +kernel
theorem dL_law_651 : decode cL_law 651 = .ok (.goto 3249, 3) := by decide +kernel
theorem dL_law_654 : decode cL_law 654 = .ok (.aload_n 1, 1) := by decide +kernel
theorem dL_law_655 : decode cL_law 655 = .ok (.aload_n 0, 1) := by decide +kernel
theorem dL_law_656 : decode cL_law 656 = .ok (.iload 5, 2) := by decide +kernel
theorem dL_law_658 : decode cL_law 658 = .ok (.iconst 1, 1) := by decide +kernel
theorem dL_law_659 : decode cL_law 659 = .ok (.iadd, 1) := by decide +kernel
theorem dL_law_660 : decode cL_law 660 = .ok (.iaload, 1) := by decide +kernel
theorem dL_law_661 : decode cL_law 661 = .ok (.aload_n 3, 1) := by decide +kernel
theorem dL_law_662 : decode cL_law 662 = .ok (.invokestatic 230, 3) := by decide +kernel
theorem dL_law_665 : decode cL_law 665 = .ok (.istore 6, 2) := by decide +kernel
theorem dL_law_667 : decode cL_law 667 = .ok (.aload_n 2, 1) := by decide +kernel
theorem dL_law_668 : decode cL_law 668 = .ok (.aload_n 0, 1) := by decide +kernel
theorem dL_law_669 : decode cL_law 669 = .ok (.iload 5, 2) := by decide +kernel
theorem dL_law_671 : decode cL_law 671 = .ok (.iconst 1, 1) := by decide +kernel
theorem dL_law_672 : decode cL_law 672 = .ok (.iadd, 1) := by decide +kernel
theorem dL_law_673 : decode cL_law 673 = .ok (.iaload, 1) := by decide +kernel
theorem dL_law_674 : decode cL_law 674 = .ok (.invokevirtual 232, 3) := by decide +kernel
theorem dL_law_677 : decode cL_law 677 = .ok (.istore 7, 2) := by decide +kernel
theorem dL_law_679 : decode cL_law 679 = .ok (.aload_n 2, 1) := by decide +kernel
theorem dL_law_680 : decode cL_law 680 = .ok (.invokevirtual 204, 3) := by decide +kernel
theorem dL_law_683 : decode cL_law 683 = .ok (.iload 6, 2) := by decide +kernel
theorem dL_law_685 : decode cL_law 685 = .ok (.if_icmp .eq 5, 3) := by decide +kernel
theorem dL_law_688 : decode cL_law 688 = .ok (.iconst 0, 1) := by decide +kernel
theorem dL_law_689 : decode cL_law 689 = .ok (.ireturn, 1) := by decide +kernel
theorem dL_law_690 : decode cL_law 690 = .ok (.iload 6, 2) := by decide +kernel
theorem dL_law_692 : decode cL_law 692 = .ok (.ifCond .ne 15, 3) := by decide +kernel
theorem dL_law_695 : decode cL_law 695 = .ok (.aload_n 3, 1) := by decide +kernel
theorem dL_law_696 : decode cL_law 696 = .ok (.iconst 0, 1) := by decide +kernel
theorem dL_law_697 : decode cL_law 697 = .ok (.laload, 1) := by decide +kernel
theorem dL_law_698 : decode cL_law 698 = .ok (.iload 7, 2) := by decide +kernel
theorem dL_law_700 : decode cL_law 700 = .ok (.i2l, 1) := by decide +kernel
theorem dL_law_701 : decode cL_law 701 = .ok (.lcmp, 1) := by decide +kernel
theorem dL_law_702 : decode cL_law 702 = .ok (.ifCond .eq 5, 3) := by decide +kernel
theorem dL_law_705 : decode cL_law 705 = .ok (.iconst 0, 1) := by decide +kernel
theorem dL_law_706 : decode cL_law 706 = .ok (.ireturn, 1) := by decide +kernel
theorem dL_law_707 : decode cL_law 707 = .ok (.goto 3193, 3) := by decide +kernel
theorem dL_law_710 : decode cL_law 710 = .ok (.aload_n 1, 1) := by decide +kernel
theorem dL_law_711 : decode cL_law 711 = .ok (.aload_n 3, 1) := by decide +kernel
theorem dL_law_712 : decode cL_law 712 = .ok (.invokestatic 233, 3) := by decide +kernel
theorem dL_law_715 : decode cL_law 715 = .ok (.istore 6, 2) := by decide +kernel
theorem dL_law_717 : decode cL_law 717 = .ok (.aload_n 2, 1) := by decide +kernel
theorem dL_law_718 : decode cL_law 718 = .ok (.invokevirtual 235, 3) := by decide +kernel
theorem dL_law_721 : decode cL_law 721 = .ok (.istore 7, 2) := by decide +kernel
theorem dL_law_723 : decode cL_law 723 = .ok (.aload_n 2, 1) := by decide +kernel
theorem dL_law_724 : decode cL_law 724 = .ok (.invokevirtual 204, 3) := by decide +kernel
theorem dL_law_727 : decode cL_law 727 = .ok (.iload 6, 2) := by decide +kernel
theorem dL_law_729 : decode cL_law 729 = .ok (.if_icmp .eq 5, 3) := by decide +kernel
theorem dL_law_732 : decode cL_law 732 = .ok (.iconst 0, 1) := by decide +kernel
theorem dL_law_733 : decode cL_law 733 = .ok (.ireturn, 1) := by decide +kernel
theorem dL_law_734 : decode cL_law 734 = .ok (.iload 6, 2) := by decide +kernel
theorem dL_law_736 : decode cL_law 736 = .ok (.ifCond .ne 15, 3) := by decide +kernel
theorem dL_law_739 : decode cL_law 739 = .ok (.aload_n 3, 1) := by decide +kernel
theorem dL_law_740 : decode cL_law 740 = .ok (.iconst 0, 1) := by decide +kernel
theorem dL_law_741 : decode cL_law 741 = .ok (.laload, 1) := by decide +kernel
theorem dL_law_742 : decode cL_law 742 = .ok (.iload 7, 2) := by decide +kernel
theorem dL_law_744 : decode cL_law 744 = .ok (.i2l, 1) := by decide +kernel
theorem dL_law_745 : decode cL_law 745 = .ok (.lcmp, 1) := by decide +kernel
theorem dL_law_746 : decode cL_law 746 = .ok (.ifCond .eq 5, 3) := by decide +kernel
theorem dL_law_749 : decode cL_law 749 = .ok (.iconst 0, 1) := by decide +kernel
theorem dL_law_750 : decode cL_law 750 = .ok (.ireturn, 1) := by decide +kernel
theorem dL_law_751 : decode cL_law 751 = .ok (.goto 3149, 3) := by decide +kernel
theorem dL_law_754 : decode cL_law 754 = .ok (.aload_n 1, 1) := by decide +kernel
theorem dL_law_755 : decode cL_law 755 = .ok (.aload_n 0, 1) := by decide +kernel
theorem dL_law_756 : decode cL_law 756 = .ok (.iload 5, 2) := by decide +kernel
theorem dL_law_758 : decode cL_law 758 = .ok (.iconst 1, 1) := by decide +kernel
theorem dL_law_759 : decode cL_law 759 = .ok (.iadd, 1) := by decide +kernel
theorem dL_law_760 : decode cL_law 760 = .ok (.iaload, 1) := by decide +kernel
theorem dL_law_761 : decode cL_law 761 = .ok (.aload_n 3, 1) := by decide +kernel
theorem dL_law_762 : decode cL_law 762 = .ok (.invokestatic 236, 3) := by decide +kernel
theorem dL_law_765 : decode cL_law 765 = .ok (.istore 6, 2) := by decide +kernel
theorem dL_law_767 : decode cL_law 767 = .ok (.aload_n 2, 1) := by decide +kernel
theorem dL_law_768 : decode cL_law 768 = .ok (.aload_n 0, 1) := by decide +kernel
theorem dL_law_769 : decode cL_law 769 = .ok (.iload 5, 2) := by decide +kernel
theorem dL_law_771 : decode cL_law 771 = .ok (.iconst 1, 1) := by decide +kernel
theorem dL_law_772 : decode cL_law 772 = .ok (.iadd, 1) := by decide +kernel
theorem dL_law_773 : decode cL_law 773 = .ok (.iaload, 1) := by decide +kernel
theorem dL_law_774 : decode cL_law 774 = .ok (.invokevirtual 238, 3) := by decide +kernel
theorem dL_law_777 : decode cL_law 777 = .ok (.istore 7, 2) := by decide +kernel
theorem dL_law_779 : decode cL_law 779 = .ok (.aload_n 2, 1) := by decide +kernel
theorem dL_law_780 : decode cL_law 780 = .ok (.invokevirtual 204, 3) := by decide +kernel
theorem dL_law_783 : decode cL_law 783 = .ok (.iload 6, 2) := by decide +kernel
theorem dL_law_785 : decode cL_law 785 = .ok (.if_icmp .eq 5, 3) := by decide +kernel
theorem dL_law_788 : decode cL_law 788 = .ok (.iconst 0, 1) := by decide +kernel
theorem dL_law_789 : decode cL_law 789 = .ok (.ireturn, 1) := by decide +kernel
theorem dL_law_790 : decode cL_law 790 = .ok (.iload 6, 2) := by decide +kernel
theorem dL_law_792 : decode cL_law 792 = .ok (.ifCond .ne 15, 3) := by decide +kernel
theorem dL_law_795 : decode cL_law 795 = .ok (.aload_n 3, 1) := by decide +kernel
theorem dL_law_796 : decode cL_law 796 = .ok (.iconst 0, 1) := by decide +kernel
theorem dL_law_797 : decode cL_law 797 = .ok (.laload, 1) := by decide +kernel
theorem dL_law_798 : decode cL_law 798 = .ok (.iload 7, 2) := by decide +kernel
theorem dL_law_800 : decode cL_law 800 = .ok (.i2l, 1) := by decide +kernel
theorem dL_law_801 : decode cL_law 801 = .ok (.lcmp, 1) := by decide +kernel
theorem dL_law_802 : decode cL_law 802 = .ok (.ifCond .eq 5, 3) := by decide +kernel
theorem dL_law_805 : decode cL_law 805 = .ok (.iconst 0, 1) := by decide +kernel
theorem dL_law_806 : decode cL_law 806 = .ok (.ireturn, 1) := by decide +kernel
theorem dL_law_807 : decode cL_law 807 = .ok (.goto 3093, 3) := by decide +kernel
theorem dL_law_810 : decode cL_law 810 = .ok (.aload_n 1, 1) := by decide +kernel
theorem dL_law_811 : decode cL_law 811 = .ok (.aload_n 0, 1) := by decide +kernel
theorem dL_law_812 : decode cL_law 812 = .ok (.iload 5, 2) := by decide +kernel
theorem dL_law_814 : decode cL_law 814 = .ok (.iconst 1, 1) := by decide +kernel
theorem dL_law_815 : decode cL_law 815 = .ok (.iadd, 1) := by decide +kernel
theorem dL_law_816 : decode cL_law 816 = .ok (.iaload, 1) := by decide +kernel
theorem dL_law_817 : decode cL_law 817 = .ok (.aload_n 3, 1) := by decide +kernel
theorem dL_law_818 : decode cL_law 818 = .ok (.invokestatic 239, 3) := by decide +kernel
theorem dL_law_821 : decode cL_law 821 = .ok (.istore 6, 2) := by decide +kernel
theorem dL_law_823 : decode cL_law 823 = .ok (.aload_n 2, 1) := by decide +kernel
theorem dL_law_824 : decode cL_law 824 = .ok (.aload_n 0, 1) := by decide +kernel
theorem dL_law_825 : decode cL_law 825 = .ok (.iload 5, 2) := by decide +kernel
theorem dL_law_827 : decode cL_law 827 = .ok (.iconst 1, 1) := by decide +kernel
theorem dL_law_828 : decode cL_law 828 = .ok (.iadd, 1) := by decide +kernel
theorem dL_law_829 : decode cL_law 829 = .ok (.iaload, 1) := by decide +kernel
theorem dL_law_830 : decode cL_law 830 = .ok (.invokevirtual 241, 3) := by decide +kernel
theorem dL_law_833 : decode cL_law 833 = .ok (.istore 7, 2) := by decide +kernel
theorem dL_law_835 : decode cL_law 835 = .ok (.aload_n 2, 1) := by decide +kernel
theorem dL_law_836 : decode cL_law 836 = .ok (.invokevirtual 204, 3) := by decide +kernel
theorem dL_law_839 : decode cL_law 839 = .ok (.iload 6, 2) := by decide +kernel
theorem dL_law_841 : decode cL_law 841 = .ok (.if_icmp .eq 5, 3) := by decide +kernel
theorem dL_law_844 : decode cL_law 844 = .ok (.iconst 0, 1) := by decide +kernel
theorem dL_law_845 : decode cL_law 845 = .ok (.ireturn, 1) := by decide +kernel
theorem dL_law_846 : decode cL_law 846 = .ok (.iload 6, 2) := by decide +kernel
theorem dL_law_848 : decode cL_law 848 = .ok (.ifCond .ne 15, 3) := by decide +kernel
theorem dL_law_851 : decode cL_law 851 = .ok (.aload_n 3, 1) := by decide +kernel
theorem dL_law_852 : decode cL_law 852 = .ok (.iconst 0, 1) := by decide +kernel
theorem dL_law_853 : decode cL_law 853 = .ok (.laload, 1) := by decide +kernel
theorem dL_law_854 : decode cL_law 854 = .ok (.iload 7, 2) := by decide +kernel
theorem dL_law_856 : decode cL_law 856 = .ok (.i2l, 1) := by decide +kernel
theorem dL_law_857 : decode cL_law 857 = .ok (.lcmp, 1) := by decide +kernel
theorem dL_law_858 : decode cL_law 858 = .ok (.ifCond .eq 5, 3) := by decide +kernel
theorem dL_law_861 : decode cL_law 861 = .ok (.iconst 0, 1) := by decide +kernel
theorem dL_law_862 : decode cL_law 862 = .ok (.ireturn, 1) := by decide +kernel
theorem dL_law_863 : decode cL_law 863 = .ok (.goto 3037, 3) := by decide +kernel
theorem dL_law_866 : decode cL_law 866 = .ok (.aload_n 1, 1) := by decide +kernel
theorem dL_law_867 : decode cL_law 867 = .ok (.aload_n 0, 1) := by decide +kernel
theorem dL_law_868 : decode cL_law 868 = .ok (.iload 5, 2) := by decide +kernel
theorem dL_law_870 : decode cL_law 870 = .ok (.iconst 1, 1) := by decide +kernel
theorem dL_law_871 : decode cL_law 871 = .ok (.iadd, 1) := by decide +kernel
theorem dL_law_872 : decode cL_law 872 = .ok (.iaload, 1) := by decide +kernel
theorem dL_law_873 : decode cL_law 873 = .ok (.aload_n 0, 1) := by decide +kernel
theorem dL_law_874 : decode cL_law 874 = .ok (.iload 5, 2) := by decide +kernel
theorem dL_law_876 : decode cL_law 876 = .ok (.iconst 2, 1) := by decide +kernel
theorem dL_law_877 : decode cL_law 877 = .ok (.iadd, 1) := by decide +kernel
theorem dL_law_878 : decode cL_law 878 = .ok (.iaload, 1) := by decide +kernel
theorem dL_law_879 : decode cL_law 879 = .ok (.aload_n 3, 1) := by decide +kernel
theorem dL_law_880 : decode cL_law 880 = .ok (.invokestatic 242, 3) := by decide +kernel
theorem dL_law_883 : decode cL_law 883 = .ok (.istore 6, 2) := by decide +kernel
theorem dL_law_885 : decode cL_law 885 = .ok (.aload_n 2, 1) := by decide +kernel
theorem dL_law_886 : decode cL_law 886 = .ok (.aload_n 0, 1) := by decide +kernel
theorem dL_law_887 : decode cL_law 887 = .ok (.iload 5, 2) := by decide +kernel
theorem dL_law_889 : decode cL_law 889 = .ok (.iconst 1, 1) := by decide +kernel
theorem dL_law_890 : decode cL_law 890 = .ok (.iadd, 1) := by decide +kernel
theorem dL_law_891 : decode cL_law 891 = .ok (.iaload, 1) := by decide +kernel
theorem dL_law_892 : decode cL_law 892 = .ok (.aload_n 0, 1) := by decide +kernel
theorem dL_law_893 : decode cL_law 893 = .ok (.iload 5, 2) := by decide +kernel
theorem dL_law_895 : decode cL_law 895 = .ok (.iconst 2, 1) := by decide +kernel
theorem dL_law_896 : decode cL_law 896 = .ok (.iadd, 1) := by decide +kernel
theorem dL_law_897 : decode cL_law 897 = .ok (.iaload, 1) := by decide +kernel
theorem dL_law_898 : decode cL_law 898 = .ok (.invokevirtual 244, 3) := by decide +kernel
theorem dL_law_901 : decode cL_law 901 = .ok (.istore 7, 2) := by decide +kernel
theorem dL_law_903 : decode cL_law 903 = .ok (.aload_n 2, 1) := by decide +kernel
theorem dL_law_904 : decode cL_law 904 = .ok (.invokevirtual 204, 3) := by decide +kernel
theorem dL_law_907 : decode cL_law 907 = .ok (.iload 6, 2) := by decide +kernel
theorem dL_law_909 : decode cL_law 909 = .ok (.if_icmp .eq 5, 3) := by decide +kernel
theorem dL_law_912 : decode cL_law 912 = .ok (.iconst 0, 1) := by decide +kernel
theorem dL_law_913 : decode cL_law 913 = .ok (.ireturn, 1) := by decide +kernel
theorem dL_law_914 : decode cL_law 914 = .ok (.iload 6, 2) := by decide +kernel
theorem dL_law_916 : decode cL_law 916 = .ok (.ifCond .ne 15, 3) := by decide +kernel
theorem dL_law_919 : decode cL_law 919 = .ok (.aload_n 3, 1) := by decide +kernel
theorem dL_law_920 : decode cL_law 920 = .ok (.iconst 0, 1) := by decide +kernel
theorem dL_law_921 : decode cL_law 921 = .ok (.laload, 1) := by decide +kernel
theorem dL_law_922 : decode cL_law 922 = .ok (.iload 7, 2) := by decide +kernel
theorem dL_law_924 : decode cL_law 924 = .ok (.i2l, 1) := by decide +kernel
theorem dL_law_925 : decode cL_law 925 = .ok (.lcmp, 1) := by decide +kernel
theorem dL_law_926 : decode cL_law 926 = .ok (.ifCond .eq 5, 3) := by decide +kernel
theorem dL_law_929 : decode cL_law 929 = .ok (.iconst 0, 1) := by decide +kernel
theorem dL_law_930 : decode cL_law 930 = .ok (.ireturn, 1) := by decide +kernel
theorem dL_law_931 : decode cL_law 931 = .ok (.goto 2969, 3) := by decide +kernel
theorem dL_law_934 : decode cL_law 934 = .ok (.aload_n 1, 1) := by decide +kernel
theorem dL_law_935 : decode cL_law 935 = .ok (.aload_n 0, 1) := by decide +kernel
theorem dL_law_936 : decode cL_law 936 = .ok (.iload 5, 2) := by decide +kernel
theorem dL_law_938 : decode cL_law 938 = .ok (.iconst 1, 1) := by decide +kernel
theorem dL_law_939 : decode cL_law 939 = .ok (.iadd, 1) := by decide +kernel
theorem dL_law_940 : decode cL_law 940 = .ok (.iaload, 1) := by decide +kernel
theorem dL_law_941 : decode cL_law 941 = .ok (.aload_n 3, 1) := by decide +kernel
theorem dL_law_942 : decode cL_law 942 = .ok (.invokestatic 245, 3) := by decide +kernel
theorem dL_law_945 : decode cL_law 945 = .ok (.istore 6, 2) := by decide +kernel
theorem dL_law_947 : decode cL_law 947 = .ok (.aload_n 2, 1) := by decide +kernel
theorem dL_law_948 : decode cL_law 948 = .ok (.aload_n 0, 1) := by decide +kernel
theorem dL_law_949 : decode cL_law 949 = .ok (.iload 5, 2) := by decide +kernel
theorem dL_law_951 : decode cL_law 951 = .ok (.iconst 1, 1) := by decide +kernel
theorem dL_law_952 : decode cL_law 952 = .ok (.iadd, 1) := by decide +kernel
theorem dL_law_953 : decode cL_law 953 = .ok (.iaload, 1) := by decide +kernel
theorem dL_law_954 : decode cL_law 954 = .ok (.invokevirtual 247, 3) := by decide +kernel
theorem dL_law_957 : decode cL_law 957 = .ok (.istore 7, 2) := by decide +kernel
theorem dL_law_959 : decode cL_law 959 = .ok (.aload_n 2, 1) := by decide +kernel
theorem dL_law_960 : decode cL_law 960 = .ok (.invokevirtual 204, 3) := by decide +kernel
theorem dL_law_963 : decode cL_law 963 = .ok (.iload 6, 2) := by decide +kernel
theorem dL_law_965 : decode cL_law 965 = .ok (.if_icmp .eq 5, 3) := by decide +kernel
theorem dL_law_968 : decode cL_law 968 = .ok (.iconst 0, 1) := by decide +kernel
theorem dL_law_969 : decode cL_law 969 = .ok (.ireturn, 1) := by decide +kernel
theorem dL_law_970 : decode cL_law 970 = .ok (.iload 6, 2) := by decide +kernel
theorem dL_law_972 : decode cL_law 972 = .ok (.ifCond .ne 15, 3) := by decide +kernel
theorem dL_law_975 : decode cL_law 975 = .ok (.aload_n 3, 1) := by decide +kernel
theorem dL_law_976 : decode cL_law 976 = .ok (.iconst 0, 1) := by decide +kernel
theorem dL_law_977 : decode cL_law 977 = .ok (.laload, 1) := by decide +kernel
theorem dL_law_978 : decode cL_law 978 = .ok (.iload 7, 2) := by decide +kernel
theorem dL_law_980 : decode cL_law 980 = .ok (.i2l, 1) := by decide +kernel
theorem dL_law_981 : decode cL_law 981 = .ok (.lcmp, 1) := by decide +kernel
theorem dL_law_982 : decode cL_law 982 = .ok (.ifCond .eq 5, 3) := by decide +kernel
theorem dL_law_985 : decode cL_law 985 = .ok (.iconst 0, 1) := by decide +kernel
theorem dL_law_986 : decode cL_law 986 = .ok (.ireturn, 1) := by decide +kernel
theorem dL_law_987 : decode cL_law 987 = .ok (.goto 2913, 3) := by decide +kernel
theorem dL_law_990 : decode cL_law 990 = .ok (.aload_n 1, 1) := by decide +kernel
theorem dL_law_991 : decode cL_law 991 = .ok (.aload_n 0, 1) := by decide +kernel
theorem dL_law_992 : decode cL_law 992 = .ok (.iload 5, 2) := by decide +kernel
theorem dL_law_994 : decode cL_law 994 = .ok (.iconst 1, 1) := by decide +kernel
theorem dL_law_995 : decode cL_law 995 = .ok (.iadd, 1) := by decide +kernel
theorem dL_law_996 : decode cL_law 996 = .ok (.iaload, 1) := by decide +kernel
theorem dL_law_997 : decode cL_law 997 = .ok (.aload_n 0, 1) := by decide +kernel
theorem dL_law_998 : decode cL_law 998 = .ok (.iload 5, 2) := by decide +kernel
theorem dL_law_1000 : decode cL_law 1000 = .ok (.iconst 2, 1) := by decide +kernel
theorem dL_law_1001 : decode cL_law 1001 = .ok (.iadd, 1) := by decide +kernel
theorem dL_law_1002 : decode cL_law 1002 = .ok (.iaload, 1) := by decide +kernel
theorem dL_law_1003 : decode cL_law 1003 = .ok (.aload_n 0, 1) := by decide +kernel
theorem dL_law_1004 : decode cL_law 1004 = .ok (.iload 5, 2) := by decide +kernel
theorem dL_law_1006 : decode cL_law 1006 = .ok (.iconst 3, 1) := by decide +kernel
theorem dL_law_1007 : decode cL_law 1007 = .ok (.iadd, 1) := by decide +kernel
theorem dL_law_1008 : decode cL_law 1008 = .ok (.iaload, 1) := by decide +kernel
theorem dL_law_1009 : decode cL_law 1009 = .ok (.ifCond .eq 7, 3) := by decide +kernel
theorem dL_law_1012 : decode cL_law 1012 = .ok (.iconst 1, 1) := by decide +kernel
theorem dL_law_1013 : decode cL_law 1013 = .ok (.goto 4, 3) := by decide +kernel
theorem dL_law_1016 : decode cL_law 1016 = .ok (.iconst 0, 1) := by decide +kernel
theorem dL_law_1017 : decode cL_law 1017 = .ok (.aload_n 3, 1) := by decide +kernel
theorem dL_law_1018 : decode cL_law 1018 = .ok (.invokestatic 248, 3) := by decide +kernel
theorem dL_law_1021 : decode cL_law 1021 = .ok (.istore 6, 2) := by decide +kernel
theorem dL_law_1023 : decode cL_law 1023 = .ok (.aload_n 2, 1) := by decide +kernel
theorem dL_law_1024 : decode cL_law 1024 = .ok (.aload_n 0, 1) := by decide +kernel
theorem dL_law_1025 : decode cL_law 1025 = .ok (.iload 5, 2) := by decide +kernel
theorem dL_law_1027 : decode cL_law 1027 = .ok (.iconst 1, 1) := by decide +kernel
theorem dL_law_1028 : decode cL_law 1028 = .ok (.iadd, 1) := by decide +kernel
theorem dL_law_1029 : decode cL_law 1029 = .ok (.iaload, 1) := by decide +kernel
theorem dL_law_1030 : decode cL_law 1030 = .ok (.aload_n 0, 1) := by decide +kernel
theorem dL_law_1031 : decode cL_law 1031 = .ok (.iload 5, 2) := by decide +kernel
theorem dL_law_1033 : decode cL_law 1033 = .ok (.iconst 2, 1) := by decide +kernel
theorem dL_law_1034 : decode cL_law 1034 = .ok (.iadd, 1) := by decide +kernel
theorem dL_law_1035 : decode cL_law 1035 = .ok (.iaload, 1) := by decide +kernel
theorem dL_law_1036 : decode cL_law 1036 = .ok (.aload_n 0, 1) := by decide +kernel
theorem dL_law_1037 : decode cL_law 1037 = .ok (.iload 5, 2) := by decide +kernel
theorem dL_law_1039 : decode cL_law 1039 = .ok (.iconst 3, 1) := by decide +kernel
theorem dL_law_1040 : decode cL_law 1040 = .ok (.iadd, 1) := by decide +kernel
theorem dL_law_1041 : decode cL_law 1041 = .ok (.iaload, 1) := by decide +kernel
theorem dL_law_1042 : decode cL_law 1042 = .ok (.ifCond .eq 7, 3) := by decide +kernel
theorem dL_law_1045 : decode cL_law 1045 = .ok (.iconst 1, 1) := by decide +kernel
theorem dL_law_1046 : decode cL_law 1046 = .ok (.goto 4, 3) := by decide +kernel
theorem dL_law_1049 : decode cL_law 1049 = .ok (.iconst 0, 1) := by decide +kernel
theorem dL_law_1050 : decode cL_law 1050 = .ok (.invokevirtual 251, 3) := by decide +kernel
theorem dL_law_1053 : decode cL_law 1053 = .ok (.istore 7, 2) := by decide +kernel
theorem dL_law_1055 : decode cL_law 1055 = .ok (.aload_n 2, 1) := by decide +kernel
theorem dL_law_1056 : decode cL_law 1056 = .ok (.invokevirtual 204, 3) := by decide +kernel
theorem dL_law_1059 : decode cL_law 1059 = .ok (.iload 6, 2) := by decide +kernel
theorem dL_law_1061 : decode cL_law 1061 = .ok (.if_icmp .eq 5, 3) := by decide +kernel
theorem dL_law_1064 : decode cL_law 1064 = .ok (.iconst 0, 1) := by decide +kernel
theorem dL_law_1065 : decode cL_law 1065 = .ok (.ireturn, 1) := by decide +kernel
theorem dL_law_1066 : decode cL_law 1066 = .ok (.iload 6, 2) := by decide +kernel
theorem dL_law_1068 : decode cL_law 1068 = .ok (.ifCond .ne 15, 3) := by decide +kernel
theorem dL_law_1071 : decode cL_law 1071 = .ok (.aload_n 3, 1) := by decide +kernel
theorem dL_law_1072 : decode cL_law 1072 = .ok (.iconst 0, 1) := by decide +kernel
theorem dL_law_1073 : decode cL_law 1073 = .ok (.laload, 1) := by decide +kernel
theorem dL_law_1074 : decode cL_law 1074 = .ok (.iload 7, 2) := by decide +kernel
theorem dL_law_1076 : decode cL_law 1076 = .ok (.i2l, 1) := by decide +kernel
theorem dL_law_1077 : decode cL_law 1077 = .ok (.lcmp, 1) := by decide +kernel
theorem dL_law_1078 : decode cL_law 1078 = .ok (.ifCond .eq 5, 3) := by decide +kernel
theorem dL_law_1081 : decode cL_law 1081 = .ok (.iconst 0, 1) := by decide +kernel
theorem dL_law_1082 : decode cL_law 1082 = .ok (.ireturn, 1) := by decide +kernel
theorem dL_law_1083 : decode cL_law 1083 = .ok (.goto 2817, 3) := by decide +kernel
theorem dL_law_1086 : decode cL_law 1086 = .ok (.aload_n 1, 1) := by decide +kernel
theorem dL_law_1087 : decode cL_law 1087 = .ok (.aload_n 0, 1) := by decide +kernel
theorem dL_law_1088 : decode cL_law 1088 = .ok (.iload 5, 2) := by decide +kernel
theorem dL_law_1090 : decode cL_law 1090 = .ok (.iconst 1, 1) := by decide +kernel
theorem dL_law_1091 : decode cL_law 1091 = .ok (.iadd, 1) := by decide +kernel
theorem dL_law_1092 : decode cL_law 1092 = .ok (.iaload, 1) := by decide +kernel
theorem dL_law_1093 : decode cL_law 1093 = .ok (.aload_n 3, 1) := by decide +kernel
theorem dL_law_1094 : decode cL_law 1094 = .ok (.invokestatic 252, 3) := by decide +kernel
theorem dL_law_1097 : decode cL_law 1097 = .ok (.istore 6, 2) := by decide +kernel
theorem dL_law_1099 : decode cL_law 1099 = .ok (.aload_n 2, 1) := by decide +kernel
theorem dL_law_1100 : decode cL_law 1100 = .ok (.aload_n 0, 1) := by decide +kernel
theorem dL_law_1101 : decode cL_law 1101 = .ok (.iload 5, 2) := by decide +kernel
theorem dL_law_1103 : decode cL_law 1103 = .ok (.iconst 1, 1) := by decide +kernel
theorem dL_law_1104 : decode cL_law 1104 = .ok (.iadd, 1) := by decide +kernel
theorem dL_law_1105 : decode cL_law 1105 = .ok (.iaload, 1) := by decide +kernel
theorem dL_law_1106 : decode cL_law 1106 = .ok (.invokevirtual 254, 3) := by decide +kernel
theorem dL_law_1109 : decode cL_law 1109 = .ok (.istore 7, 2) := by decide +kernel
theorem dL_law_1111 : decode cL_law 1111 = .ok (.aload_n 2, 1) := by decide +kernel
theorem dL_law_1112 : decode cL_law 1112 = .ok (.invokevirtual 204, 3) := by decide +kernel
theorem dL_law_1115 : decode cL_law 1115 = .ok (.iload 6, 2) := by decide +kernel
theorem dL_law_1117 : decode cL_law 1117 = .ok (.if_icmp .eq 5, 3) := by decide +kernel
theorem dL_law_1120 : decode cL_law 1120 = .ok (.iconst 0, 1) := by decide +kernel
theorem dL_law_1121 : decode cL_law 1121 = .ok (.ireturn, 1) := by decide +kernel
theorem dL_law_1122 : decode cL_law 1122 = .ok (.iload 6, 2) := by decide +kernel
theorem dL_law_1124 : decode cL_law 1124 = .ok (.ifCond .ne 15, 3) := by decide +kernel
theorem dL_law_1127 : decode cL_law 1127 = .ok (.aload_n 3, 1) := by decide +kernel
theorem dL_law_1128 : decode cL_law 1128 = .ok (.iconst 0, 1) := by decide +kernel
theorem dL_law_1129 : decode cL_law 1129 = .ok (.laload, 1) := by decide +kernel
theorem dL_law_1130 : decode cL_law 1130 = .ok (.iload 7, 2) := by decide +kernel
theorem dL_law_1132 : decode cL_law 1132 = .ok (.i2l, 1) := by decide +kernel
theorem dL_law_1133 : decode cL_law 1133 = .ok (.lcmp, 1) := by decide +kernel
theorem dL_law_1134 : decode cL_law 1134 = .ok (.ifCond .eq 5, 3) := by decide +kernel
theorem dL_law_1137 : decode cL_law 1137 = .ok (.iconst 0, 1) := by decide +kernel
theorem dL_law_1138 : decode cL_law 1138 = .ok (.ireturn, 1) := by decide +kernel
theorem dL_law_1139 : decode cL_law 1139 = .ok (.goto 2761, 3) := by decide +kernel
theorem dL_law_1142 : decode cL_law 1142 = .ok (.aload_n 1, 1) := by decide +kernel
theorem dL_law_1143 : decode cL_law 1143 = .ok (.aload_n 0, 1) := by decide +kernel
theorem dL_law_1144 : decode cL_law 1144 = .ok (.iload 5, 2) := by decide +kernel
theorem dL_law_1146 : decode cL_law 1146 = .ok (.iconst 1, 1) := by decide +kernel
theorem dL_law_1147 : decode cL_law 1147 = .ok (.iadd, 1) := by decide +kernel
theorem dL_law_1148 : decode cL_law 1148 = .ok (.iaload, 1) := by decide +kernel
theorem dL_law_1149 : decode cL_law 1149 = .ok (.aload_n 0, 1) := by decide +kernel
theorem dL_law_1150 : decode cL_law 1150 = .ok (.iload 5, 2) := by decide +kernel
theorem dL_law_1152 : decode cL_law 1152 = .ok (.iconst 2, 1) := by decide +kernel
theorem dL_law_1153 : decode cL_law 1153 = .ok (.iadd, 1) := by decide +kernel
theorem dL_law_1154 : decode cL_law 1154 = .ok (.iaload, 1) := by decide +kernel
theorem dL_law_1155 : decode cL_law 1155 = .ok (.aload_n 3, 1) := by decide +kernel
theorem dL_law_1156 : decode cL_law 1156 = .ok (.invokestatic 255, 3) := by decide +kernel
theorem dL_law_1159 : decode cL_law 1159 = .ok (.istore 6, 2) := by decide +kernel
theorem dL_law_1161 : decode cL_law 1161 = .ok (.aload_n 2, 1) := by decide +kernel
theorem dL_law_1162 : decode cL_law 1162 = .ok (.aload_n 0, 1) := by decide +kernel
theorem dL_law_1163 : decode cL_law 1163 = .ok (.iload 5, 2) := by decide +kernel
theorem dL_law_1165 : decode cL_law 1165 = .ok (.iconst 1, 1) := by decide +kernel
theorem dL_law_1166 : decode cL_law 1166 = .ok (.iadd, 1) := by decide +kernel
theorem dL_law_1167 : decode cL_law 1167 = .ok (.iaload, 1) := by decide +kernel
theorem dL_law_1168 : decode cL_law 1168 = .ok (.aload_n 0, 1) := by decide +kernel
theorem dL_law_1169 : decode cL_law 1169 = .ok (.iload 5, 2) := by decide +kernel
theorem dL_law_1171 : decode cL_law 1171 = .ok (.iconst 2, 1) := by decide +kernel
theorem dL_law_1172 : decode cL_law 1172 = .ok (.iadd, 1) := by decide +kernel
theorem dL_law_1173 : decode cL_law 1173 = .ok (.iaload, 1) := by decide +kernel
theorem dL_law_1174 : decode cL_law 1174 = .ok (.invokevirtual 257, 3) := by decide +kernel
theorem dL_law_1177 : decode cL_law 1177 = .ok (.istore 7, 2) := by decide +kernel
theorem dL_law_1179 : decode cL_law 1179 = .ok (.aload_n 2, 1) := by decide +kernel
theorem dL_law_1180 : decode cL_law 1180 = .ok (.invokevirtual 204, 3) := by decide +kernel
theorem dL_law_1183 : decode cL_law 1183 = .ok (.iload 6, 2) := by decide +kernel
theorem dL_law_1185 : decode cL_law 1185 = .ok (.if_icmp .eq 5, 3) := by decide +kernel
theorem dL_law_1188 : decode cL_law 1188 = .ok (.iconst 0, 1) := by decide +kernel
theorem dL_law_1189 : decode cL_law 1189 = .ok (.ireturn, 1) := by decide +kernel
theorem dL_law_1190 : decode cL_law 1190 = .ok (.iload 6, 2) := by decide +kernel
theorem dL_law_1192 : decode cL_law 1192 = .ok (.ifCond .ne 22, 3) := by decide +kernel
theorem dL_law_1195 : decode cL_law 1195 = .ok (.aload_n 3, 1) := by decide +kernel
theorem dL_law_1196 : decode cL_law 1196 = .ok (.iconst 0, 1) := by decide +kernel
theorem dL_law_1197 : decode cL_law 1197 = .ok (.laload, 1) := by decide +kernel
theorem dL_law_1198 : decode cL_law 1198 = .ok (.iload 7, 2) := by decide +kernel
theorem dL_law_1200 : decode cL_law 1200 = .ok (.ifCond .eq 7, 3) := by decide +kernel
theorem dL_law_1203 : decode cL_law 1203 = .ok (.lconst 1, 1) := by decide +kernel
theorem dL_law_1204 : decode cL_law 1204 = .ok (.goto 4, 3) := by decide +kernel
theorem dL_law_1207 : decode cL_law 1207 = .ok (.lconst 0, 1) := by decide +kernel
theorem dL_law_1208 : decode cL_law 1208 = .ok (.lcmp, 1) := by decide +kernel
theorem dL_law_1209 : decode cL_law 1209 = .ok (.ifCond .eq 5, 3) := by decide +kernel
theorem dL_law_1212 : decode cL_law 1212 = .ok (.iconst 0, 1) := by decide +kernel
theorem dL_law_1213 : decode cL_law 1213 = .ok (.ireturn, 1) := by decide +kernel
theorem dL_law_1214 : decode cL_law 1214 = .ok (.goto 2686, 3) := by decide +kernel
theorem dL_law_1217 : decode cL_law 1217 = .ok (.aload_n 1, 1) := by decide +kernel
theorem dL_law_1218 : decode cL_law 1218 = .ok (.aload_n 0, 1) := by decide +kernel
theorem dL_law_1219 : decode cL_law 1219 = .ok (.iload 5, 2) := by decide +kernel
theorem dL_law_1221 : decode cL_law 1221 = .ok (.iconst 1, 1) := by decide +kernel
theorem dL_law_1222 : decode cL_law 1222 = .ok (.iadd, 1) := by decide +kernel
theorem dL_law_1223 : decode cL_law 1223 = .ok (.iaload, 1) := by decide +kernel
theorem dL_law_1224 : decode cL_law 1224 = .ok (.aload_n 3, 1) := by decide +kernel
theorem dL_law_1225 : decode cL_law 1225 = .ok (.invokestatic 258, 3) := by decide +kernel
theorem dL_law_1228 : decode cL_law 1228 = .ok (.istore 6, 2) := by decide +kernel
theorem dL_law_1230 : decode cL_law 1230 = .ok (.aload_n 2, 1) := by decide +kernel
theorem dL_law_1231 : decode cL_law 1231 = .ok (.aload_n 0, 1) := by decide +kernel
theorem dL_law_1232 : decode cL_law 1232 = .ok (.iload 5, 2) := by decide +kernel
theorem dL_law_1234 : decode cL_law 1234 = .ok (.iconst 1, 1) := by decide +kernel
theorem dL_law_1235 : decode cL_law 1235 = .ok (.iadd, 1) := by decide +kernel
theorem dL_law_1236 : decode cL_law 1236 = .ok (.iaload, 1) := by decide +kernel
theorem dL_law_1237 : decode cL_law 1237 = .ok (.invokevirtual 260, 3) := by decide +kernel
theorem dL_law_1240 : decode cL_law 1240 = .ok (.istore 7, 2) := by decide +kernel
theorem dL_law_1242 : decode cL_law 1242 = .ok (.aload_n 2, 1) := by decide +kernel
theorem dL_law_1243 : decode cL_law 1243 = .ok (.invokevirtual 204, 3) := by decide +kernel
theorem dL_law_1246 : decode cL_law 1246 = .ok (.iload 6, 2) := by decide +kernel
theorem dL_law_1248 : decode cL_law 1248 = .ok (.if_icmp .eq 5, 3) := by decide +kernel
theorem dL_law_1251 : decode cL_law 1251 = .ok (.iconst 0, 1) := by decide +kernel
theorem dL_law_1252 : decode cL_law 1252 = .ok (.ireturn, 1) := by decide +kernel
theorem dL_law_1253 : decode cL_law 1253 = .ok (.iload 6, 2) := by decide +kernel
theorem dL_law_1255 : decode cL_law 1255 = .ok (.ifCond .ne 22, 3) := by decide +kernel
theorem dL_law_1258 : decode cL_law 1258 = .ok (.aload_n 3, 1) := by decide +kernel
theorem dL_law_1259 : decode cL_law 1259 = .ok (.iconst 0, 1) := by decide +kernel
theorem dL_law_1260 : decode cL_law 1260 = .ok (.laload, 1) := by decide +kernel
theorem dL_law_1261 : decode cL_law 1261 = .ok (.iload 7, 2) := by decide +kernel
theorem dL_law_1263 : decode cL_law 1263 = .ok (.ifCond .eq 7, 3) := by decide +kernel
theorem dL_law_1266 : decode cL_law 1266 = .ok (.lconst 1, 1) := by decide +kernel
theorem dL_law_1267 : decode cL_law 1267 = .ok (.goto 4, 3) := by decide +kernel
theorem dL_law_1270 : decode cL_law 1270 = .ok (.lconst 0, 1) := by decide +kernel
theorem dL_law_1271 : decode cL_law 1271 = .ok (.lcmp, 1) := by decide +kernel
theorem dL_law_1272 : decode cL_law 1272 = .ok (.ifCond .eq 5, 3) := by decide +kernel
theorem dL_law_1275 : decode cL_law 1275 = .ok (.iconst 0, 1) := by decide +kernel
theorem dL_law_1276 : decode cL_law 1276 = .ok (.ireturn, 1) := by decide +kernel
theorem dL_law_1277 : decode cL_law 1277 = .ok (.goto 2623, 3) := by decide +kernel
theorem dL_law_1280 : decode cL_law 1280 = .ok (.aload_n 1, 1) := by decide +kernel
theorem dL_law_1281 : decode cL_law 1281 = .ok (.aload_n 0, 1) := by decide +kernel
theorem dL_law_1282 : decode cL_law 1282 = .ok (.iload 5, 2) := by decide +kernel
theorem dL_law_1284 : decode cL_law 1284 = .ok (.iconst 1, 1) := by decide +kernel
theorem dL_law_1285 : decode cL_law 1285 = .ok (.iadd, 1) := by decide +kernel
theorem dL_law_1286 : decode cL_law 1286 = .ok (.iaload, 1) := by decide +kernel
theorem dL_law_1287 : decode cL_law 1287 = .ok (.aload_n 3, 1) := by decide +kernel
theorem dL_law_1288 : decode cL_law 1288 = .ok (.invokestatic 261, 3) := by decide +kernel
theorem dL_law_1291 : decode cL_law 1291 = .ok (.istore 6, 2) := by decide +kernel
theorem dL_law_1293 : decode cL_law 1293 = .ok (.aload_n 2, 1) := by decide +kernel
theorem dL_law_1294 : decode cL_law 1294 = .ok (.aload_n 0, 1) := by decide +kernel
theorem dL_law_1295 : decode cL_law 1295 = .ok (.iload 5, 2) := by decide +kernel
theorem dL_law_1297 : decode cL_law 1297 = .ok (.iconst 1, 1) := by decide +kernel
theorem dL_law_1298 : decode cL_law 1298 = .ok (.iadd, 1) := by decide +kernel
theorem dL_law_1299 : decode cL_law 1299 = .ok (.iaload, 1) := by decide +kernel
theorem dL_law_1300 : decode cL_law 1300 = .ok (.invokevirtual 263, 3) := by decide +kernel
theorem dL_law_1303 : decode cL_law 1303 = .ok (.istore 7, 2) := by decide +kernel
theorem dL_law_1305 : decode cL_law 1305 = .ok (.aload_n 2, 1) := by decide +kernel
theorem dL_law_1306 : decode cL_law 1306 = .ok (.invokevirtual 204, 3) := by decide +kernel
theorem dL_law_1309 : decode cL_law 1309 = .ok (.iload 6, 2) := by decide +kernel
theorem dL_law_1311 : decode cL_law 1311 = .ok (.if_icmp .eq 5, 3) := by decide +kernel
theorem dL_law_1314 : decode cL_law 1314 = .ok (.iconst 0, 1) := by decide +kernel
theorem dL_law_1315 : decode cL_law 1315 = .ok (.ireturn, 1) := by decide +kernel
theorem dL_law_1316 : decode cL_law 1316 = .ok (.iload 6, 2) := by decide +kernel
theorem dL_law_1318 : decode cL_law 1318 = .ok (.ifCond .ne 15, 3) := by decide +kernel
theorem dL_law_1321 : decode cL_law 1321 = .ok (.aload_n 3, 1) := by decide +kernel
theorem dL_law_1322 : decode cL_law 1322 = .ok (.iconst 0, 1) := by decide +kernel
theorem dL_law_1323 : decode cL_law 1323 = .ok (.laload, 1) := by decide +kernel
theorem dL_law_1324 : decode cL_law 1324 = .ok (.iload 7, 2) := by decide +kernel
theorem dL_law_1326 : decode cL_law 1326 = .ok (.i2l, 1) := by decide +kernel
theorem dL_law_1327 : decode cL_law 1327 = .ok (.lcmp, 1) := by decide +kernel
theorem dL_law_1328 : decode cL_law 1328 = .ok (.ifCond .eq 5, 3) := by decide +kernel
theorem dL_law_1331 : decode cL_law 1331 = .ok (.iconst 0, 1) := by decide +kernel
theorem dL_law_1332 : decode cL_law 1332 = .ok (.ireturn, 1) := by decide +kernel
theorem dL_law_1333 : decode cL_law 1333 = .ok (.goto 2567, 3) := by decide +kernel
theorem dL_law_1336 : decode cL_law 1336 = .ok (.aload_n 1, 1) := by decide +kernel
theorem dL_law_1337 : decode cL_law 1337 = .ok (.aload_n 0, 1) := by decide +kernel
theorem dL_law_1338 : decode cL_law 1338 = .ok (.iload 5, 2) := by decide +kernel
theorem dL_law_1340 : decode cL_law 1340 = .ok (.iconst 1, 1) := by decide +kernel
theorem dL_law_1341 : decode cL_law 1341 = .ok (.iadd, 1) := by decide +kernel
theorem dL_law_1342 : decode cL_law 1342 = .ok (.iaload, 1) := by decide +kernel
theorem dL_law_1343 : decode cL_law 1343 = .ok (.aload_n 3, 1) := by decide +kernel
theorem dL_law_1344 : decode cL_law 1344 = .ok (.invokestatic 264, 3) := by decide +kernel
theorem dL_law_1347 : decode cL_law 1347 = .ok (.istore 6, 2) := by decide +kernel
theorem dL_law_1349 : decode cL_law 1349 = .ok (.aload_n 2, 1) := by decide +kernel
theorem dL_law_1350 : decode cL_law 1350 = .ok (.aload_n 0, 1) := by decide +kernel
theorem dL_law_1351 : decode cL_law 1351 = .ok (.iload 5, 2) := by decide +kernel
theorem dL_law_1353 : decode cL_law 1353 = .ok (.iconst 1, 1) := by decide +kernel
theorem dL_law_1354 : decode cL_law 1354 = .ok (.iadd, 1) := by decide +kernel
theorem dL_law_1355 : decode cL_law 1355 = .ok (.iaload, 1) := by decide +kernel
theorem dL_law_1356 : decode cL_law 1356 = .ok (.invokevirtual 266, 3) := by decide +kernel
theorem dL_law_1359 : decode cL_law 1359 = .ok (.istore 7, 2) := by decide +kernel
theorem dL_law_1361 : decode cL_law 1361 = .ok (.aload_n 2, 1) := by decide +kernel
theorem dL_law_1362 : decode cL_law 1362 = .ok (.invokevirtual 204, 3) := by decide +kernel
theorem dL_law_1365 : decode cL_law 1365 = .ok (.iload 6, 2) := by decide +kernel
theorem dL_law_1367 : decode cL_law 1367 = .ok (.if_icmp .eq 5, 3) := by decide +kernel
theorem dL_law_1370 : decode cL_law 1370 = .ok (.iconst 0, 1) := by decide +kernel
theorem dL_law_1371 : decode cL_law 1371 = .ok (.ireturn, 1) := by decide +kernel
theorem dL_law_1372 : decode cL_law 1372 = .ok (.iload 6, 2) := by decide +kernel
theorem dL_law_1374 : decode cL_law 1374 = .ok (.ifCond .ne 22, 3) := by decide +kernel
theorem dL_law_1377 : decode cL_law 1377 = .ok (.aload_n 3, 1) := by decide +kernel
theorem dL_law_1378 : decode cL_law 1378 = .ok (.iconst 0, 1) := by decide +kernel
theorem dL_law_1379 : decode cL_law 1379 = .ok (.laload, 1) := by decide +kernel
theorem dL_law_1380 : decode cL_law 1380 = .ok (.iload 7, 2) := by decide +kernel
theorem dL_law_1382 : decode cL_law 1382 = .ok (.ifCond .eq 7, 3) := by decide +kernel
theorem dL_law_1385 : decode cL_law 1385 = .ok (.lconst 1, 1) := by decide +kernel
theorem dL_law_1386 : decode cL_law 1386 = .ok (.goto 4, 3) := by decide +kernel
theorem dL_law_1389 : decode cL_law 1389 = .ok (.lconst 0, 1) := by decide +kernel
theorem dL_law_1390 : decode cL_law 1390 = .ok (.lcmp, 1) := by decide +kernel
theorem dL_law_1391 : decode cL_law 1391 = .ok (.ifCond .eq 5, 3) := by decide +kernel
theorem dL_law_1394 : decode cL_law 1394 = .ok (.iconst 0, 1) := by decide +kernel
theorem dL_law_1395 : decode cL_law 1395 = .ok (.ireturn, 1) := by decide +kernel
theorem dL_law_1396 : decode cL_law 1396 = .ok (.goto 2504, 3) := by decide +kernel
theorem dL_law_1399 : decode cL_law 1399 = .ok (.aload_n 1, 1) := by decide +kernel
theorem dL_law_1400 : decode cL_law 1400 = .ok (.aload_n 0, 1) := by decide +kernel
theorem dL_law_1401 : decode cL_law 1401 = .ok (.iload 5, 2) := by decide +kernel
theorem dL_law_1403 : decode cL_law 1403 = .ok (.iconst 1, 1) := by decide +kernel
theorem dL_law_1404 : decode cL_law 1404 = .ok (.iadd, 1) := by decide +kernel
theorem dL_law_1405 : decode cL_law 1405 = .ok (.iaload, 1) := by decide +kernel
theorem dL_law_1406 : decode cL_law 1406 = .ok (.aload_n 3, 1) := by decide +kernel
theorem dL_law_1407 : decode cL_law 1407 = .ok (.invokestatic 267, 3) := by decide +kernel
theorem dL_law_1410 : decode cL_law 1410 = .ok (.istore 6, 2) := by decide +kernel
theorem dL_law_1412 : decode cL_law 1412 = .ok (.aload_n 2, 1) := by decide +kernel
theorem dL_law_1413 : decode cL_law 1413 = .ok (.aload_n 0, 1) := by decide +kernel
theorem dL_law_1414 : decode cL_law 1414 = .ok (.iload 5, 2) := by decide +kernel
theorem dL_law_1416 : decode cL_law 1416 = .ok (.iconst 1, 1) := by decide +kernel
theorem dL_law_1417 : decode cL_law 1417 = .ok (.iadd, 1) := by decide +kernel
theorem dL_law_1418 : decode cL_law 1418 = .ok (.iaload, 1) := by decide +kernel
theorem dL_law_1419 : decode cL_law 1419 = .ok (.invokevirtual 269, 3) := by decide +kernel
theorem dL_law_1422 : decode cL_law 1422 = .ok (.istore 7, 2) := by decide +kernel
theorem dL_law_1424 : decode cL_law 1424 = .ok (.aload_n 2, 1) := by decide +kernel
theorem dL_law_1425 : decode cL_law 1425 = .ok (.invokevirtual 204, 3) := by decide +kernel
theorem dL_law_1428 : decode cL_law 1428 = .ok (.iload 6, 2) := by decide +kernel
theorem dL_law_1430 : decode cL_law 1430 = .ok (.if_icmp .eq 5, 3) := by decide +kernel
theorem dL_law_1433 : decode cL_law 1433 = .ok (.iconst 0, 1) := by decide +kernel
theorem dL_law_1434 : decode cL_law 1434 = .ok (.ireturn, 1) := by decide +kernel
theorem dL_law_1435 : decode cL_law 1435 = .ok (.iload 6, 2) := by decide +kernel
theorem dL_law_1437 : decode cL_law 1437 = .ok (.ifCond .ne 15, 3) := by decide +kernel
theorem dL_law_1440 : decode cL_law 1440 = .ok (.aload_n 3, 1) := by decide +kernel
theorem dL_law_1441 : decode cL_law 1441 = .ok (.iconst 0, 1) := by decide +kernel
theorem dL_law_1442 : decode cL_law 1442 = .ok (.laload, 1) := by decide +kernel
theorem dL_law_1443 : decode cL_law 1443 = .ok (.iload 7, 2) := by decide +kernel
theorem dL_law_1445 : decode cL_law 1445 = .ok (.i2l, 1) := by decide +kernel
theorem dL_law_1446 : decode cL_law 1446 = .ok (.lcmp, 1) := by decide +kernel
theorem dL_law_1447 : decode cL_law 1447 = .ok (.ifCond .eq 5, 3) := by decide +kernel
theorem dL_law_1450 : decode cL_law 1450 = .ok (.iconst 0, 1) := by decide +kernel
theorem dL_law_1451 : decode cL_law 1451 = .ok (.ireturn, 1) := by decide +kernel
theorem dL_law_1452 : decode cL_law 1452 = .ok (.goto 2448, 3) := by decide +kernel
theorem dL_law_1455 : decode cL_law 1455 = .ok (.aload_n 1, 1) := by decide +kernel
theorem dL_law_1456 : decode cL_law 1456 = .ok (.aload_n 0, 1) := by decide +kernel
theorem dL_law_1457 : decode cL_law 1457 = .ok (.iload 5, 2) := by decide +kernel
theorem dL_law_1459 : decode cL_law 1459 = .ok (.iconst 1, 1) := by decide +kernel
theorem dL_law_1460 : decode cL_law 1460 = .ok (.iadd, 1) := by decide +kernel
theorem dL_law_1461 : decode cL_law 1461 = .ok (.iaload, 1) := by decide +kernel
theorem dL_law_1462 : decode cL_law 1462 = .ok (.aload_n 0, 1) := by decide +kernel
theorem dL_law_1463 : decode cL_law 1463 = .ok (.iload 5, 2) := by decide +kernel
theorem dL_law_1465 : decode cL_law 1465 = .ok (.iconst 2, 1) := by decide +kernel
theorem dL_law_1466 : decode cL_law 1466 = .ok (.iadd, 1) := by decide +kernel
theorem dL_law_1467 : decode cL_law 1467 = .ok (.iaload, 1) := by decide +kernel
theorem dL_law_1468 : decode cL_law 1468 = .ok (.aload_n 3, 1) := by decide +kernel
theorem dL_law_1469 : decode cL_law 1469 = .ok (.invokestatic 270, 3) := by decide +kernel
theorem dL_law_1472 : decode cL_law 1472 = .ok (.istore 6, 2) := by decide +kernel
theorem dL_law_1474 : decode cL_law 1474 = .ok (.aload_n 2, 1) := by decide +kernel
theorem dL_law_1475 : decode cL_law 1475 = .ok (.aload_n 0, 1) := by decide +kernel
theorem dL_law_1476 : decode cL_law 1476 = .ok (.iload 5, 2) := by decide +kernel
theorem dL_law_1478 : decode cL_law 1478 = .ok (.iconst 1, 1) := by decide +kernel
theorem dL_law_1479 : decode cL_law 1479 = .ok (.iadd, 1) := by decide +kernel
theorem dL_law_1480 : decode cL_law 1480 = .ok (.iaload, 1) := by decide +kernel
theorem dL_law_1481 : decode cL_law 1481 = .ok (.aload_n 0, 1) := by decide +kernel
theorem dL_law_1482 : decode cL_law 1482 = .ok (.iload 5, 2) := by decide +kernel
theorem dL_law_1484 : decode cL_law 1484 = .ok (.iconst 2, 1) := by decide +kernel
theorem dL_law_1485 : decode cL_law 1485 = .ok (.iadd, 1) := by decide +kernel
theorem dL_law_1486 : decode cL_law 1486 = .ok (.iaload, 1) := by decide +kernel
theorem dL_law_1487 : decode cL_law 1487 = .ok (.invokevirtual 272, 3) := by decide +kernel
theorem dL_law_1490 : decode cL_law 1490 = .ok (.istore 7, 2) := by decide +kernel
theorem dL_law_1492 : decode cL_law 1492 = .ok (.aload_n 2, 1) := by decide +kernel
theorem dL_law_1493 : decode cL_law 1493 = .ok (.invokevirtual 204, 3) := by decide +kernel
theorem dL_law_1496 : decode cL_law 1496 = .ok (.iload 6, 2) := by decide +kernel
theorem dL_law_1498 : decode cL_law 1498 = .ok (.if_icmp .eq 5, 3) := by decide +kernel
theorem dL_law_1501 : decode cL_law 1501 = .ok (.iconst 0, 1) := by decide +kernel
theorem dL_law_1502 : decode cL_law 1502 = .ok (.ireturn, 1) := by decide +kernel
theorem dL_law_1503 : decode cL_law 1503 = .ok (.iload 6, 2) := by decide +kernel
theorem dL_law_1505 : decode cL_law 1505 = .ok (.ifCond .ne 15, 3) := by decide +kernel
theorem dL_law_1508 : decode cL_law 1508 = .ok (.aload_n 3, 1) := by decide +kernel
theorem dL_law_1509 : decode cL_law 1509 = .ok (.iconst 0, 1) := by decide +kernel
theorem dL_law_1510 : decode cL_law 1510 = .ok (.laload, 1) := by decide +kernel
theorem dL_law_1511 : decode cL_law 1511 = .ok (.iload 7, 2) := by decide +kernel
theorem dL_law_1513 : decode cL_law 1513 = .ok (.i2l, 1) := by decide +kernel
theorem dL_law_1514 : decode cL_law 1514 = .ok (.lcmp, 1) := by decide +kernel
theorem dL_law_1515 : decode cL_law 1515 = .ok (.ifCond .eq 5, 3) := by decide +kernel
theorem dL_law_1518 : decode cL_law 1518 = .ok (.iconst 0, 1) := by decide +kernel
theorem dL_law_1519 : decode cL_law 1519 = .ok (.ireturn, 1) := by decide +kernel
theorem dL_law_1520 : decode cL_law 1520 = .ok (.goto 2380, 3) := by decide +kernel
theorem dL_law_1523 : decode cL_law 1523 = .ok (.aload_n 1, 1) := by decide +kernel
theorem dL_law_1524 : decode cL_law 1524 = .ok (.aload_n 0, 1) := by decide +kernel
theorem dL_law_1525 : decode cL_law 1525 = .ok (.iload 5, 2) := by decide +kernel
theorem dL_law_1527 : decode cL_law 1527 = .ok (.iconst 1, 1) := by decide +kernel
theorem dL_law_1528 : decode cL_law 1528 = .ok (.iadd, 1) := by decide +kernel
theorem dL_law_1529 : decode cL_law 1529 = .ok (.iaload, 1) := by decide +kernel
theorem dL_law_1530 : decode cL_law 1530 = .ok (.aload_n 0, 1) := by decide +kernel
theorem dL_law_1531 : decode cL_law 1531 = .ok (.iload 5, 2) := by decide +kernel
theorem dL_law_1533 : decode cL_law 1533 = .ok (.iconst 2, 1) := by decide +kernel
theorem dL_law_1534 : decode cL_law 1534 = .ok (.iadd, 1) := by decide +kernel
theorem dL_law_1535 : decode cL_law 1535 = .ok (.iaload, 1) := by decide +kernel
theorem dL_law_1536 : decode cL_law 1536 = .ok (.aload_n 3, 1) := by decide +kernel
theorem dL_law_1537 : decode cL_law 1537 = .ok (.invokestatic 273, 3) := by decide +kernel
theorem dL_law_1540 : decode cL_law 1540 = .ok (.istore 6, 2) := by decide +kernel
theorem dL_law_1542 : decode cL_law 1542 = .ok (.aload_n 2, 1) := by decide +kernel
theorem dL_law_1543 : decode cL_law 1543 = .ok (.aload_n 0, 1) := by decide +kernel
theorem dL_law_1544 : decode cL_law 1544 = .ok (.iload 5, 2) := by decide +kernel
theorem dL_law_1546 : decode cL_law 1546 = .ok (.iconst 1, 1) := by decide +kernel
theorem dL_law_1547 : decode cL_law 1547 = .ok (.iadd, 1) := by decide +kernel
theorem dL_law_1548 : decode cL_law 1548 = .ok (.iaload, 1) := by decide +kernel
theorem dL_law_1549 : decode cL_law 1549 = .ok (.aload_n 0, 1) := by decide +kernel
theorem dL_law_1550 : decode cL_law 1550 = .ok (.iload 5, 2) := by decide +kernel
theorem dL_law_1552 : decode cL_law 1552 = .ok (.iconst 2, 1) := by decide +kernel
theorem dL_law_1553 : decode cL_law 1553 = .ok (.iadd, 1) := by decide +kernel
theorem dL_law_1554 : decode cL_law 1554 = .ok (.iaload, 1) := by decide +kernel
theorem dL_law_1555 : decode cL_law 1555 = .ok (.invokevirtual 275, 3) := by decide +kernel
theorem dL_law_1558 : decode cL_law 1558 = .ok (.istore 7, 2) := by decide +kernel
theorem dL_law_1560 : decode cL_law 1560 = .ok (.aload_n 2, 1) := by decide +kernel
theorem dL_law_1561 : decode cL_law 1561 = .ok (.invokevirtual 204, 3) := by decide +kernel
theorem dL_law_1564 : decode cL_law 1564 = .ok (.iload 6, 2) := by decide +kernel
theorem dL_law_1566 : decode cL_law 1566 = .ok (.if_icmp .eq 5, 3) := by decide +kernel
theorem dL_law_1569 : decode cL_law 1569 = .ok (.iconst 0, 1) := by decide +kernel
theorem dL_law_1570 : decode cL_law 1570 = .ok (.ireturn, 1) := by decide +kernel
theorem dL_law_1571 : decode cL_law 1571 = .ok (.iload 6, 2) := by decide +kernel
theorem dL_law_1573 : decode cL_law 1573 = .ok (.ifCond .ne 15, 3) := by decide +kernel
theorem dL_law_1576 : decode cL_law 1576 = .ok (.aload_n 3, 1) := by decide +kernel
theorem dL_law_1577 : decode cL_law 1577 = .ok (.iconst 0, 1) := by decide +kernel
theorem dL_law_1578 : decode cL_law 1578 = .ok (.laload, 1) := by decide +kernel
theorem dL_law_1579 : decode cL_law 1579 = .ok (.iload 7, 2) := by decide +kernel
theorem dL_law_1581 : decode cL_law 1581 = .ok (.i2l, 1) := by decide +kernel
theorem dL_law_1582 : decode cL_law 1582 = .ok (.lcmp, 1) := by decide +kernel
theorem dL_law_1583 : decode cL_law 1583 = .ok (.ifCond .eq 5, 3) := by decide +kernel
theorem dL_law_1586 : decode cL_law 1586 = .ok (.iconst 0, 1) := by decide +kernel
theorem dL_law_1587 : decode cL_law 1587 = .ok (.ireturn, 1) := by decide +kernel
theorem dL_law_1588 : decode cL_law 1588 = .ok (.goto 2312, 3) := by decide +kernel
theorem dL_law_1591 : decode cL_law 1591 = .ok (.aload_n 1, 1) := by decide +kernel
theorem dL_law_1592 : decode cL_law 1592 = .ok (.aload_n 0, 1) := by decide +kernel
theorem dL_law_1593 : decode cL_law 1593 = .ok (.iload 5, 2) := by decide +kernel
theorem dL_law_1595 : decode cL_law 1595 = .ok (.iconst 1, 1) := by decide +kernel
theorem dL_law_1596 : decode cL_law 1596 = .ok (.iadd, 1) := by decide +kernel
theorem dL_law_1597 : decode cL_law 1597 = .ok (.iaload, 1) := by decide +kernel
theorem dL_law_1598 : decode cL_law 1598 = .ok (.aload_n 3, 1) := by decide +kernel
theorem dL_law_1599 : decode cL_law 1599 = .ok (.invokestatic 276, 3) := by decide +kernel
theorem dL_law_1602 : decode cL_law 1602 = .ok (.istore 6, 2) := by decide +kernel
theorem dL_law_1604 : decode cL_law 1604 = .ok (.aload_n 2, 1) := by decide +kernel
theorem dL_law_1605 : decode cL_law 1605 = .ok (.aload_n 0, 1) := by decide +kernel
theorem dL_law_1606 : decode cL_law 1606 = .ok (.iload 5, 2) := by decide +kernel
theorem dL_law_1608 : decode cL_law 1608 = .ok (.iconst 1, 1) := by decide +kernel
theorem dL_law_1609 : decode cL_law 1609 = .ok (.iadd, 1) := by decide +kernel
theorem dL_law_1610 : decode cL_law 1610 = .ok (.iaload, 1) := by decide +kernel
theorem dL_law_1611 : decode cL_law 1611 = .ok (.invokevirtual 278, 3) := by decide +kernel
theorem dL_law_1614 : decode cL_law 1614 = .ok (.istore 7, 2) := by decide +kernel
theorem dL_law_1616 : decode cL_law 1616 = .ok (.aload_n 2, 1) := by decide +kernel
theorem dL_law_1617 : decode cL_law 1617 = .ok (.invokevirtual 204, 3) := by decide +kernel
theorem dL_law_1620 : decode cL_law 1620 = .ok (.iload 6, 2) := by decide +kernel
theorem dL_law_1622 : decode cL_law 1622 = .ok (.if_icmp .eq 5, 3) := by decide +kernel
theorem dL_law_1625 : decode cL_law 1625 = .ok (.iconst 0, 1) := by decide +kernel
theorem dL_law_1626 : decode cL_law 1626 = .ok (.ireturn, 1) := by decide +kernel
theorem dL_law_1627 : decode cL_law 1627 = .ok (.iload 6, 2) := by decide +kernel
theorem dL_law_1629 : decode cL_law 1629 = .ok (.ifCond .ne 15, 3) := by decide +kernel
theorem dL_law_1632 : decode cL_law 1632 = .ok (.aload_n 3, 1) := by decide +kernel
theorem dL_law_1633 : decode cL_law 1633 = .ok (.iconst 0, 1) := by decide +kernel
theorem dL_law_1634 : decode cL_law 1634 = .ok (.laload, 1) := by decide +kernel
theorem dL_law_1635 : decode cL_law 1635 = .ok (.iload 7, 2) := by decide +kernel
theorem dL_law_1637 : decode cL_law 1637 = .ok (.i2l, 1) := by decide +kernel
theorem dL_law_1638 : decode cL_law 1638 = .ok (.lcmp, 1) := by decide +kernel
theorem dL_law_1639 : decode cL_law 1639 = .ok (.ifCond .eq 5, 3) := by decide +kernel
theorem dL_law_1642 : decode cL_law 1642 = .ok (.iconst 0, 1) := by decide +kernel
theorem dL_law_1643 : decode cL_law 1643 = .ok (.ireturn, 1) := by decide +kernel
theorem dL_law_1644 : decode cL_law 1644 = .ok (.goto 2256, 3) := by decide +kernel
theorem dL_law_1647 : decode cL_law 1647 = .ok (.aload_n 1, 1) := by decide +kernel
theorem dL_law_1648 : decode cL_law 1648 = .ok (.aload_n 0, 1) := by decide +kernel
theorem dL_law_1649 : decode cL_law 1649 = .ok (.iload 5, 2) := by decide +kernel
theorem dL_law_1651 : decode cL_law 1651 = .ok (.iconst 1, 1) := by decide +kernel
theorem dL_law_1652 : decode cL_law 1652 = .ok (.iadd, 1) := by decide +kernel
theorem dL_law_1653 : decode cL_law 1653 = .ok (.iaload, 1) := by decide +kernel
theorem dL_law_1654 : decode cL_law 1654 = .ok (.aload_n 3, 1) := by decide +kernel
theorem dL_law_1655 : decode cL_law 1655 = .ok (.invokestatic 279, 3) := by decide +kernel
theorem dL_law_1658 : decode cL_law 1658 = .ok (.istore 6, 2) := by decide +kernel
theorem dL_law_1660 : decode cL_law 1660 = .ok (.aload_n 2, 1) := by decide +kernel
theorem dL_law_1661 : decode cL_law 1661 = .ok (.aload_n 0, 1) := by decide +kernel
theorem dL_law_1662 : decode cL_law 1662 = .ok (.iload 5, 2) := by decide +kernel
theorem dL_law_1664 : decode cL_law 1664 = .ok (.iconst 1, 1) := by decide +kernel
theorem dL_law_1665 : decode cL_law 1665 = .ok (.iadd, 1) := by decide +kernel
theorem dL_law_1666 : decode cL_law 1666 = .ok (.iaload, 1) := by decide +kernel
theorem dL_law_1667 : decode cL_law 1667 = .ok (.invokevirtual 281, 3) := by decide +kernel
theorem dL_law_1670 : decode cL_law 1670 = .ok (.istore 7, 2) := by decide +kernel
theorem dL_law_1672 : decode cL_law 1672 = .ok (.aload_n 2, 1) := by decide +kernel
theorem dL_law_1673 : decode cL_law 1673 = .ok (.invokevirtual 204, 3) := by decide +kernel
theorem dL_law_1676 : decode cL_law 1676 = .ok (.iload 6, 2) := by decide +kernel
theorem dL_law_1678 : decode cL_law 1678 = .ok (.if_icmp .eq 5, 3) := by decide +kernel
theorem dL_law_1681 : decode cL_law 1681 = .ok (.iconst 0, 1) := by decide +kernel
theorem dL_law_1682 : decode cL_law 1682 = .ok (.ireturn, 1) := by decide +kernel
theorem dL_law_1683 : decode cL_law 1683 = .ok (.iload 6, 2) := by decide +kernel
theorem dL_law_1685 : decode cL_law 1685 = .ok (.ifCond .ne 15, 3) := by decide +kernel
theorem dL_law_1688 : decode cL_law 1688 = .ok (.aload_n 3, 1) := by decide +kernel
theorem dL_law_1689 : decode cL_law 1689 = .ok (.iconst 0, 1) := by decide +kernel
theorem dL_law_1690 : decode cL_law 1690 = .ok (.laload, 1) := by decide +kernel
theorem dL_law_1691 : decode cL_law 1691 = .ok (.iload 7, 2) := by decide +kernel
theorem dL_law_1693 : decode cL_law 1693 = .ok (.i2l, 1) := by decide +kernel
theorem dL_law_1694 : decode cL_law 1694 = .ok (.lcmp, 1) := by decide +kernel
theorem dL_law_1695 : decode cL_law 1695 = .ok (.ifCond .eq 5, 3) := by decide +kernel
theorem dL_law_1698 : decode cL_law 1698 = .ok (.iconst 0, 1) := by decide +kernel
theorem dL_law_1699 : decode cL_law 1699 = .ok (.ireturn, 1) := by decide +kernel
theorem dL_law_1700 : decode cL_law 1700 = .ok (.goto 2200, 3) := by decide +kernel
theorem dL_law_1703 : decode cL_law 1703 = .ok (.aload_n 1, 1) := by decide +kernel
theorem dL_law_1704 : decode cL_law 1704 = .ok (.aload_n 0, 1) := by decide +kernel
theorem dL_law_1705 : decode cL_law 1705 = .ok (.iload 5, 2) := by decide +kernel
theorem dL_law_1707 : decode cL_law 1707 = .ok (.iconst 1, 1) := by decide +kernel
theorem dL_law_1708 : decode cL_law 1708 = .ok (.iadd, 1) := by decide +kernel
theorem dL_law_1709 : decode cL_law 1709 = .ok (.iaload, 1) := by decide +kernel
theorem dL_law_1710 : decode cL_law 1710 = .ok (.aload_n 3, 1) := by decide +kernel
theorem dL_law_1711 : decode cL_law 1711 = .ok (.invokestatic 282, 3) := by decide +kernel
theorem dL_law_1714 : decode cL_law 1714 = .ok (.istore 6, 2) := by decide +kernel
theorem dL_law_1716 : decode cL_law 1716 = .ok (.aload_n 2, 1) := by decide +kernel
theorem dL_law_1717 : decode cL_law 1717 = .ok (.aload_n 0, 1) := by decide +kernel
theorem dL_law_1718 : decode cL_law 1718 = .ok (.iload 5, 2) := by decide +kernel
theorem dL_law_1720 : decode cL_law 1720 = .ok (.iconst 1, 1) := by decide +kernel
theorem dL_law_1721 : decode cL_law 1721 = .ok (.iadd, 1) := by decide +kernel
theorem dL_law_1722 : decode cL_law 1722 = .ok (.iaload, 1) := by decide +kernel
theorem dL_law_1723 : decode cL_law 1723 = .ok (.invokevirtual 284, 3) := by decide +kernel
theorem dL_law_1726 : decode cL_law 1726 = .ok (.istore 7, 2) := by decide +kernel
theorem dL_law_1728 : decode cL_law 1728 = .ok (.aload_n 2, 1) := by decide +kernel
theorem dL_law_1729 : decode cL_law 1729 = .ok (.invokevirtual 204, 3) := by decide +kernel
theorem dL_law_1732 : decode cL_law 1732 = .ok (.iload 6, 2) := by decide +kernel
theorem dL_law_1734 : decode cL_law 1734 = .ok (.if_icmp .eq 5, 3) := by decide +kernel
theorem dL_law_1737 : decode cL_law 1737 = .ok (.iconst 0, 1) := by decide +kernel
theorem dL_law_1738 : decode cL_law 1738 = .ok (.ireturn, 1) := by decide +kernel
theorem dL_law_1739 : decode cL_law 1739 = .ok (.iload 6, 2) := by decide +kernel
theorem dL_law_1741 : decode cL_law 1741 = .ok (.ifCond .ne 15, 3) := by decide +kernel
theorem dL_law_1744 : decode cL_law 1744 = .ok (.aload_n 3, 1) := by decide +kernel
theorem dL_law_1745 : decode cL_law 1745 = .ok (.iconst 0, 1) := by decide +kernel
theorem dL_law_1746 : decode cL_law 1746 = .ok (.laload, 1) := by decide +kernel
theorem dL_law_1747 : decode cL_law 1747 = .ok (.iload 7, 2) := by decide +kernel
theorem dL_law_1749 : decode cL_law 1749 = .ok (.i2l, 1) := by decide +kernel
theorem dL_law_1750 : decode cL_law 1750 = .ok (.lcmp, 1) := by decide +kernel
theorem dL_law_1751 : decode cL_law 1751 = .ok (.ifCond .eq 5, 3) := by decide +kernel
theorem dL_law_1754 : decode cL_law 1754 = .ok (.iconst 0, 1) := by decide +kernel
theorem dL_law_1755 : decode cL_law 1755 = .ok (.ireturn, 1) := by decide +kernel
theorem dL_law_1756 : decode cL_law 1756 = .ok (.goto 2144, 3) := by decide +kernel
theorem dL_law_1759 : decode cL_law 1759 = .ok (.aload_n 1, 1) := by decide +kernel
theorem dL_law_1760 : decode cL_law 1760 = .ok (.aload_n 0, 1) := by decide +kernel
theorem dL_law_1761 : decode cL_law 1761 = .ok (.iload 5, 2) := by decide +kernel
theorem dL_law_1763 : decode cL_law 1763 = .ok (.iconst 1, 1) := by decide +kernel
theorem dL_law_1764 : decode cL_law 1764 = .ok (.iadd, 1) := by decide +kernel
theorem dL_law_1765 : decode cL_law 1765 = .ok (.iaload, 1) := by decide +kernel
theorem dL_law_1766 : decode cL_law 1766 = .ok (.aload_n 3, 1) := by decide +kernel
theorem dL_law_1767 : decode cL_law 1767 = .ok (.invokestatic 285, 3) := by decide +kernel
theorem dL_law_1770 : decode cL_law 1770 = .ok (.istore 6, 2) := by decide +kernel
theorem dL_law_1772 : decode cL_law 1772 = .ok (.aload_n 2, 1) := by decide +kernel
theorem dL_law_1773 : decode cL_law 1773 = .ok (.aload_n 0, 1) := by decide +kernel
theorem dL_law_1774 : decode cL_law 1774 = .ok (.iload 5, 2) := by decide +kernel
theorem dL_law_1776 : decode cL_law 1776 = .ok (.iconst 1, 1) := by decide +kernel
theorem dL_law_1777 : decode cL_law 1777 = .ok (.iadd, 1) := by decide +kernel
theorem dL_law_1778 : decode cL_law 1778 = .ok (.iaload, 1) := by decide +kernel
theorem dL_law_1779 : decode cL_law 1779 = .ok (.invokevirtual 287, 3) := by decide +kernel
theorem dL_law_1782 : decode cL_law 1782 = .ok (.istore 7, 2) := by decide +kernel
theorem dL_law_1784 : decode cL_law 1784 = .ok (.aload_n 2, 1) := by decide +kernel
theorem dL_law_1785 : decode cL_law 1785 = .ok (.invokevirtual 204, 3) := by decide +kernel
theorem dL_law_1788 : decode cL_law 1788 = .ok (.iload 6, 2) := by decide +kernel
theorem dL_law_1790 : decode cL_law 1790 = .ok (.if_icmp .eq 5, 3) := by decide +kernel
theorem dL_law_1793 : decode cL_law 1793 = .ok (.iconst 0, 1) := by decide +kernel
theorem dL_law_1794 : decode cL_law 1794 = .ok (.ireturn, 1) := by decide +kernel
theorem dL_law_1795 : decode cL_law 1795 = .ok (.iload 6, 2) := by decide +kernel
theorem dL_law_1797 : decode cL_law 1797 = .ok (.ifCond .ne 15, 3) := by decide +kernel
theorem dL_law_1800 : decode cL_law 1800 = .ok (.aload_n 3, 1) := by decide +kernel
theorem dL_law_1801 : decode cL_law 1801 = .ok (.iconst 0, 1) := by decide +kernel
theorem dL_law_1802 : decode cL_law 1802 = .ok (.laload, 1) := by decide +kernel
theorem dL_law_1803 : decode cL_law 1803 = .ok (.iload 7, 2) := by decide +kernel
theorem dL_law_1805 : decode cL_law 1805 = .ok (.i2l, 1) := by decide +kernel
theorem dL_law_1806 : decode cL_law 1806 = .ok (.lcmp, 1) := by decide +kernel
theorem dL_law_1807 : decode cL_law 1807 = .ok (.ifCond .eq 5, 3) := by decide +kernel
theorem dL_law_1810 : decode cL_law 1810 = .ok (.iconst 0, 1) := by decide +kernel
theorem dL_law_1811 : decode cL_law 1811 = .ok (.ireturn, 1) := by decide +kernel
theorem dL_law_1812 : decode cL_law 1812 = .ok (.goto 2088, 3) := by decide +kernel
theorem dL_law_1815 : decode cL_law 1815 = .ok (.aload_n 1, 1) := by decide +kernel
theorem dL_law_1816 : decode cL_law 1816 = .ok (.aload_n 0, 1) := by decide +kernel
theorem dL_law_1817 : decode cL_law 1817 = .ok (.iload 5, 2) := by decide +kernel
theorem dL_law_1819 : decode cL_law 1819 = .ok (.iconst 1, 1) := by decide +kernel
theorem dL_law_1820 : decode cL_law 1820 = .ok (.iadd, 1) := by decide +kernel
theorem dL_law_1821 : decode cL_law 1821 = .ok (.iaload, 1) := by decide +kernel
theorem dL_law_1822 : decode cL_law 1822 = .ok (.aload_n 0, 1) := by decide +kernel
theorem dL_law_1823 : decode cL_law 1823 = .ok (.iload 5, 2) := by decide +kernel
theorem dL_law_1825 : decode cL_law 1825 = .ok (.iconst 2, 1) := by decide +kernel
theorem dL_law_1826 : decode cL_law 1826 = .ok (.iadd, 1) := by decide +kernel
theorem dL_law_1827 : decode cL_law 1827 = .ok (.iaload, 1) := by decide +kernel
theorem dL_law_1828 : decode cL_law 1828 = .ok (.aload_n 3, 1) := by decide +kernel
theorem dL_law_1829 : decode cL_law 1829 = .ok (.invokestatic 288, 3) := by decide +kernel
theorem dL_law_1832 : decode cL_law 1832 = .ok (.istore 6, 2) := by decide +kernel
theorem dL_law_1834 : decode cL_law 1834 = .ok (.aload_n 2, 1) := by decide +kernel
theorem dL_law_1835 : decode cL_law 1835 = .ok (.aload_n 0, 1) := by decide +kernel
theorem dL_law_1836 : decode cL_law 1836 = .ok (.iload 5, 2) := by decide +kernel
theorem dL_law_1838 : decode cL_law 1838 = .ok (.iconst 1, 1) := by decide +kernel
theorem dL_law_1839 : decode cL_law 1839 = .ok (.iadd, 1) := by decide +kernel
theorem dL_law_1840 : decode cL_law 1840 = .ok (.iaload, 1) := by decide +kernel
theorem dL_law_1841 : decode cL_law 1841 = .ok (.aload_n 0, 1) := by decide +kernel
theorem dL_law_1842 : decode cL_law 1842 = .ok (.iload 5, 2) := by decide +kernel
theorem dL_law_1844 : decode cL_law 1844 = .ok (.iconst 2, 1) := by decide +kernel
theorem dL_law_1845 : decode cL_law 1845 = .ok (.iadd, 1) := by decide +kernel
theorem dL_law_1846 : decode cL_law 1846 = .ok (.iaload, 1) := by decide +kernel
theorem dL_law_1847 : decode cL_law 1847 = .ok (.invokevirtual 290, 3) := by decide +kernel
theorem dL_law_1850 : decode cL_law 1850 = .ok (.istore 7, 2) := by decide +kernel
theorem dL_law_1852 : decode cL_law 1852 = .ok (.aload_n 2, 1) := by decide +kernel
theorem dL_law_1853 : decode cL_law 1853 = .ok (.invokevirtual 204, 3) := by decide +kernel
theorem dL_law_1856 : decode cL_law 1856 = .ok (.iload 6, 2) := by decide +kernel
theorem dL_law_1858 : decode cL_law 1858 = .ok (.if_icmp .eq 5, 3) := by decide +kernel
theorem dL_law_1861 : decode cL_law 1861 = .ok (.iconst 0, 1) := by decide +kernel
theorem dL_law_1862 : decode cL_law 1862 = .ok (.ireturn, 1) := by decide +kernel
theorem dL_law_1863 : decode cL_law 1863 = .ok (.iload 6, 2) := by decide +kernel
theorem dL_law_1865 : decode cL_law 1865 = .ok (.ifCond .ne 15, 3) := by decide +kernel
theorem dL_law_1868 : decode cL_law 1868 = .ok (.aload_n 3, 1) := by decide +kernel
theorem dL_law_1869 : decode cL_law 1869 = .ok (.iconst 0, 1) := by decide +kernel
theorem dL_law_1870 : decode cL_law 1870 = .ok (.laload, 1) := by decide +kernel
theorem dL_law_1871 : decode cL_law 1871 = .ok (.iload 7, 2) := by decide +kernel
theorem dL_law_1873 : decode cL_law 1873 = .ok (.i2l, 1) := by decide +kernel
theorem dL_law_1874 : decode cL_law 1874 = .ok (.lcmp, 1) := by decide +kernel
theorem dL_law_1875 : decode cL_law 1875 = .ok (.ifCond .eq 5, 3) := by decide +kernel
theorem dL_law_1878 : decode cL_law 1878 = .ok (.iconst 0, 1) := by decide +kernel
theorem dL_law_1879 : decode cL_law 1879 = .ok (.ireturn, 1) := by decide +kernel
theorem dL_law_1880 : decode cL_law 1880 = .ok (.goto 2020, 3) := by decide +kernel
theorem dL_law_1883 : decode cL_law 1883 = .ok (.aload_n 1, 1) := by decide +kernel
theorem dL_law_1884 : decode cL_law 1884 = .ok (.aload_n 0, 1) := by decide +kernel
theorem dL_law_1885 : decode cL_law 1885 = .ok (.iload 5, 2) := by decide +kernel
theorem dL_law_1887 : decode cL_law 1887 = .ok (.iconst 1, 1) := by decide +kernel
theorem dL_law_1888 : decode cL_law 1888 = .ok (.iadd, 1) := by decide +kernel
theorem dL_law_1889 : decode cL_law 1889 = .ok (.iaload, 1) := by decide +kernel
theorem dL_law_1890 : decode cL_law 1890 = .ok (.aload_n 3, 1) := by decide +kernel
theorem dL_law_1891 : decode cL_law 1891 = .ok (.invokestatic 291, 3) := by decide +kernel
theorem dL_law_1894 : decode cL_law 1894 = .ok (.istore 6, 2) := by decide +kernel
theorem dL_law_1896 : decode cL_law 1896 = .ok (.aload_n 2, 1) := by decide +kernel
theorem dL_law_1897 : decode cL_law 1897 = .ok (.aload_n 0, 1) := by decide +kernel
theorem dL_law_1898 : decode cL_law 1898 = .ok (.iload 5, 2) := by decide +kernel
theorem dL_law_1900 : decode cL_law 1900 = .ok (.iconst 1, 1) := by decide +kernel
theorem dL_law_1901 : decode cL_law 1901 = .ok (.iadd, 1) := by decide +kernel
theorem dL_law_1902 : decode cL_law 1902 = .ok (.iaload, 1) := by decide +kernel
theorem dL_law_1903 : decode cL_law 1903 = .ok (.invokevirtual 293, 3) := by decide +kernel
theorem dL_law_1906 : decode cL_law 1906 = .ok (.istore 7, 2) := by decide +kernel
theorem dL_law_1908 : decode cL_law 1908 = .ok (.aload_n 2, 1) := by decide +kernel
theorem dL_law_1909 : decode cL_law 1909 = .ok (.invokevirtual 204, 3) := by decide +kernel
theorem dL_law_1912 : decode cL_law 1912 = .ok (.iload 6, 2) := by decide +kernel
theorem dL_law_1914 : decode cL_law 1914 = .ok (.if_icmp .eq 5, 3) := by decide +kernel
theorem dL_law_1917 : decode cL_law 1917 = .ok (.iconst 0, 1) := by decide +kernel
theorem dL_law_1918 : decode cL_law 1918 = .ok (.ireturn, 1) := by decide +kernel
theorem dL_law_1919 : decode cL_law 1919 = .ok (.iload 6, 2) := by decide +kernel
theorem dL_law_1921 : decode cL_law 1921 = .ok (.ifCond .ne 22, 3) := by decide +kernel
theorem dL_law_1924 : decode cL_law 1924 = .ok (.aload_n 3, 1) := by decide +kernel
theorem dL_law_1925 : decode cL_law 1925 = .ok (.iconst 0, 1) := by decide +kernel
theorem dL_law_1926 : decode cL_law 1926 = .ok (.laload, 1) := by decide +kernel
theorem dL_law_1927 : decode cL_law 1927 = .ok (.iload 7, 2) := by decide +kernel
theorem dL_law_1929 : decode cL_law 1929 = .ok (.ifCond .eq 7, 3) := by decide +kernel
theorem dL_law_1932 : decode cL_law 1932 = .ok (.lconst 1, 1) := by decide +kernel
theorem dL_law_1933 : decode cL_law 1933 = .ok (.goto 4, 3) := by decide +kernel
theorem dL_law_1936 : decode cL_law 1936 = .ok (.lconst 0, 1) := by decide +kernel
theorem dL_law_1937 : decode cL_law 1937 = .ok (.lcmp, 1) := by decide +kernel
theorem dL_law_1938 : decode cL_law 1938 = .ok (.ifCond .eq 5, 3) := by decide +kernel
theorem dL_law_1941 : decode cL_law 1941 = .ok (.iconst 0, 1) := by decide +kernel
theorem dL_law_1942 : decode cL_law 1942 = .ok (.ireturn, 1) := by decide +kernel
theorem dL_law_1943 : decode cL_law 1943 = .ok (.goto 1957, 3) := by decide +kernel
theorem dL_law_1946 : decode cL_law 1946 = .ok (.aload_n 1, 1) := by decide +kernel
theorem dL_law_1947 : decode cL_law 1947 = .ok (.aload_n 0, 1) := by decide +kernel
theorem dL_law_1948 : decode cL_law 1948 = .ok (.iload 5, 2) := by decide +kernel
theorem dL_law_1950 : decode cL_law 1950 = .ok (.iconst 1, 1) := by decide +kernel
theorem dL_law_1951 : decode cL_law 1951 = .ok (.iadd, 1) := by decide +kernel
theorem dL_law_1952 : decode cL_law 1952 = .ok (.iaload, 1) := by decide +kernel
theorem dL_law_1953 : decode cL_law 1953 = .ok (.aload_n 0, 1) := by decide +kernel
theorem dL_law_1954 : decode cL_law 1954 = .ok (.iload 5, 2) := by decide +kernel
theorem dL_law_1956 : decode cL_law 1956 = .ok (.iconst 2, 1) := by decide +kernel
theorem dL_law_1957 : decode cL_law 1957 = .ok (.iadd, 1) := by decide +kernel
theorem dL_law_1958 : decode cL_law 1958 = .ok (.iaload, 1) := by decide +kernel
theorem dL_law_1959 : decode cL_law 1959 = .ok (.aload_n 3, 1) := by decide +kernel
theorem dL_law_1960 : decode cL_law 1960 = .ok (.invokestatic 294, 3) := by decide +kernel
theorem dL_law_1963 : decode cL_law 1963 = .ok (.istore 6, 2) := by decide +kernel
theorem dL_law_1965 : decode cL_law 1965 = .ok (.aload_n 2, 1) := by decide +kernel
theorem dL_law_1966 : decode cL_law 1966 = .ok (.aload_n 0, 1) := by decide +kernel
theorem dL_law_1967 : decode cL_law 1967 = .ok (.iload 5, 2) := by decide +kernel
theorem dL_law_1969 : decode cL_law 1969 = .ok (.iconst 1, 1) := by decide +kernel
theorem dL_law_1970 : decode cL_law 1970 = .ok (.iadd, 1) := by decide +kernel
theorem dL_law_1971 : decode cL_law 1971 = .ok (.iaload, 1) := by decide +kernel
theorem dL_law_1972 : decode cL_law 1972 = .ok (.aload_n 0, 1) := by decide +kernel
theorem dL_law_1973 : decode cL_law 1973 = .ok (.iload 5, 2) := by decide +kernel
theorem dL_law_1975 : decode cL_law 1975 = .ok (.iconst 2, 1) := by decide +kernel
theorem dL_law_1976 : decode cL_law 1976 = .ok (.iadd, 1) := by decide +kernel
theorem dL_law_1977 : decode cL_law 1977 = .ok (.iaload, 1) := by decide +kernel
theorem dL_law_1978 : decode cL_law 1978 = .ok (.invokevirtual 296, 3) := by decide +kernel
theorem dL_law_1981 : decode cL_law 1981 = .ok (.istore 7, 2) := by decide +kernel
theorem dL_law_1983 : decode cL_law 1983 = .ok (.aload_n 2, 1) := by decide +kernel
theorem dL_law_1984 : decode cL_law 1984 = .ok (.invokevirtual 204, 3) := by decide +kernel
theorem dL_law_1987 : decode cL_law 1987 = .ok (.iload 6, 2) := by decide +kernel
theorem dL_law_1989 : decode cL_law 1989 = .ok (.if_icmp .eq 5, 3) := by decide +kernel
theorem dL_law_1992 : decode cL_law 1992 = .ok (.iconst 0, 1) := by decide +kernel
theorem dL_law_1993 : decode cL_law 1993 = .ok (.ireturn, 1) := by decide +kernel
theorem dL_law_1994 : decode cL_law 1994 = .ok (.iload 6, 2) := by decide +kernel
theorem dL_law_1996 : decode cL_law 1996 = .ok (.ifCond .ne 15, 3) := by decide +kernel
theorem dL_law_1999 : decode cL_law 1999 = .ok (.aload_n 3, 1) := by decide +kernel
theorem dL_law_2000 : decode cL_law 2000 = .ok (.iconst 0, 1) := by decide +kernel
theorem dL_law_2001 : decode cL_law 2001 = .ok (.laload, 1) := by decide +kernel
theorem dL_law_2002 : decode cL_law 2002 = .ok (.iload 7, 2) := by decide +kernel
theorem dL_law_2004 : decode cL_law 2004 = .ok (.i2l, 1) := by decide +kernel
theorem dL_law_2005 : decode cL_law 2005 = .ok (.lcmp, 1) := by decide +kernel
theorem dL_law_2006 : decode cL_law 2006 = .ok (.ifCond .eq 5, 3) := by decide +kernel
theorem dL_law_2009 : decode cL_law 2009 = .ok (.iconst 0, 1) := by decide +kernel
theorem dL_law_2010 : decode cL_law 2010 = .ok (.ireturn, 1) := by decide +kernel
theorem dL_law_2011 : decode cL_law 2011 = .ok (.goto 1889, 3) := by decide +kernel
theorem dL_law_2014 : decode cL_law 2014 = .ok (.aload_n 1, 1) := by decide +kernel
theorem dL_law_2015 : decode cL_law 2015 = .ok (.aload_n 0, 1) := by decide +kernel
theorem dL_law_2016 : decode cL_law 2016 = .ok (.iload 5, 2) := by decide +kernel
theorem dL_law_2018 : decode cL_law 2018 = .ok (.iconst 1, 1) := by decide +kernel
theorem dL_law_2019 : decode cL_law 2019 = .ok (.iadd, 1) := by decide +kernel
theorem dL_law_2020 : decode cL_law 2020 = .ok (.iaload, 1) := by decide +kernel
theorem dL_law_2021 : decode cL_law 2021 = .ok (.aload_n 3, 1) := by decide +kernel
theorem dL_law_2022 : decode cL_law 2022 = .ok (.invokestatic 297, 3) := by decide +kernel
theorem dL_law_2025 : decode cL_law 2025 = .ok (.istore 6, 2) := by decide +kernel
theorem dL_law_2027 : decode cL_law 2027 = .ok (.aload_n 2, 1) := by decide +kernel
theorem dL_law_2028 : decode cL_law 2028 = .ok (.aload_n 0, 1) := by decide +kernel
theorem dL_law_2029 : decode cL_law 2029 = .ok (.iload 5, 2) := by decide +kernel
theorem dL_law_2031 : decode cL_law 2031 = .ok (.iconst 1, 1) := by decide +kernel
theorem dL_law_2032 : decode cL_law 2032 = .ok (.iadd, 1) := by decide +kernel
theorem dL_law_2033 : decode cL_law 2033 = .ok (.iaload, 1) := by decide +kernel
theorem dL_law_2034 : decode cL_law 2034 = .ok (.invokevirtual 299, 3) := by decide +kernel
theorem dL_law_2037 : decode cL_law 2037 = .ok (.istore 7, 2) := by decide +kernel
theorem dL_law_2039 : decode cL_law 2039 = .ok (.aload_n 2, 1) := by decide +kernel
theorem dL_law_2040 : decode cL_law 2040 = .ok (.invokevirtual 204, 3) := by decide +kernel
theorem dL_law_2043 : decode cL_law 2043 = .ok (.iload 6, 2) := by decide +kernel
theorem dL_law_2045 : decode cL_law 2045 = .ok (.if_icmp .eq 5, 3) := by decide +kernel
theorem dL_law_2048 : decode cL_law 2048 = .ok (.iconst 0, 1) := by decide +kernel
theorem dL_law_2049 : decode cL_law 2049 = .ok (.ireturn, 1) := by decide +kernel
theorem dL_law_2050 : decode cL_law 2050 = .ok (.iload 6, 2) := by decide +kernel
theorem dL_law_2052 : decode cL_law 2052 = .ok (.ifCond .ne 22, 3) := by decide +kernel
theorem dL_law_2055 : decode cL_law 2055 = .ok (.aload_n 3, 1) := by decide +kernel
theorem dL_law_2056 : decode cL_law 2056 = .ok (.iconst 0, 1) := by decide +kernel
theorem dL_law_2057 : decode cL_law 2057 = .ok (.laload, 1) := by decide +kernel
theorem dL_law_2058 : decode cL_law 2058 = .ok (.iload 7, 2) := by decide +kernel
theorem dL_law_2060 : decode cL_law 2060 = .ok (.ifCond .eq 7, 3) := by decide +kernel
theorem dL_law_2063 : decode cL_law 2063 = .ok (.lconst 1, 1) := by decide +kernel
theorem dL_law_2064 : decode cL_law 2064 = .ok (.goto 4, 3) := by decide +kernel
theorem dL_law_2067 : decode cL_law 2067 = .ok (.lconst 0, 1) := by decide +kernel
theorem dL_law_2068 : decode cL_law 2068 = .ok (.lcmp, 1) := by decide +kernel
theorem dL_law_2069 : decode cL_law 2069 = .ok (.ifCond .eq 5, 3) := by decide +kernel
theorem dL_law_2072 : decode cL_law 2072 = .ok (.iconst 0, 1) := by decide +kernel
theorem dL_law_2073 : decode cL_law 2073 = .ok (.ireturn, 1) := by decide +kernel
theorem dL_law_2074 : decode cL_law 2074 = .ok (.goto 1826, 3) := by decide +kernel
theorem dL_law_2077 : decode cL_law 2077 = .ok (.aload_n 1, 1) := by decide +kernel
theorem dL_law_2078 : decode cL_law 2078 = .ok (.aload_n 0, 1) := by decide +kernel
theorem dL_law_2079 : decode cL_law 2079 = .ok (.iload 5, 2) := by decide +kernel
theorem dL_law_2081 : decode cL_law 2081 = .ok (.iconst 1, 1) := by decide +kernel
theorem dL_law_2082 : decode cL_law 2082 = .ok (.iadd, 1) := by decide +kernel
theorem dL_law_2083 : decode cL_law 2083 = .ok (.iaload, 1) := by decide +kernel
theorem dL_law_2084 : decode cL_law 2084 = .ok (.aload_n 3, 1) := by decide +kernel
theorem dL_law_2085 : decode cL_law 2085 = .ok (.invokestatic 300, 3) := by decide +kernel
theorem dL_law_2088 : decode cL_law 2088 = .ok (.istore 6, 2) := by decide +kernel
theorem dL_law_2090 : decode cL_law 2090 = .ok (.aload_n 2, 1) := by decide +kernel
theorem dL_law_2091 : decode cL_law 2091 = .ok (.aload_n 0, 1) := by decide +kernel
theorem dL_law_2092 : decode cL_law 2092 = .ok (.iload 5, 2) := by decide +kernel
theorem dL_law_2094 : decode cL_law 2094 = .ok (.iconst 1, 1) := by decide +kernel
theorem dL_law_2095 : decode cL_law 2095 = .ok (.iadd, 1) := by decide +kernel
theorem dL_law_2096 : decode cL_law 2096 = .ok (.iaload, 1) := by decide +kernel
theorem dL_law_2097 : decode cL_law 2097 = .ok (.invokevirtual 302, 3) := by decide +kernel
theorem dL_law_2100 : decode cL_law 2100 = .ok (.istore 7, 2) := by decide +kernel
theorem dL_law_2102 : decode cL_law 2102 = .ok (.aload_n 2, 1) := by decide +kernel
theorem dL_law_2103 : decode cL_law 2103 = .ok (.invokevirtual 204, 3) := by decide +kernel
theorem dL_law_2106 : decode cL_law 2106 = .ok (.iload 6, 2) := by decide +kernel
theorem dL_law_2108 : decode cL_law 2108 = .ok (.if_icmp .eq 5, 3) := by decide +kernel
theorem dL_law_2111 : decode cL_law 2111 = .ok (.iconst 0, 1) := by decide +kernel
theorem dL_law_2112 : decode cL_law 2112 = .ok (.ireturn, 1) := by decide +kernel
theorem dL_law_2113 : decode cL_law 2113 = .ok (.iload 6, 2) := by decide +kernel
theorem dL_law_2115 : decode cL_law 2115 = .ok (.ifCond .ne 15, 3) := by decide +kernel
theorem dL_law_2118 : decode cL_law 2118 = .ok (.aload_n 3, 1) := by decide +kernel
theorem dL_law_2119 : decode cL_law 2119 = .ok (.iconst 0, 1) := by decide +kernel
theorem dL_law_2120 : decode cL_law 2120 = .ok (.laload, 1) := by decide +kernel
theorem dL_law_2121 : decode cL_law 2121 = .ok (.iload 7, 2) := by decide +kernel
theorem dL_law_2123 : decode cL_law 2123 = .ok (.i2l, 1) := by decide +kernel
theorem dL_law_2124 : decode cL_law 2124 = .ok (.lcmp, 1) := by decide +kernel
theorem dL_law_2125 : decode cL_law 2125 = .ok (.ifCond .eq 5, 3) := by decide +kernel
theorem dL_law_2128 : decode cL_law 2128 = .ok (.iconst 0, 1) := by decide +kernel
theorem dL_law_2129 : decode cL_law 2129 = .ok (.ireturn, 1) := by decide +kernel
theorem dL_law_2130 : decode cL_law 2130 = .ok (.goto 1770, 3) := by decide +kernel
theorem dL_law_2133 : decode cL_law 2133 = .ok (.aload_n 1, 1) := by decide +kernel
theorem dL_law_2134 : decode cL_law 2134 = .ok (.aload_n 0, 1) := by decide +kernel
theorem dL_law_2135 : decode cL_law 2135 = .ok (.iload 5, 2) := by decide +kernel
theorem dL_law_2137 : decode cL_law 2137 = .ok (.iconst 1, 1) := by decide +kernel
theorem dL_law_2138 : decode cL_law 2138 = .ok (.iadd, 1) := by decide +kernel
theorem dL_law_2139 : decode cL_law 2139 = .ok (.iaload, 1) := by decide +kernel
theorem dL_law_2140 : decode cL_law 2140 = .ok (.aload_n 0, 1) := by decide +kernel
theorem dL_law_2141 : decode cL_law 2141 = .ok (.iload 5, 2) := by decide +kernel
theorem dL_law_2143 : decode cL_law 2143 = .ok (.iconst 2, 1) := by decide +kernel
theorem dL_law_2144 : decode cL_law 2144 = .ok (.iadd, 1) := by decide +kernel
theorem dL_law_2145 : decode cL_law 2145 = .ok (.iaload, 1) := by decide +kernel
theorem dL_law_2146 : decode cL_law 2146 = .ok (.aload_n 0, 1) := by decide +kernel
theorem dL_law_2147 : decode cL_law 2147 = .ok (.iload 5, 2) := by decide +kernel
theorem dL_law_2149 : decode cL_law 2149 = .ok (.iconst 3, 1) := by decide +kernel
theorem dL_law_2150 : decode cL_law 2150 = .ok (.iadd, 1) := by decide +kernel
theorem dL_law_2151 : decode cL_law 2151 = .ok (.iaload, 1) := by decide +kernel
theorem dL_law_2152 : decode cL_law 2152 = .ok (.aload_n 3, 1) := by decide +kernel
theorem dL_law_2153 : decode cL_law 2153 = .ok (.invokestatic 303, 3) := by decide +kernel
theorem dL_law_2156 : decode cL_law 2156 = .ok (.istore 6, 2) := by decide +kernel
theorem dL_law_2158 : decode cL_law 2158 = .ok (.aload_n 2, 1) := by decide +kernel
theorem dL_law_2159 : decode cL_law 2159 = .ok (.aload_n 0, 1) := by decide +kernel
theorem dL_law_2160 : decode cL_law 2160 = .ok (.iload 5, 2) := by decide +kernel
theorem dL_law_2162 : decode cL_law 2162 = .ok (.iconst 1, 1) := by decide +kernel
theorem dL_law_2163 : decode cL_law 2163 = .ok (.iadd, 1) := by decide +kernel
theorem dL_law_2164 : decode cL_law 2164 = .ok (.iaload, 1) := by decide +kernel
theorem dL_law_2165 : decode cL_law 2165 = .ok (.aload_n 0, 1) := by decide +kernel
theorem dL_law_2166 : decode cL_law 2166 = .ok (.iload 5, 2) := by decide +kernel
theorem dL_law_2168 : decode cL_law 2168 = .ok (.iconst 2, 1) := by decide +kernel
theorem dL_law_2169 : decode cL_law 2169 = .ok (.iadd, 1) := by decide +kernel
theorem dL_law_2170 : decode cL_law 2170 = .ok (.iaload, 1) := by decide +kernel
theorem dL_law_2171 : decode cL_law 2171 = .ok (.aload_n 0, 1) := by decide +kernel
theorem dL_law_2172 : decode cL_law 2172 = .ok (.iload 5, 2) := by decide +kernel
theorem dL_law_2174 : decode cL_law 2174 = .ok (.iconst 3, 1) := by decide +kernel
theorem dL_law_2175 : decode cL_law 2175 = .ok (.iadd, 1) := by decide +kernel
theorem dL_law_2176 : decode cL_law 2176 = .ok (.iaload, 1) := by decide +kernel
theorem dL_law_2177 : decode cL_law 2177 = .ok (.invokevirtual 306, 3) := by decide +kernel
theorem dL_law_2180 : decode cL_law 2180 = .ok (.istore 7, 2) := by decide +kernel
theorem dL_law_2182 : decode cL_law 2182 = .ok (.aload_n 2, 1) := by decide +kernel
theorem dL_law_2183 : decode cL_law 2183 = .ok (.invokevirtual 204, 3) := by decide +kernel
theorem dL_law_2186 : decode cL_law 2186 = .ok (.iload 6, 2) := by decide +kernel
theorem dL_law_2188 : decode cL_law 2188 = .ok (.if_icmp .eq 5, 3) := by decide +kernel
theorem dL_law_2191 : decode cL_law 2191 = .ok (.iconst 0, 1) := by decide +kernel
theorem dL_law_2192 : decode cL_law 2192 = .ok (.ireturn, 1) := by decide +kernel
theorem dL_law_2193 : decode cL_law 2193 = .ok (.iload 6, 2) := by decide +kernel
theorem dL_law_2195 : decode cL_law 2195 = .ok (.ifCond .ne 15, 3) := by decide +kernel
theorem dL_law_2198 : decode cL_law 2198 = .ok (.aload_n 3, 1) := by decide +kernel
theorem dL_law_2199 : decode cL_law 2199 = .ok (.iconst 0, 1) := by decide +kernel
theorem dL_law_2200 : decode cL_law 2200 = .ok (.laload, 1) := by decide +kernel
theorem dL_law_2201 : decode cL_law 2201 = .ok (.iload 7, 2) := by decide +kernel
theorem dL_law_2203 : decode cL_law 2203 = .ok (.i2l, 1) := by decide +kernel
theorem dL_law_2204 : decode cL_law 2204 = .ok (.lcmp, 1) := by decide +kernel
theorem dL_law_2205 : decode cL_law 2205 = .ok (.ifCond .eq 5, 3) := by decide +kernel
theorem dL_law_2208 : decode cL_law 2208 = .ok (.iconst 0, 1) := by decide +kernel
theorem dL_law_2209 : decode cL_law 2209 = .ok (.ireturn, 1) := by decide +kernel
theorem dL_law_2210 : decode cL_law 2210 = .ok (.goto 1690, 3) := by decide +kernel
theorem dL_law_2213 : decode cL_law 2213 = .ok (.aload_n 1, 1) := by decide +kernel
theorem dL_law_2214 : decode cL_law 2214 = .ok (.aload_n 0, 1) := by decide +kernel
theorem dL_law_2215 : decode cL_law 2215 = .ok (.iload 5, 2) := by decide +kernel
theorem dL_law_2217 : decode cL_law 2217 = .ok (.iconst 1, 1) := by decide +kernel
theorem dL_law_2218 : decode cL_law 2218 = .ok (.iadd, 1) := by decide +kernel
theorem dL_law_2219 : decode cL_law 2219 = .ok (.iaload, 1) := by decide +kernel
theorem dL_law_2220 : decode cL_law 2220 = .ok (.aload_n 0, 1) := by decide +kernel
theorem dL_law_2221 : decode cL_law 2221 = .ok (.iload 5, 2) := by decide +kernel
theorem dL_law_2223 : decode cL_law 2223 = .ok (.iconst 2, 1) := by decide +kernel
theorem dL_law_2224 : decode cL_law 2224 = .ok (.iadd, 1) := by decide +kernel
theorem dL_law_2225 : decode cL_law 2225 = .ok (.iaload, 1) := by decide +kernel
theorem dL_law_2226 : decode cL_law 2226 = .ok (.aload_n 0, 1) := by decide +kernel
theorem dL_law_2227 : decode cL_law 2227 = .ok (.iload 5, 2) := by decide +kernel
theorem dL_law_2229 : decode cL_law 2229 = .ok (.iconst 3, 1) := by decide +kernel
theorem dL_law_2230 : decode cL_law 2230 = .ok (.iadd, 1) := by decide +kernel
theorem dL_law_2231 : decode cL_law 2231 = .ok (.iaload, 1) := by decide +kernel
theorem dL_law_2232 : decode cL_law 2232 = .ok (.aload_n 3, 1) := by decide +kernel
theorem dL_law_2233 : decode cL_law 2233 = .ok (.invokestatic 307, 3) := by decide +kernel
theorem dL_law_2236 : decode cL_law 2236 = .ok (.istore 6, 2) := by decide +kernel
theorem dL_law_2238 : decode cL_law 2238 = .ok (.aload_n 2, 1) := by decide +kernel
theorem dL_law_2239 : decode cL_law 2239 = .ok (.aload_n 0, 1) := by decide +kernel
theorem dL_law_2240 : decode cL_law 2240 = .ok (.iload 5, 2) := by decide +kernel
theorem dL_law_2242 : decode cL_law 2242 = .ok (.iconst 1, 1) := by decide +kernel
theorem dL_law_2243 : decode cL_law 2243 = .ok (.iadd, 1) := by decide +kernel
theorem dL_law_2244 : decode cL_law 2244 = .ok (.iaload, 1) := by decide +kernel
theorem dL_law_2245 : decode cL_law 2245 = .ok (.aload_n 0, 1) := by decide +kernel
theorem dL_law_2246 : decode cL_law 2246 = .ok (.iload 5, 2) := by decide +kernel
theorem dL_law_2248 : decode cL_law 2248 = .ok (.iconst 2, 1) := by decide +kernel
theorem dL_law_2249 : decode cL_law 2249 = .ok (.iadd, 1) := by decide +kernel
theorem dL_law_2250 : decode cL_law 2250 = .ok (.iaload, 1) := by decide +kernel
theorem dL_law_2251 : decode cL_law 2251 = .ok (.aload_n 0, 1) := by decide +kernel
theorem dL_law_2252 : decode cL_law 2252 = .ok (.iload 5, 2) := by decide +kernel
theorem dL_law_2254 : decode cL_law 2254 = .ok (.iconst 3, 1) := by decide +kernel
theorem dL_law_2255 : decode cL_law 2255 = .ok (.iadd, 1) := by decide +kernel
theorem dL_law_2256 : decode cL_law 2256 = .ok (.iaload, 1) := by decide +kernel
theorem dL_law_2257 : decode cL_law 2257 = .ok (.invokevirtual 309, 3) := by decide +kernel
theorem dL_law_2260 : decode cL_law 2260 = .ok (.istore 7, 2) := by decide +kernel
theorem dL_law_2262 : decode cL_law 2262 = .ok (.aload_n 2, 1) := by decide +kernel
theorem dL_law_2263 : decode cL_law 2263 = .ok (.invokevirtual 204, 3) := by decide +kernel
theorem dL_law_2266 : decode cL_law 2266 = .ok (.iload 6, 2) := by decide +kernel
theorem dL_law_2268 : decode cL_law 2268 = .ok (.if_icmp .eq 5, 3) := by decide +kernel
theorem dL_law_2271 : decode cL_law 2271 = .ok (.iconst 0, 1) := by decide +kernel
theorem dL_law_2272 : decode cL_law 2272 = .ok (.ireturn, 1) := by decide +kernel
theorem dL_law_2273 : decode cL_law 2273 = .ok (.iload 6, 2) := by decide +kernel
theorem dL_law_2275 : decode cL_law 2275 = .ok (.ifCond .ne 15, 3) := by decide +kernel
theorem dL_law_2278 : decode cL_law 2278 = .ok (.aload_n 3, 1) := by decide +kernel
theorem dL_law_2279 : decode cL_law 2279 = .ok (.iconst 0, 1) := by decide +kernel
theorem dL_law_2280 : decode cL_law 2280 = .ok (.laload, 1) := by decide +kernel
theorem dL_law_2281 : decode cL_law 2281 = .ok (.iload 7, 2) := by decide +kernel
theorem dL_law_2283 : decode cL_law 2283 = .ok (.i2l, 1) := by decide +kernel
theorem dL_law_2284 : decode cL_law 2284 = .ok (.lcmp, 1) := by decide +kernel
theorem dL_law_2285 : decode cL_law 2285 = .ok (.ifCond .eq 5, 3) := by decide +kernel
theorem dL_law_2288 : decode cL_law 2288 = .ok (.iconst 0, 1) := by decide +kernel
theorem dL_law_2289 : decode cL_law 2289 = .ok (.ireturn, 1) := by decide +kernel
theorem dL_law_2290 : decode cL_law 2290 = .ok (.goto 1610, 3) := by decide +kernel
theorem dL_law_2293 : decode cL_law 2293 = .ok (.aload_n 1, 1) := by decide +kernel
theorem dL_law_2294 : decode cL_law 2294 = .ok (.aload_n 0, 1) := by decide +kernel
theorem dL_law_2295 : decode cL_law 2295 = .ok (.iload 5, 2) := by decide +kernel
theorem dL_law_2297 : decode cL_law 2297 = .ok (.iconst 1, 1) := by decide +kernel
theorem dL_law_2298 : decode cL_law 2298 = .ok (.iadd, 1) := by decide +kernel
theorem dL_law_2299 : decode cL_law 2299 = .ok (.iaload, 1) := by decide +kernel
theorem dL_law_2300 : decode cL_law 2300 = .ok (.aload_n 0, 1) := by decide +kernel
theorem dL_law_2301 : decode cL_law 2301 = .ok (.iload 5, 2) := by decide +kernel
theorem dL_law_2303 : decode cL_law 2303 = .ok (.iconst 2, 1) := by decide +kernel
theorem dL_law_2304 : decode cL_law 2304 = .ok (.iadd, 1) := by decide +kernel
theorem dL_law_2305 : decode cL_law 2305 = .ok (.iaload, 1) := by decide +kernel
theorem dL_law_2306 : decode cL_law 2306 = .ok (.aload_n 0, 1) := by decide +kernel
theorem dL_law_2307 : decode cL_law 2307 = .ok (.iload 5, 2) := by decide +kernel
theorem dL_law_2309 : decode cL_law 2309 = .ok (.iconst 3, 1) := by decide +kernel
theorem dL_law_2310 : decode cL_law 2310 = .ok (.iadd, 1) := by decide +kernel
theorem dL_law_2311 : decode cL_law 2311 = .ok (.iaload, 1) := by decide +kernel
theorem dL_law_2312 : decode cL_law 2312 = .ok (.aload_n 3, 1) := by decide +kernel
theorem dL_law_2313 : decode cL_law 2313 = .ok (.invokestatic 310, 3) := by decide +kernel
theorem dL_law_2316 : decode cL_law 2316 = .ok (.istore 6, 2) := by decide +kernel
theorem dL_law_2318 : decode cL_law 2318 = .ok (.aload_n 2, 1) := by decide +kernel
theorem dL_law_2319 : decode cL_law 2319 = .ok (.aload_n 0, 1) := by decide +kernel
theorem dL_law_2320 : decode cL_law 2320 = .ok (.iload 5, 2) := by decide +kernel
theorem dL_law_2322 : decode cL_law 2322 = .ok (.iconst 1, 1) := by decide +kernel
theorem dL_law_2323 : decode cL_law 2323 = .ok (.iadd, 1) := by decide +kernel
theorem dL_law_2324 : decode cL_law 2324 = .ok (.iaload, 1) := by decide +kernel
theorem dL_law_2325 : decode cL_law 2325 = .ok (.aload_n 0, 1) := by decide +kernel
theorem dL_law_2326 : decode cL_law 2326 = .ok (.iload 5, 2) := by decide +kernel
theorem dL_law_2328 : decode cL_law 2328 = .ok (.iconst 2, 1) := by decide +kernel
theorem dL_law_2329 : decode cL_law 2329 = .ok (.iadd, 1) := by decide +kernel
theorem dL_law_2330 : decode cL_law 2330 = .ok (.iaload, 1) := by decide +kernel
theorem dL_law_2331 : decode cL_law 2331 = .ok (.aload_n 0, 1) := by decide +kernel
theorem dL_law_2332 : decode cL_law 2332 = .ok (.iload 5, 2) := by decide +kernel
theorem dL_law_2334 : decode cL_law 2334 = .ok (.iconst 3, 1) := by decide +kernel
theorem dL_law_2335 : decode cL_law 2335 = .ok (.iadd, 1) := by decide +kernel
theorem dL_law_2336 : decode cL_law 2336 = .ok (.iaload, 1) := by decide +kernel
theorem dL_law_2337 : decode cL_law 2337 = .ok (.invokevirtual 312, 3) := by decide +kernel
theorem dL_law_2340 : decode cL_law 2340 = .ok (.istore 7, 2) := by decide +kernel
theorem dL_law_2342 : decode cL_law 2342 = .ok (.aload_n 2, 1) := by decide +kernel
theorem dL_law_2343 : decode cL_law 2343 = .ok (.invokevirtual 204, 3) := by decide +kernel
theorem dL_law_2346 : decode cL_law 2346 = .ok (.iload 6, 2) := by decide +kernel
theorem dL_law_2348 : decode cL_law 2348 = .ok (.if_icmp .eq 5, 3) := by decide +kernel
theorem dL_law_2351 : decode cL_law 2351 = .ok (.iconst 0, 1) := by decide +kernel
theorem dL_law_2352 : decode cL_law 2352 = .ok (.ireturn, 1) := by decide +kernel
theorem dL_law_2353 : decode cL_law 2353 = .ok (.iload 6, 2) := by decide +kernel
theorem dL_law_2355 : decode cL_law 2355 = .ok (.ifCond .ne 15, 3) := by decide +kernel
theorem dL_law_2358 : decode cL_law 2358 = .ok (.aload_n 3, 1) := by decide +kernel
theorem dL_law_2359 : decode cL_law 2359 = .ok (.iconst 0, 1) := by decide +kernel
theorem dL_law_2360 : decode cL_law 2360 = .ok (.laload, 1) := by decide +kernel
theorem dL_law_2361 : decode cL_law 2361 = .ok (.iload 7, 2) := by decide +kernel
theorem dL_law_2363 : decode cL_law 2363 = .ok (.i2l, 1) := by decide +kernel
theorem dL_law_2364 : decode cL_law 2364 = .ok (.lcmp, 1) := by decide +kernel
theorem dL_law_2365 : decode cL_law 2365 = .ok (.ifCond .eq 5, 3) := by decide +kernel
theorem dL_law_2368 : decode cL_law 2368 = .ok (.iconst 0, 1) := by decide +kernel
theorem dL_law_2369 : decode cL_law 2369 = .ok (.ireturn, 1) := by decide +kernel
theorem dL_law_2370 : decode cL_law 2370 = .ok (.goto 1530, 3) := by decide +kernel
theorem dL_law_2373 : decode cL_law 2373 = .ok (.aload_n 1, 1) := by decide +kernel
theorem dL_law_2374 : decode cL_law 2374 = .ok (.aload_n 0, 1) := by decide +kernel
theorem dL_law_2375 : decode cL_law 2375 = .ok (.iload 5, 2) := by decide +kernel
theorem dL_law_2377 : decode cL_law 2377 = .ok (.iconst 1, 1) := by decide +kernel
theorem dL_law_2378 : decode cL_law 2378 = .ok (.iadd, 1) := by decide +kernel
theorem dL_law_2379 : decode cL_law 2379 = .ok (.iaload, 1) := by decide +kernel
theorem dL_law_2380 : decode cL_law 2380 = .ok (.aload_n 3, 1) := by decide +kernel
theorem dL_law_2381 : decode cL_law 2381 = .ok (.invokestatic 313, 3) := by decide +kernel
theorem dL_law_2384 : decode cL_law 2384 = .ok (.istore 6, 2) := by decide +kernel
theorem dL_law_2386 : decode cL_law 2386 = .ok (.aload_n 2, 1) := by decide +kernel
theorem dL_law_2387 : decode cL_law 2387 = .ok (.aload_n 0, 1) := by decide +kernel
theorem dL_law_2388 : decode cL_law 2388 = .ok (.iload 5, 2) := by decide +kernel
theorem dL_law_2390 : decode cL_law 2390 = .ok (.iconst 1, 1) := by decide +kernel
theorem dL_law_2391 : decode cL_law 2391 = .ok (.iadd, 1) := by decide +kernel
theorem dL_law_2392 : decode cL_law 2392 = .ok (.iaload, 1) := by decide +kernel
theorem dL_law_2393 : decode cL_law 2393 = .ok (.invokevirtual 315, 3) := by decide +kernel
theorem dL_law_2396 : decode cL_law 2396 = .ok (.istore 7, 2) := by decide +kernel
theorem dL_law_2398 : decode cL_law 2398 = .ok (.aload_n 2, 1) := by decide +kernel
theorem dL_law_2399 : decode cL_law 2399 = .ok (.invokevirtual 204, 3) := by decide +kernel
theorem dL_law_2402 : decode cL_law 2402 = .ok (.iload 6, 2) := by decide +kernel
theorem dL_law_2404 : decode cL_law 2404 = .ok (.if_icmp .eq 5, 3) := by decide +kernel
theorem dL_law_2407 : decode cL_law 2407 = .ok (.iconst 0, 1) := by decide +kernel
theorem dL_law_2408 : decode cL_law 2408 = .ok (.ireturn, 1) := by decide +kernel
theorem dL_law_2409 : decode cL_law 2409 = .ok (.iload 6, 2) := by decide +kernel
theorem dL_law_2411 : decode cL_law 2411 = .ok (.ifCond .ne 15, 3) := by decide +kernel
theorem dL_law_2414 : decode cL_law 2414 = .ok (.aload_n 3, 1) := by decide +kernel
theorem dL_law_2415 : decode cL_law 2415 = .ok (.iconst 0, 1) := by decide +kernel
theorem dL_law_2416 : decode cL_law 2416 = .ok (.laload, 1) := by decide +kernel
theorem dL_law_2417 : decode cL_law 2417 = .ok (.iload 7, 2) := by decide +kernel
theorem dL_law_2419 : decode cL_law 2419 = .ok (.i2l, 1) := by decide +kernel
theorem dL_law_2420 : decode cL_law 2420 = .ok (.lcmp, 1) := by decide +kernel
theorem dL_law_2421 : decode cL_law 2421 = .ok (.ifCond .eq 5, 3) := by decide +kernel
theorem dL_law_2424 : decode cL_law 2424 = .ok (.iconst 0, 1) := by decide +kernel
theorem dL_law_2425 : decode cL_law 2425 = .ok (.ireturn, 1) := by decide +kernel
theorem dL_law_2426 : decode cL_law 2426 = .ok (.goto 1474, 3) := by decide +kernel
theorem dL_law_2429 : decode cL_law 2429 = .ok (.aload_n 1, 1) := by decide +kernel
theorem dL_law_2430 : decode cL_law 2430 = .ok (.aload_n 0, 1) := by decide +kernel
theorem dL_law_2431 : decode cL_law 2431 = .ok (.iload 5, 2) := by decide +kernel
theorem dL_law_2433 : decode cL_law 2433 = .ok (.iconst 1, 1) := by decide +kernel
theorem dL_law_2434 : decode cL_law 2434 = .ok (.iadd, 1) := by decide +kernel
theorem dL_law_2435 : decode cL_law 2435 = .ok (.iaload, 1) := by decide +kernel
theorem dL_law_2436 : decode cL_law 2436 = .ok (.aload_n 0, 1) := by decide +kernel
theorem dL_law_2437 : decode cL_law 2437 = .ok (.iload 5, 2) := by decide +kernel
theorem dL_law_2439 : decode cL_law 2439 = .ok (.iconst 2, 1) := by decide +kernel
theorem dL_law_2440 : decode cL_law 2440 = .ok (.iadd, 1) := by decide +kernel
theorem dL_law_2441 : decode cL_law 2441 = .ok (.iaload, 1) := by decide +kernel
theorem dL_law_2442 : decode cL_law 2442 = .ok (.aload_n 3, 1) := by decide +kernel
theorem dL_law_2443 : decode cL_law 2443 = .ok (.invokestatic 316, 3) := by decide +kernel
theorem dL_law_2446 : decode cL_law 2446 = .ok (.istore 6, 2) := by decide +kernel
theorem dL_law_2448 : decode cL_law 2448 = .ok (.aload_n 2, 1) := by decide +kernel
theorem dL_law_2449 : decode cL_law 2449 = .ok (.aload_n 0, 1) := by decide +kernel
theorem dL_law_2450 : decode cL_law 2450 = .ok (.iload 5, 2) := by decide +kernel
theorem dL_law_2452 : decode cL_law 2452 = .ok (.iconst 1, 1) := by decide +kernel
theorem dL_law_2453 : decode cL_law 2453 = .ok (.iadd, 1) := by decide +kernel
theorem dL_law_2454 : decode cL_law 2454 = .ok (.iaload, 1) := by decide +kernel
theorem dL_law_2455 : decode cL_law 2455 = .ok (.aload_n 0, 1) := by decide +kernel
theorem dL_law_2456 : decode cL_law 2456 = .ok (.iload 5, 2) := by decide +kernel
theorem dL_law_2458 : decode cL_law 2458 = .ok (.iconst 2, 1) := by decide +kernel
theorem dL_law_2459 : decode cL_law 2459 = .ok (.iadd, 1) := by decide +kernel
theorem dL_law_2460 : decode cL_law 2460 = .ok (.iaload, 1) := by decide +kernel
theorem dL_law_2461 : decode cL_law 2461 = .ok (.invokevirtual 318, 3) := by decide +kernel
theorem dL_law_2464 : decode cL_law 2464 = .ok (.istore 7, 2) := by decide +kernel
theorem dL_law_2466 : decode cL_law 2466 = .ok (.aload_n 2, 1) := by decide +kernel
theorem dL_law_2467 : decode cL_law 2467 = .ok (.invokevirtual 204, 3) := by decide +kernel
theorem dL_law_2470 : decode cL_law 2470 = .ok (.iload 6, 2) := by decide +kernel
theorem dL_law_2472 : decode cL_law 2472 = .ok (.if_icmp .eq 5, 3) := by decide +kernel
theorem dL_law_2475 : decode cL_law 2475 = .ok (.iconst 0, 1) := by decide +kernel
theorem dL_law_2476 : decode cL_law 2476 = .ok (.ireturn, 1) := by decide +kernel
theorem dL_law_2477 : decode cL_law 2477 = .ok (.iload 6, 2) := by decide +kernel
theorem dL_law_2479 : decode cL_law 2479 = .ok (.ifCond .ne 15, 3) := by decide +kernel
theorem dL_law_2482 : decode cL_law 2482 = .ok (.aload_n 3, 1) := by decide +kernel
theorem dL_law_2483 : decode cL_law 2483 = .ok (.iconst 0, 1) := by decide +kernel
theorem dL_law_2484 : decode cL_law 2484 = .ok (.laload, 1) := by decide +kernel
theorem dL_law_2485 : decode cL_law 2485 = .ok (.iload 7, 2) := by decide +kernel
theorem dL_law_2487 : decode cL_law 2487 = .ok (.i2l, 1) := by decide +kernel
theorem dL_law_2488 : decode cL_law 2488 = .ok (.lcmp, 1) := by decide +kernel
theorem dL_law_2489 : decode cL_law 2489 = .ok (.ifCond .eq 5, 3) := by decide +kernel
theorem dL_law_2492 : decode cL_law 2492 = .ok (.iconst 0, 1) := by decide +kernel
theorem dL_law_2493 : decode cL_law 2493 = .ok (.ireturn, 1) := by decide +kernel
theorem dL_law_2494 : decode cL_law 2494 = .ok (.goto 1406, 3) := by decide +kernel
theorem dL_law_2497 : decode cL_law 2497 = .ok (.aload_n 1, 1) := by decide +kernel
theorem dL_law_2498 : decode cL_law 2498 = .ok (.aload_n 0, 1) := by decide +kernel
theorem dL_law_2499 : decode cL_law 2499 = .ok (.iload 5, 2) := by decide +kernel
theorem dL_law_2501 : decode cL_law 2501 = .ok (.iconst 1, 1) := by decide +kernel
theorem dL_law_2502 : decode cL_law 2502 = .ok (.iadd, 1) := by decide +kernel
theorem dL_law_2503 : decode cL_law 2503 = .ok (.iaload, 1) := by decide +kernel
theorem dL_law_2504 : decode cL_law 2504 = .ok (.aload_n 0, 1) := by decide +kernel
theorem dL_law_2505 : decode cL_law 2505 = .ok (.iload 5, 2) := by decide +kernel
theorem dL_law_2507 : decode cL_law 2507 = .ok (.iconst 2, 1) := by decide +kernel
theorem dL_law_2508 : decode cL_law 2508 = .ok (.iadd, 1) := by decide +kernel
theorem dL_law_2509 : decode cL_law 2509 = .ok (.iaload, 1) := by decide +kernel
theorem dL_law_2510 : decode cL_law 2510 = .ok (.aload_n 3, 1) := by decide +kernel
theorem dL_law_2511 : decode cL_law 2511 = .ok (.invokestatic 319, 3) := by decide +kernel
theorem dL_law_2514 : decode cL_law 2514 = .ok (.istore 6, 2) := by decide +kernel
theorem dL_law_2516 : decode cL_law 2516 = .ok (.aload_n 2, 1) := by decide +kernel
theorem dL_law_2517 : decode cL_law 2517 = .ok (.aload_n 0, 1) := by decide +kernel
theorem dL_law_2518 : decode cL_law 2518 = .ok (.iload 5, 2) := by decide +kernel
theorem dL_law_2520 : decode cL_law 2520 = .ok (.iconst 1, 1) := by decide +kernel
theorem dL_law_2521 : decode cL_law 2521 = .ok (.iadd, 1) := by decide +kernel
theorem dL_law_2522 : decode cL_law 2522 = .ok (.iaload, 1) := by decide +kernel
theorem dL_law_2523 : decode cL_law 2523 = .ok (.aload_n 0, 1) := by decide +kernel
theorem dL_law_2524 : decode cL_law 2524 = .ok (.iload 5, 2) := by decide +kernel
theorem dL_law_2526 : decode cL_law 2526 = .ok (.iconst 2, 1) := by decide +kernel
theorem dL_law_2527 : decode cL_law 2527 = .ok (.iadd, 1) := by decide +kernel
theorem dL_law_2528 : decode cL_law 2528 = .ok (.iaload, 1) := by decide +kernel
theorem dL_law_2529 : decode cL_law 2529 = .ok (.invokevirtual 321, 3) := by decide +kernel
theorem dL_law_2532 : decode cL_law 2532 = .ok (.istore 7, 2) := by decide +kernel
theorem dL_law_2534 : decode cL_law 2534 = .ok (.aload_n 2, 1) := by decide +kernel
theorem dL_law_2535 : decode cL_law 2535 = .ok (.invokevirtual 204, 3) := by decide +kernel
theorem dL_law_2538 : decode cL_law 2538 = .ok (.iload 6, 2) := by decide +kernel
theorem dL_law_2540 : decode cL_law 2540 = .ok (.if_icmp .eq 5, 3) := by decide +kernel
theorem dL_law_2543 : decode cL_law 2543 = .ok (.iconst 0, 1) := by decide +kernel
theorem dL_law_2544 : decode cL_law 2544 = .ok (.ireturn, 1) := by decide +kernel
theorem dL_law_2545 : decode cL_law 2545 = .ok (.iload 6, 2) := by decide +kernel
theorem dL_law_2547 : decode cL_law 2547 = .ok (.ifCond .ne 15, 3) := by decide +kernel
theorem dL_law_2550 : decode cL_law 2550 = .ok (.aload_n 3, 1) := by decide +kernel
theorem dL_law_2551 : decode cL_law 2551 = .ok (.iconst 0, 1) := by decide +kernel
theorem dL_law_2552 : decode cL_law 2552 = .ok (.laload, 1) := by decide +kernel
theorem dL_law_2553 : decode cL_law 2553 = .ok (.iload 7, 2) := by decide +kernel
theorem dL_law_2555 : decode cL_law 2555 = .ok (.i2l, 1) := by decide +kernel
theorem dL_law_2556 : decode cL_law 2556 = .ok (.lcmp, 1) := by decide +kernel
theorem dL_law_2557 : decode cL_law 2557 = .ok (.ifCond .eq 5, 3) := by decide +kernel
theorem dL_law_2560 : decode cL_law 2560 = .ok (.iconst 0, 1) := by decide +kernel
theorem dL_law_2561 : decode cL_law 2561 = .ok (.ireturn, 1) := by decide +kernel
theorem dL_law_2562 : decode cL_law 2562 = .ok (.goto 1338, 3) := by decide +kernel
theorem dL_law_2565 : decode cL_law 2565 = .ok (.aload_n 1, 1) := by decide +kernel
theorem dL_law_2566 : decode cL_law 2566 = .ok (.aload_n 0, 1) := by decide +kernel
theorem dL_law_2567 : decode cL_law 2567 = .ok (.iload 5, 2) := by decide +kernel
theorem dL_law_2569 : decode cL_law 2569 = .ok (.iconst 1, 1) := by decide +kernel
theorem dL_law_2570 : decode cL_law 2570 = .ok (.iadd, 1) := by decide +kernel
theorem dL_law_2571 : decode cL_law 2571 = .ok (.iaload, 1) := by decide +kernel
theorem dL_law_2572 : decode cL_law 2572 = .ok (.aload_n 0, 1) := by decide +kernel
theorem dL_law_2573 : decode cL_law 2573 = .ok (.iload 5, 2) := by decide +kernel
theorem dL_law_2575 : decode cL_law 2575 = .ok (.iconst 2, 1) := by decide +kernel
theorem dL_law_2576 : decode cL_law 2576 = .ok (.iadd, 1) := by decide +kernel
theorem dL_law_2577 : decode cL_law 2577 = .ok (.iaload, 1) := by decide +kernel
theorem dL_law_2578 : decode cL_law 2578 = .ok (.aload_n 3, 1) := by decide +kernel
theorem dL_law_2579 : decode cL_law 2579 = .ok (.invokestatic 322, 3) := by decide +kernel
theorem dL_law_2582 : decode cL_law 2582 = .ok (.istore 6, 2) := by decide +kernel
theorem dL_law_2584 : decode cL_law 2584 = .ok (.aload_n 2, 1) := by decide +kernel
theorem dL_law_2585 : decode cL_law 2585 = .ok (.aload_n 0, 1) := by decide +kernel
theorem dL_law_2586 : decode cL_law 2586 = .ok (.iload 5, 2) := by decide +kernel
theorem dL_law_2588 : decode cL_law 2588 = .ok (.iconst 1, 1) := by decide +kernel
theorem dL_law_2589 : decode cL_law 2589 = .ok (.iadd, 1) := by decide +kernel
theorem dL_law_2590 : decode cL_law 2590 = .ok (.iaload, 1) := by decide +kernel
theorem dL_law_2591 : decode cL_law 2591 = .ok (.aload_n 0, 1) := by decide +kernel
theorem dL_law_2592 : decode cL_law 2592 = .ok (.iload 5, 2) := by decide +kernel
theorem dL_law_2594 : decode cL_law 2594 = .ok (.iconst 2, 1) := by decide +kernel
theorem dL_law_2595 : decode cL_law 2595 = .ok (.iadd, 1) := by decide +kernel
theorem dL_law_2596 : decode cL_law 2596 = .ok (.iaload, 1) := by decide +kernel
theorem dL_law_2597 : decode cL_law 2597 = .ok (.invokevirtual 324, 3) := by decide +kernel
theorem dL_law_2600 : decode cL_law 2600 = .ok (.istore 7, 2) := by decide +kernel
theorem dL_law_2602 : decode cL_law 2602 = .ok (.aload_n 2, 1) := by decide +kernel
theorem dL_law_2603 : decode cL_law 2603 = .ok (.invokevirtual 204, 3) := by decide +kernel
theorem dL_law_2606 : decode cL_law 2606 = .ok (.iload 6, 2) := by decide +kernel
theorem dL_law_2608 : decode cL_law 2608 = .ok (.if_icmp .eq 5, 3) := by decide +kernel
theorem dL_law_2611 : decode cL_law 2611 = .ok (.iconst 0, 1) := by decide +kernel
theorem dL_law_2612 : decode cL_law 2612 = .ok (.ireturn, 1) := by decide +kernel
theorem dL_law_2613 : decode cL_law 2613 = .ok (.iload 6, 2) := by decide +kernel
theorem dL_law_2615 : decode cL_law 2615 = .ok (.ifCond .ne 15, 3) := by decide +kernel
theorem dL_law_2618 : decode cL_law 2618 = .ok (.aload_n 3, 1) := by decide +kernel
theorem dL_law_2619 : decode cL_law 2619 = .ok (.iconst 0, 1) := by decide +kernel
theorem dL_law_2620 : decode cL_law 2620 = .ok (.laload, 1) := by decide +kernel
theorem dL_law_2621 : decode cL_law 2621 = .ok (.iload 7, 2) := by decide +kernel
theorem dL_law_2623 : decode cL_law 2623 = .ok (.i2l, 1) := by decide +kernel
theorem dL_law_2624 : decode cL_law 2624 = .ok (.lcmp, 1) := by decide +kernel
theorem dL_law_2625 : decode cL_law 2625 = .ok (.ifCond .eq 5, 3) := by decide +kernel
theorem dL_law_2628 : decode cL_law 2628 = .ok (.iconst 0, 1) := by decide +kernel
theorem dL_law_2629 : decode cL_law 2629 = .ok (.ireturn, 1) := by decide +kernel
theorem dL_law_2630 : decode cL_law 2630 = .ok (.goto 1270, 3) := by decide +kernel
theorem dL_law_2633 : decode cL_law 2633 = .ok (.aload_n 1, 1) := by decide +kernel
theorem dL_law_2634 : decode cL_law 2634 = .ok (.aload_n 3, 1) := by decide +kernel
theorem dL_law_2635 : decode cL_law 2635 = .ok (.invokestatic 325, 3) := by decide +kernel
theorem dL_law_2638 : decode cL_law 2638 = .ok (.istore 6, 2) := by decide +kernel
theorem dL_law_2640 : decode cL_law 2640 = .ok (.aload_n 2, 1) := by decide +kernel
theorem dL_law_2641 : decode cL_law 2641 = .ok (.invokevirtual 327, 3) := by decide +kernel
theorem dL_law_2644 : decode cL_law 2644 = .ok (.istore 7, 2) := by decide +kernel
theorem dL_law_2646 : decode cL_law 2646 = .ok (.aload_n 2, 1) := by decide +kernel
theorem dL_law_2647 : decode cL_law 2647 = .ok (.invokevirtual 204, 3) := by decide +kernel
theorem dL_law_2650 : decode cL_law 2650 = .ok (.iload 6, 2) := by decide +kernel
theorem dL_law_2652 : decode cL_law 2652 = .ok (.if_icmp .eq 5, 3) := by decide +kernel
theorem dL_law_2655 : decode cL_law 2655 = .ok (.iconst 0, 1) := by decide +kernel
theorem dL_law_2656 : decode cL_law 2656 = .ok (.ireturn, 1) := by decide +kernel
theorem dL_law_2657 : decode cL_law 2657 = .ok (.iload 6, 2) := by decide +kernel
theorem dL_law_2659 : decode cL_law 2659 = .ok (.ifCond .ne 15, 3) := by decide +kernel
theorem dL_law_2662 : decode cL_law 2662 = .ok (.aload_n 3, 1) := by decide +kernel
theorem dL_law_2663 : decode cL_law 2663 = .ok (.iconst 0, 1) := by decide +kernel
theorem dL_law_2664 : decode cL_law 2664 = .ok (.laload, 1) := by decide +kernel
theorem dL_law_2665 : decode cL_law 2665 = .ok (.iload 7, 2) := by decide +kernel
theorem dL_law_2667 : decode cL_law 2667 = .ok (.i2l, 1) := by decide +kernel
theorem dL_law_2668 : decode cL_law 2668 = .ok (.lcmp, 1) := by decide +kernel
theorem dL_law_2669 : decode cL_law 2669 = .ok (.ifCond .eq 5, 3) := by decide +kernel
theorem dL_law_2672 : decode cL_law 2672 = .ok (.iconst 0, 1) := by decide +kernel
theorem dL_law_2673 : decode cL_law 2673 = .ok (.ireturn, 1) := by decide +kernel
theorem dL_law_2674 : decode cL_law 2674 = .ok (.goto 1226, 3) := by decide +kernel
theorem dL_law_2677 : decode cL_law 2677 = .ok (.aload_n 1, 1) := by decide +kernel
theorem dL_law_2678 : decode cL_law 2678 = .ok (.aload_n 0, 1) := by decide +kernel
theorem dL_law_2679 : decode cL_law 2679 = .ok (.iload 5, 2) := by decide +kernel
theorem dL_law_2681 : decode cL_law 2681 = .ok (.iconst 1, 1) := by decide +kernel
theorem dL_law_2682 : decode cL_law 2682 = .ok (.iadd, 1) := by decide +kernel
theorem dL_law_2683 : decode cL_law 2683 = .ok (.iaload, 1) := by decide +kernel
theorem dL_law_2684 : decode cL_law 2684 = .ok (.invokevirtual 328, 3) := by decide +kernel
theorem dL_law_2687 : decode cL_law 2687 = .ok (.aload_n 2, 1) := by decide +kernel
theorem dL_law_2688 : decode cL_law 2688 = .ok (.aload_n 0, 1) := by decide +kernel
theorem dL_law_2689 : decode cL_law 2689 = .ok (.iload 5, 2) := by decide +kernel
theorem dL_law_2691 : decode cL_law 2691 = .ok (.iconst 1, 1) := by decide +kernel
theorem dL_law_2692 : decode cL_law 2692 = .ok (.iadd, 1) := by decide +kernel
theorem dL_law_2693 : decode cL_law 2693 = .ok (.iaload, 1) := by decide +kernel
theorem dL_law_2694 : decode cL_law 2694 = .ok (.invokevirtual 331, 3) := by decide +kernel
theorem dL_law_2697 : decode cL_law 2697 = .ok (.if_icmp .eq 1203, 3) := by decide +kernel
theorem dL_law_2700 : decode cL_law 2700 = .ok (.iconst 0, 1) := by decide +kernel
theorem dL_law_2701 : decode cL_law 2701 = .ok (.ireturn, 1) := by decide +kernel
theorem dL_law_2702 : decode cL_law 2702 = .ok (.aload_n 1, 1) := by decide +kernel
theorem dL_law_2703 : decode cL_law 2703 = .ok (.aload_n 0, 1) := by decide +kernel
theorem dL_law_2704 : decode cL_law 2704 = .ok (.iload 5, 2) := by decide +kernel
theorem dL_law_2706 : decode cL_law 2706 = .ok (.iconst 1, 1) := by decide +kernel
theorem dL_law_2707 : decode cL_law 2707 = .ok (.iadd, 1) := by decide +kernel
theorem dL_law_2708 : decode cL_law 2708 = .ok (.iaload, 1) := by decide +kernel
theorem dL_law_2709 : decode cL_law 2709 = .ok (.aload_n 0, 1) := by decide +kernel
theorem dL_law_2710 : decode cL_law 2710 = .ok (.iload 5, 2) := by decide +kernel
theorem dL_law_2712 : decode cL_law 2712 = .ok (.iconst 2, 1) := by decide +kernel
theorem dL_law_2713 : decode cL_law 2713 = .ok (.iadd, 1) := by decide +kernel
theorem dL_law_2714 : decode cL_law 2714 = .ok (.iaload, 1) := by decide +kernel
theorem dL_law_2715 : decode cL_law 2715 = .ok (.aload_n 3, 1) := by decide +kernel
theorem dL_law_2716 : decode cL_law 2716 = .ok (.invokestatic 332, 3) := by decide +kernel
theorem dL_law_2719 : decode cL_law 2719 = .ok (.istore 6, 2) := by decide +kernel
theorem dL_law_2721 : decode cL_law 2721 = .ok (.aload_n 2, 1) := by decide +kernel
theorem dL_law_2722 : decode cL_law 2722 = .ok (.aload_n 0, 1) := by decide +kernel
theorem dL_law_2723 : decode cL_law 2723 = .ok (.iload 5, 2) := by decide +kernel
theorem dL_law_2725 : decode cL_law 2725 = .ok (.iconst 1, 1) := by decide +kernel
theorem dL_law_2726 : decode cL_law 2726 = .ok (.iadd, 1) := by decide +kernel
theorem dL_law_2727 : decode cL_law 2727 = .ok (.iaload, 1) := by decide +kernel
theorem dL_law_2728 : decode cL_law 2728 = .ok (.aload_n 0, 1) := by decide +kernel
theorem dL_law_2729 : decode cL_law 2729 = .ok (.iload 5, 2) := by decide +kernel
theorem dL_law_2731 : decode cL_law 2731 = .ok (.iconst 2, 1) := by decide +kernel
theorem dL_law_2732 : decode cL_law 2732 = .ok (.iadd, 1) := by decide +kernel
theorem dL_law_2733 : decode cL_law 2733 = .ok (.iaload, 1) := by decide +kernel
theorem dL_law_2734 : decode cL_law 2734 = .ok (.invokevirtual 334, 3) := by decide +kernel
theorem dL_law_2737 : decode cL_law 2737 = .ok (.istore 7, 2) := by decide +kernel
theorem dL_law_2739 : decode cL_law 2739 = .ok (.aload_n 2, 1) := by decide +kernel
theorem dL_law_2740 : decode cL_law 2740 = .ok (.invokevirtual 204, 3) := by decide +kernel
theorem dL_law_2743 : decode cL_law 2743 = .ok (.iload 6, 2) := by decide +kernel
theorem dL_law_2745 : decode cL_law 2745 = .ok (.if_icmp .eq 5, 3) := by decide +kernel
theorem dL_law_2748 : decode cL_law 2748 = .ok (.iconst 0, 1) := by decide +kernel
theorem dL_law_2749 : decode cL_law 2749 = .ok (.ireturn, 1) := by decide +kernel
theorem dL_law_2750 : decode cL_law 2750 = .ok (.iload 6, 2) := by decide +kernel
theorem dL_law_2752 : decode cL_law 2752 = .ok (.ifCond .ne 15, 3) := by decide +kernel
theorem dL_law_2755 : decode cL_law 2755 = .ok (.aload_n 3, 1) := by decide +kernel
theorem dL_law_2756 : decode cL_law 2756 = .ok (.iconst 0, 1) := by decide +kernel
theorem dL_law_2757 : decode cL_law 2757 = .ok (.laload, 1) := by decide +kernel
theorem dL_law_2758 : decode cL_law 2758 = .ok (.iload 7, 2) := by decide +kernel
theorem dL_law_2760 : decode cL_law 2760 = .ok (.i2l, 1) := by decide +kernel
theorem dL_law_2761 : decode cL_law 2761 = .ok (.lcmp, 1) := by decide +kernel
theorem dL_law_2762 : decode cL_law 2762 = .ok (.ifCond .eq 5, 3) := by decide +kernel
theorem dL_law_2765 : decode cL_law 2765 = .ok (.iconst 0, 1) := by decide +kernel
theorem dL_law_2766 : decode cL_law 2766 = .ok (.ireturn, 1) := by decide +kernel
theorem dL_law_2767 : decode cL_law 2767 = .ok (.goto 1133, 3) := by decide +kernel
theorem dL_law_2770 : decode cL_law 2770 = .ok (.aload_n 1, 1) := by decide +kernel
theorem dL_law_2771 : decode cL_law 2771 = .ok (.aload_n 0, 1) := by decide +kernel
theorem dL_law_2772 : decode cL_law 2772 = .ok (.iload 5, 2) := by decide +kernel
theorem dL_law_2774 : decode cL_law 2774 = .ok (.iconst 1, 1) := by decide +kernel
theorem dL_law_2775 : decode cL_law 2775 = .ok (.iadd, 1) := by decide +kernel
theorem dL_law_2776 : decode cL_law 2776 = .ok (.iaload, 1) := by decide +kernel
theorem dL_law_2777 : decode cL_law 2777 = .ok (.aload_n 3, 1) := by decide +kernel
theorem dL_law_2778 : decode cL_law 2778 = .ok (.invokestatic 335, 3) := by decide +kernel
theorem dL_law_2781 : decode cL_law 2781 = .ok (.istore 6, 2) := by decide +kernel
theorem dL_law_2783 : decode cL_law 2783 = .ok (.aload_n 2, 1) := by decide +kernel
theorem dL_law_2784 : decode cL_law 2784 = .ok (.aload_n 0, 1) := by decide +kernel
theorem dL_law_2785 : decode cL_law 2785 = .ok (.iload 5, 2) := by decide +kernel
theorem dL_law_2787 : decode cL_law 2787 = .ok (.iconst 1, 1) := by decide +kernel
theorem dL_law_2788 : decode cL_law 2788 = .ok (.iadd, 1) := by decide +kernel
theorem dL_law_2789 : decode cL_law 2789 = .ok (.iaload, 1) := by decide +kernel
theorem dL_law_2790 : decode cL_law 2790 = .ok (.invokevirtual 337, 3) := by decide +kernel
theorem dL_law_2793 : decode cL_law 2793 = .ok (.istore 7, 2) := by decide +kernel
theorem dL_law_2795 : decode cL_law 2795 = .ok (.aload_n 2, 1) := by decide +kernel
theorem dL_law_2796 : decode cL_law 2796 = .ok (.invokevirtual 204, 3) := by decide +kernel
theorem dL_law_2799 : decode cL_law 2799 = .ok (.iload 6, 2) := by decide +kernel
theorem dL_law_2801 : decode cL_law 2801 = .ok (.if_icmp .eq 5, 3) := by decide +kernel
theorem dL_law_2804 : decode cL_law 2804 = .ok (.iconst 0, 1) := by decide +kernel
theorem dL_law_2805 : decode cL_law 2805 = .ok (.ireturn, 1) := by decide +kernel
theorem dL_law_2806 : decode cL_law 2806 = .ok (.iload 6, 2) := by decide +kernel
theorem dL_law_2808 : decode cL_law 2808 = .ok (.ifCond .ne 15, 3) := by decide +kernel
theorem dL_law_2811 : decode cL_law 2811 = .ok (.aload_n 3, 1) := by decide +kernel
theorem dL_law_2812 : decode cL_law 2812 = .ok (.iconst 0, 1) := by decide +kernel
theorem dL_law_2813 : decode cL_law 2813 = .ok (.laload, 1) := by decide +kernel
theorem dL_law_2814 : decode cL_law 2814 = .ok (.iload 7, 2) := by decide +kernel
theorem dL_law_2816 : decode cL_law 2816 = .ok (.i2l, 1) := by decide +kernel
theorem dL_law_2817 : decode cL_law 2817 = .ok (.lcmp, 1) := by decide +kernel
theorem dL_law_2818 : decode cL_law 2818 = .ok (.ifCond .eq 5, 3) := by decide +kernel
theorem dL_law_2821 : decode cL_law 2821 = .ok (.iconst 0, 1) := by decide +kernel
theorem dL_law_2822 : decode cL_law 2822 = .ok (.ireturn, 1) := by decide +kernel
theorem dL_law_2823 : decode cL_law 2823 = .ok (.goto 1077, 3) := by decide +kernel
theorem dL_law_2826 : decode cL_law 2826 = .ok (.aload_n 1, 1) := by decide +kernel
theorem dL_law_2827 : decode cL_law 2827 = .ok (.invokevirtual 338, 3) := by decide +kernel
theorem dL_law_2830 : decode cL_law 2830 = .ok (.aload_n 2, 1) := by decide +kernel
theorem dL_law_2831 : decode cL_law 2831 = .ok (.invokevirtual 341, 3) := by decide +kernel
theorem dL_law_2834 : decode cL_law 2834 = .ok (.if_icmp .eq 1066, 3) := by decide +kernel
theorem dL_law_2837 : decode cL_law 2837 = .ok (.iconst 0, 1) := by decide +kernel
theorem dL_law_2838 : decode cL_law 2838 = .ok (.ireturn, 1) := by decide +kernel
theorem dL_law_2839 : decode cL_law 2839 = .ok (.aload_n 1, 1) := by decide +kernel
theorem dL_law_2840 : decode cL_law 2840 = .ok (.aload_n 0, 1) := by decide +kernel
theorem dL_law_2841 : decode cL_law 2841 = .ok (.iload 5, 2) := by decide +kernel
theorem dL_law_2843 : decode cL_law 2843 = .ok (.iconst 1, 1) := by decide +kernel
theorem dL_law_2844 : decode cL_law 2844 = .ok (.iadd, 1) := by decide +kernel
theorem dL_law_2845 : decode cL_law 2845 = .ok (.iaload, 1) := by decide +kernel
theorem dL_law_2846 : decode cL_law 2846 = .ok (.aload_n 0, 1) := by decide +kernel
theorem dL_law_2847 : decode cL_law 2847 = .ok (.iload 5, 2) := by decide +kernel
theorem dL_law_2849 : decode cL_law 2849 = .ok (.iconst 2, 1) := by decide +kernel
theorem dL_law_2850 : decode cL_law 2850 = .ok (.iadd, 1) := by decide +kernel
theorem dL_law_2851 : decode cL_law 2851 = .ok (.iaload, 1) := by decide +kernel
theorem dL_law_2852 : decode cL_law 2852 = .ok (.aload_n 3, 1) := by decide +kernel
theorem dL_law_2853 : decode cL_law 2853 = .ok (.invokestatic 342, 3) := by decide +kernel
theorem dL_law_2856 : decode cL_law 2856 = .ok (.istore 6, 2) := by decide +kernel
theorem dL_law_2858 : decode cL_law 2858 = .ok (.aload_n 2, 1) := by decide +kernel
theorem dL_law_2859 : decode cL_law 2859 = .ok (.aload_n 0, 1) := by decide +kernel
theorem dL_law_2860 : decode cL_law 2860 = .ok (.iload 5, 2) := by decide +kernel
theorem dL_law_2862 : decode cL_law 2862 = .ok (.iconst 1, 1) := by decide +kernel
theorem dL_law_2863 : decode cL_law 2863 = .ok (.iadd, 1) := by decide +kernel
theorem dL_law_2864 : decode cL_law 2864 = .ok (.iaload, 1) := by decide +kernel
theorem dL_law_2865 : decode cL_law 2865 = .ok (.aload_n 0, 1) := by decide +kernel
theorem dL_law_2866 : decode cL_law 2866 = .ok (.iload 5, 2) := by decide +kernel
theorem dL_law_2868 : decode cL_law 2868 = .ok (.iconst 2, 1) := by decide +kernel
theorem dL_law_2869 : decode cL_law 2869 = .ok (.iadd, 1) := by decide +kernel
theorem dL_law_2870 : decode cL_law 2870 = .ok (.iaload, 1) := by decide +kernel
theorem dL_law_2871 : decode cL_law 2871 = .ok (.invokevirtual 344, 3) := by decide +kernel
theorem dL_law_2874 : decode cL_law 2874 = .ok (.istore 7, 2) := by decide +kernel
theorem dL_law_2876 : decode cL_law 2876 = .ok (.aload_n 2, 1) := by decide +kernel
theorem dL_law_2877 : decode cL_law 2877 = .ok (.invokevirtual 204, 3) := by decide +kernel
theorem dL_law_2880 : decode cL_law 2880 = .ok (.iload 6, 2) := by decide +kernel
theorem dL_law_2882 : decode cL_law 2882 = .ok (.if_icmp .eq 5, 3) := by decide +kernel
theorem dL_law_2885 : decode cL_law 2885 = .ok (.iconst 0, 1) := by decide +kernel
theorem dL_law_2886 : decode cL_law 2886 = .ok (.ireturn, 1) := by decide +kernel
theorem dL_law_2887 : decode cL_law 2887 = .ok (.iload 6, 2) := by decide +kernel
theorem dL_law_2889 : decode cL_law 2889 = .ok (.ifCond .ne 15, 3) := by decide +kernel
theorem dL_law_2892 : decode cL_law 2892 = .ok (.aload_n 3, 1) := by decide +kernel
theorem dL_law_2893 : decode cL_law 2893 = .ok (.iconst 0, 1) := by decide +kernel
theorem dL_law_2894 : decode cL_law 2894 = .ok (.laload, 1) := by decide +kernel
theorem dL_law_2895 : decode cL_law 2895 = .ok (.iload 7, 2) := by decide +kernel
theorem dL_law_2897 : decode cL_law 2897 = .ok (.i2l, 1) := by decide +kernel
theorem dL_law_2898 : decode cL_law 2898 = .ok (.lcmp, 1) := by decide +kernel
theorem dL_law_2899 : decode cL_law 2899 = .ok (.ifCond .eq 5, 3) := by decide +kernel
theorem dL_law_2902 : decode cL_law 2902 = .ok (.iconst 0, 1) := by decide +kernel
theorem dL_law_2903 : decode cL_law 2903 = .ok (.ireturn, 1) := by decide +kernel
theorem dL_law_2904 : decode cL_law 2904 = .ok (.goto 996, 3) := by decide +kernel
theorem dL_law_2907 : decode cL_law 2907 = .ok (.aload_n 1, 1) := by decide +kernel
theorem dL_law_2908 : decode cL_law 2908 = .ok (.aload_n 0, 1) := by decide +kernel
theorem dL_law_2909 : decode cL_law 2909 = .ok (.iload 5, 2) := by decide +kernel
theorem dL_law_2911 : decode cL_law 2911 = .ok (.iconst 1, 1) := by decide +kernel
theorem dL_law_2912 : decode cL_law 2912 = .ok (.iadd, 1) := by decide +kernel
theorem dL_law_2913 : decode cL_law 2913 = .ok (.iaload, 1) := by decide +kernel
theorem dL_law_2914 : decode cL_law 2914 = .ok (.aload_n 3, 1) := by decide +kernel
theorem dL_law_2915 : decode cL_law 2915 = .ok (.invokestatic 345, 3) := by decide +kernel
theorem dL_law_2918 : decode cL_law 2918 = .ok (.istore 6, 2) := by decide +kernel
theorem dL_law_2920 : decode cL_law 2920 = .ok (.aload_n 2, 1) := by decide +kernel
theorem dL_law_2921 : decode cL_law 2921 = .ok (.aload_n 0, 1) := by decide +kernel
theorem dL_law_2922 : decode cL_law 2922 = .ok (.iload 5, 2) := by decide +kernel
theorem dL_law_2924 : decode cL_law 2924 = .ok (.iconst 1, 1) := by decide +kernel
theorem dL_law_2925 : decode cL_law 2925 = .ok (.iadd, 1) := by decide +kernel
theorem dL_law_2926 : decode cL_law 2926 = .ok (.iaload, 1) := by decide +kernel
theorem dL_law_2927 : decode cL_law 2927 = .ok (.invokevirtual 347, 3) := by decide +kernel
theorem dL_law_2930 : decode cL_law 2930 = .ok (.istore 7, 2) := by decide +kernel
theorem dL_law_2932 : decode cL_law 2932 = .ok (.aload_n 2, 1) := by decide +kernel
theorem dL_law_2933 : decode cL_law 2933 = .ok (.invokevirtual 204, 3) := by decide +kernel
theorem dL_law_2936 : decode cL_law 2936 = .ok (.iload 6, 2) := by decide +kernel
theorem dL_law_2938 : decode cL_law 2938 = .ok (.if_icmp .eq 5, 3) := by decide +kernel
theorem dL_law_2941 : decode cL_law 2941 = .ok (.iconst 0, 1) := by decide +kernel
theorem dL_law_2942 : decode cL_law 2942 = .ok (.ireturn, 1) := by decide +kernel
theorem dL_law_2943 : decode cL_law 2943 = .ok (.iload 6, 2) := by decide +kernel
theorem dL_law_2945 : decode cL_law 2945 = .ok (.ifCond .ne 15, 3) := by decide +kernel
theorem dL_law_2948 : decode cL_law 2948 = .ok (.aload_n 3, 1) := by decide +kernel
theorem dL_law_2949 : decode cL_law 2949 = .ok (.iconst 0, 1) := by decide +kernel
theorem dL_law_2950 : decode cL_law 2950 = .ok (.laload, 1) := by decide +kernel
theorem dL_law_2951 : decode cL_law 2951 = .ok (.iload 7, 2) := by decide +kernel
theorem dL_law_2953 : decode cL_law 2953 = .ok (.i2l, 1) := by decide +kernel
theorem dL_law_2954 : decode cL_law 2954 = .ok (.lcmp, 1) := by decide +kernel
theorem dL_law_2955 : decode cL_law 2955 = .ok (.ifCond .eq 5, 3) := by decide +kernel
theorem dL_law_2958 : decode cL_law 2958 = .ok (.iconst 0, 1) := by decide +kernel
theorem dL_law_2959 : decode cL_law 2959 = .ok (.ireturn, 1) := by decide +kernel
theorem dL_law_2960 : decode cL_law 2960 = .ok (.goto 940, 3) := by decide +kernel
theorem dL_law_2963 : decode cL_law 2963 = .ok (.aload_n 1, 1) := by decide +kernel
theorem dL_law_2964 : decode cL_law 2964 = .ok (.aload_n 0, 1) := by decide +kernel
theorem dL_law_2965 : decode cL_law 2965 = .ok (.iload 5, 2) := by decide +kernel
theorem dL_law_2967 : decode cL_law 2967 = .ok (.iconst 1, 1) := by decide +kernel
theorem dL_law_2968 : decode cL_law 2968 = .ok (.iadd, 1) := by decide +kernel
theorem dL_law_2969 : decode cL_law 2969 = .ok (.iaload, 1) := by decide +kernel
theorem dL_law_2970 : decode cL_law 2970 = .ok (.aload_n 3, 1) := by decide +kernel
theorem dL_law_2971 : decode cL_law 2971 = .ok (.invokestatic 348, 3) := by decide +kernel
theorem dL_law_2974 : decode cL_law 2974 = .ok (.istore 6, 2) := by decide +kernel
theorem dL_law_2976 : decode cL_law 2976 = .ok (.aload_n 2, 1) := by decide +kernel
theorem dL_law_2977 : decode cL_law 2977 = .ok (.aload_n 0, 1) := by decide +kernel
theorem dL_law_2978 : decode cL_law 2978 = .ok (.iload 5, 2) := by decide +kernel
theorem dL_law_2980 : decode cL_law 2980 = .ok (.iconst 1, 1) := by decide +kernel
theorem dL_law_2981 : decode cL_law 2981 = .ok (.iadd, 1) := by decide +kernel
theorem dL_law_2982 : decode cL_law 2982 = .ok (.iaload, 1) := by decide +kernel
theorem dL_law_2983 : decode cL_law 2983 = .ok (.invokevirtual 350, 3) := by decide +kernel
theorem dL_law_2986 : decode cL_law 2986 = .ok (.istore 7, 2) := by decide +kernel
theorem dL_law_2988 : decode cL_law 2988 = .ok (.aload_n 2, 1) := by decide +kernel
theorem dL_law_2989 : decode cL_law 2989 = .ok (.invokevirtual 204, 3) := by decide +kernel
theorem dL_law_2992 : decode cL_law 2992 = .ok (.iload 6, 2) := by decide +kernel
theorem dL_law_2994 : decode cL_law 2994 = .ok (.if_icmp .eq 5, 3) := by decide +kernel
theorem dL_law_2997 : decode cL_law 2997 = .ok (.iconst 0, 1) := by decide +kernel
theorem dL_law_2998 : decode cL_law 2998 = .ok (.ireturn, 1) := by decide +kernel
theorem dL_law_2999 : decode cL_law 2999 = .ok (.iload 6, 2) := by decide +kernel
theorem dL_law_3001 : decode cL_law 3001 = .ok (.ifCond .ne 22, 3) := by decide +kernel
theorem dL_law_3004 : decode cL_law 3004 = .ok (.aload_n 3, 1) := by decide +kernel
theorem dL_law_3005 : decode cL_law 3005 = .ok (.iconst 0, 1) := by decide +kernel
theorem dL_law_3006 : decode cL_law 3006 = .ok (.laload, 1) := by decide +kernel
theorem dL_law_3007 : decode cL_law 3007 = .ok (.iload 7, 2) := by decide +kernel
theorem dL_law_3009 : decode cL_law 3009 = .ok (.ifCond .eq 7, 3) := by decide +kernel
theorem dL_law_3012 : decode cL_law 3012 = .ok (.lconst 1, 1) := by decide +kernel
theorem dL_law_3013 : decode cL_law 3013 = .ok (.goto 4, 3) := by decide +kernel
theorem dL_law_3016 : decode cL_law 3016 = .ok (.lconst 0, 1) := by decide +kernel
theorem dL_law_3017 : decode cL_law 3017 = .ok (.lcmp, 1) := by decide +kernel
theorem dL_law_3018 : decode cL_law 3018 = .ok (.ifCond .eq 5, 3) := by decide +kernel
theorem dL_law_3021 : decode cL_law 3021 = .ok (.iconst 0, 1) := by decide +kernel
theorem dL_law_3022 : decode cL_law 3022 = .ok (.ireturn, 1) := by decide +kernel
theorem dL_law_3023 : decode cL_law 3023 = .ok (.goto 877, 3) := by decide +kernel
theorem dL_law_3026 : decode cL_law 3026 = .ok (.aload_n 1, 1) := by decide +kernel
theorem dL_law_3027 : decode cL_law 3027 = .ok (.aload_n 0, 1) := by decide +kernel
theorem dL_law_3028 : decode cL_law 3028 = .ok (.iload 5, 2) := by decide +kernel
theorem dL_law_3030 : decode cL_law 3030 = .ok (.iconst 1, 1) := by decide +kernel
theorem dL_law_3031 : decode cL_law 3031 = .ok (.iadd, 1) := by decide +kernel
theorem dL_law_3032 : decode cL_law 3032 = .ok (.iaload, 1) := by decide +kernel
theorem dL_law_3033 : decode cL_law 3033 = .ok (.aload_n 0, 1) := by decide +kernel
theorem dL_law_3034 : decode cL_law 3034 = .ok (.iload 5, 2) := by decide +kernel
theorem dL_law_3036 : decode cL_law 3036 = .ok (.iconst 2, 1) := by decide +kernel
theorem dL_law_3037 : decode cL_law 3037 = .ok (.iadd, 1) := by decide +kernel
theorem dL_law_3038 : decode cL_law 3038 = .ok (.iaload, 1) := by decide +kernel
theorem dL_law_3039 : decode cL_law 3039 = .ok (.aload_n 3, 1) := by decide +kernel
theorem dL_law_3040 : decode cL_law 3040 = .ok (.invokestatic 351, 3) := by decide +kernel
theorem dL_law_3043 : decode cL_law 3043 = .ok (.istore 6, 2) := by decide +kernel
theorem dL_law_3045 : decode cL_law 3045 = .ok (.aload_n 2, 1) := by decide +kernel
theorem dL_law_3046 : decode cL_law 3046 = .ok (.aload_n 0, 1) := by decide +kernel
theorem dL_law_3047 : decode cL_law 3047 = .ok (.iload 5, 2) := by decide +kernel
theorem dL_law_3049 : decode cL_law 3049 = .ok (.iconst 1, 1) := by decide +kernel
theorem dL_law_3050 : decode cL_law 3050 = .ok (.iadd, 1) := by decide +kernel
theorem dL_law_3051 : decode cL_law 3051 = .ok (.iaload, 1) := by decide +kernel
theorem dL_law_3052 : decode cL_law 3052 = .ok (.aload_n 0, 1) := by decide +kernel
theorem dL_law_3053 : decode cL_law 3053 = .ok (.iload 5, 2) := by decide +kernel
theorem dL_law_3055 : decode cL_law 3055 = .ok (.iconst 2, 1) := by decide +kernel
theorem dL_law_3056 : decode cL_law 3056 = .ok (.iadd, 1) := by decide +kernel
theorem dL_law_3057 : decode cL_law 3057 = .ok (.iaload, 1) := by decide +kernel
theorem dL_law_3058 : decode cL_law 3058 = .ok (.invokevirtual 353, 3) := by decide +kernel
theorem dL_law_3061 : decode cL_law 3061 = .ok (.istore 7, 2) := by decide +kernel
theorem dL_law_3063 : decode cL_law 3063 = .ok (.aload_n 2, 1) := by decide +kernel
theorem dL_law_3064 : decode cL_law 3064 = .ok (.invokevirtual 204, 3) := by decide +kernel
theorem dL_law_3067 : decode cL_law 3067 = .ok (.iload 6, 2) := by decide +kernel
theorem dL_law_3069 : decode cL_law 3069 = .ok (.if_icmp .eq 5, 3) := by decide +kernel
theorem dL_law_3072 : decode cL_law 3072 = .ok (.iconst 0, 1) := by decide +kernel
theorem dL_law_3073 : decode cL_law 3073 = .ok (.ireturn, 1) := by decide +kernel
theorem dL_law_3074 : decode cL_law 3074 = .ok (.iload 6, 2) := by decide +kernel
theorem dL_law_3076 : decode cL_law 3076 = .ok (.ifCond .ne 15, 3) := by decide +kernel
theorem dL_law_3079 : decode cL_law 3079 = .ok (.aload_n 3, 1) := by decide +kernel
theorem dL_law_3080 : decode cL_law 3080 = .ok (.iconst 0, 1) := by decide +kernel
theorem dL_law_3081 : decode cL_law 3081 = .ok (.laload, 1) := by decide +kernel
theorem dL_law_3082 : decode cL_law 3082 = .ok (.iload 7, 2) := by decide +kernel
theorem dL_law_3084 : decode cL_law 3084 = .ok (.i2l, 1) := by decide +kernel
theorem dL_law_3085 : decode cL_law 3085 = .ok (.lcmp, 1) := by decide +kernel
theorem dL_law_3086 : decode cL_law 3086 = .ok (.ifCond .eq 5, 3) := by decide +kernel
theorem dL_law_3089 : decode cL_law 3089 = .ok (.iconst 0, 1) := by decide +kernel
theorem dL_law_3090 : decode cL_law 3090 = .ok (.ireturn, 1) := by decide +kernel
theorem dL_law_3091 : decode cL_law 3091 = .ok (.goto 809, 3) := by decide +kernel
theorem dL_law_3094 : decode cL_law 3094 = .ok (.aload_n 1, 1) := by decide +kernel
theorem dL_law_3095 : decode cL_law 3095 = .ok (.aload_n 0, 1) := by decide +kernel
theorem dL_law_3096 : decode cL_law 3096 = .ok (.iload 5, 2) := by decide +kernel
theorem dL_law_3098 : decode cL_law 3098 = .ok (.iconst 1, 1) := by decide +kernel
theorem dL_law_3099 : decode cL_law 3099 = .ok (.iadd, 1) := by decide +kernel
theorem dL_law_3100 : decode cL_law 3100 = .ok (.iaload, 1) := by decide +kernel
theorem dL_law_3101 : decode cL_law 3101 = .ok (.aload_n 3, 1) := by decide +kernel
theorem dL_law_3102 : decode cL_law 3102 = .ok (.invokestatic 354, 3) := by decide +kernel
theorem dL_law_3105 : decode cL_law 3105 = .ok (.istore 6, 2) := by decide +kernel
theorem dL_law_3107 : decode cL_law 3107 = .ok (.aload_n 2, 1) := by decide +kernel
theorem dL_law_3108 : decode cL_law 3108 = .ok (.aload_n 0, 1) := by decide +kernel
theorem dL_law_3109 : decode cL_law 3109 = .ok (.iload 5, 2) := by decide +kernel
theorem dL_law_3111 : decode cL_law 3111 = .ok (.iconst 1, 1) := by decide +kernel
theorem dL_law_3112 : decode cL_law 3112 = .ok (.iadd, 1) := by decide +kernel
theorem dL_law_3113 : decode cL_law 3113 = .ok (.iaload, 1) := by decide +kernel
theorem dL_law_3114 : decode cL_law 3114 = .ok (.invokevirtual 356, 3) := by decide +kernel
theorem dL_law_3117 : decode cL_law 3117 = .ok (.istore 7, 2) := by decide +kernel
theorem dL_law_3119 : decode cL_law 3119 = .ok (.aload_n 2, 1) := by decide +kernel
theorem dL_law_3120 : decode cL_law 3120 = .ok (.invokevirtual 204, 3) := by decide +kernel
theorem dL_law_3123 : decode cL_law 3123 = .ok (.iload 6, 2) := by decide +kernel
theorem dL_law_3125 : decode cL_law 3125 = .ok (.if_icmp .eq 5, 3) := by decide +kernel
theorem dL_law_3128 : decode cL_law 3128 = .ok (.iconst 0, 1) := by decide +kernel
theorem dL_law_3129 : decode cL_law 3129 = .ok (.ireturn, 1) := by decide +kernel
theorem dL_law_3130 : decode cL_law 3130 = .ok (.iload 6, 2) := by decide +kernel
theorem dL_law_3132 : decode cL_law 3132 = .ok (.ifCond .ne 15, 3) := by decide +kernel
theorem dL_law_3135 : decode cL_law 3135 = .ok (.aload_n 3, 1) := by decide +kernel
theorem dL_law_3136 : decode cL_law 3136 = .ok (.iconst 0, 1) := by decide +kernel
theorem dL_law_3137 : decode cL_law 3137 = .ok (.laload, 1) := by decide +kernel
theorem dL_law_3138 : decode cL_law 3138 = .ok (.iload 7, 2) := by decide +kernel
theorem dL_law_3140 : decode cL_law 3140 = .ok (.i2l, 1) := by decide +kernel
theorem dL_law_3141 : decode cL_law 3141 = .ok (.lcmp, 1) := by decide +kernel
theorem dL_law_3142 : decode cL_law 3142 = .ok (.ifCond .eq 5, 3) := by decide +kernel
theorem dL_law_3145 : decode cL_law 3145 = .ok (.iconst 0, 1) := by decide +kernel
theorem dL_law_3146 : decode cL_law 3146 = .ok (.ireturn, 1) := by decide +kernel
theorem dL_law_3147 : decode cL_law 3147 = .ok (.goto 753, 3) := by decide +kernel
theorem dL_law_3150 : decode cL_law 3150 = .ok (.aload_n 1, 1) := by decide +kernel
theorem dL_law_3151 : decode cL_law 3151 = .ok (.aload_n 0, 1) := by decide +kernel
theorem dL_law_3152 : decode cL_law 3152 = .ok (.iload 5, 2) := by decide +kernel
theorem dL_law_3154 : decode cL_law 3154 = .ok (.iconst 1, 1) := by decide +kernel
theorem dL_law_3155 : decode cL_law 3155 = .ok (.iadd, 1) := by decide +kernel
theorem dL_law_3156 : decode cL_law 3156 = .ok (.iaload, 1) := by decide +kernel
theorem dL_law_3157 : decode cL_law 3157 = .ok (.aload_n 0, 1) := by decide +kernel
theorem dL_law_3158 : decode cL_law 3158 = .ok (.iload 5, 2) := by decide +kernel
theorem dL_law_3160 : decode cL_law 3160 = .ok (.iconst 2, 1) := by decide +kernel
theorem dL_law_3161 : decode cL_law 3161 = .ok (.iadd, 1) := by decide +kernel
theorem dL_law_3162 : decode cL_law 3162 = .ok (.iaload, 1) := by decide +kernel
theorem dL_law_3163 : decode cL_law 3163 = .ok (.aload_n 3, 1) := by decide +kernel
theorem dL_law_3164 : decode cL_law 3164 = .ok (.invokestatic 357, 3) := by decide +kernel
theorem dL_law_3167 : decode cL_law 3167 = .ok (.istore 6, 2) := by decide +kernel
theorem dL_law_3169 : decode cL_law 3169 = .ok (.aload_n 2, 1) := by decide +kernel
theorem dL_law_3170 : decode cL_law 3170 = .ok (.aload_n 0, 1) := by decide +kernel
theorem dL_law_3171 : decode cL_law 3171 = .ok (.iload 5, 2) := by decide +kernel
theorem dL_law_3173 : decode cL_law 3173 = .ok (.iconst 1, 1) := by decide +kernel
theorem dL_law_3174 : decode cL_law 3174 = .ok (.iadd, 1) := by decide +kernel
theorem dL_law_3175 : decode cL_law 3175 = .ok (.iaload, 1) := by decide +kernel
theorem dL_law_3176 : decode cL_law 3176 = .ok (.aload_n 0, 1) := by decide +kernel
theorem dL_law_3177 : decode cL_law 3177 = .ok (.iload 5, 2) := by decide +kernel
theorem dL_law_3179 : decode cL_law 3179 = .ok (.iconst 2, 1) := by decide +kernel
theorem dL_law_3180 : decode cL_law 3180 = .ok (.iadd, 1) := by decide +kernel
theorem dL_law_3181 : decode cL_law 3181 = .ok (.iaload, 1) := by decide +kernel
theorem dL_law_3182 : decode cL_law 3182 = .ok (.invokevirtual 359, 3) := by decide +kernel
theorem dL_law_3185 : decode cL_law 3185 = .ok (.istore 7, 2) := by decide +kernel
theorem dL_law_3187 : decode cL_law 3187 = .ok (.aload_n 2, 1) := by decide +kernel
theorem dL_law_3188 : decode cL_law 3188 = .ok (.invokevirtual 204, 3) := by decide +kernel
theorem dL_law_3191 : decode cL_law 3191 = .ok (.iload 6, 2) := by decide +kernel
theorem dL_law_3193 : decode cL_law 3193 = .ok (.if_icmp .eq 5, 3) := by decide +kernel
theorem dL_law_3196 : decode cL_law 3196 = .ok (.iconst 0, 1) := by decide +kernel
theorem dL_law_3197 : decode cL_law 3197 = .ok (.ireturn, 1) := by decide +kernel
theorem dL_law_3198 : decode cL_law 3198 = .ok (.iload 6, 2) := by decide +kernel
theorem dL_law_3200 : decode cL_law 3200 = .ok (.ifCond .ne 15, 3) := by decide +kernel
theorem dL_law_3203 : decode cL_law 3203 = .ok (.aload_n 3, 1) := by decide +kernel
theorem dL_law_3204 : decode cL_law 3204 = .ok (.iconst 0, 1) := by decide +kernel
theorem dL_law_3205 : decode cL_law 3205 = .ok (.laload, 1) := by decide +kernel
theorem dL_law_3206 : decode cL_law 3206 = .ok (.iload 7, 2) := by decide +kernel
theorem dL_law_3208 : decode cL_law 3208 = .ok (.i2l, 1) := by decide +kernel
theorem dL_law_3209 : decode cL_law 3209 = .ok (.lcmp, 1) := by decide +kernel
theorem dL_law_3210 : decode cL_law 3210 = .ok (.ifCond .eq 5, 3) := by decide +kernel
theorem dL_law_3213 : decode cL_law 3213 = .ok (.iconst 0, 1) := by decide +kernel
theorem dL_law_3214 : decode cL_law 3214 = .ok (.ireturn, 1) := by decide +kernel
theorem dL_law_3215 : decode cL_law 3215 = .ok (.goto 685, 3) := by decide +kernel
theorem dL_law_3218 : decode cL_law 3218 = .ok (.aload_n 1, 1) := by decide +kernel
theorem dL_law_3219 : decode cL_law 3219 = .ok (.aload_n 0, 1) := by decide +kernel
theorem dL_law_3220 : decode cL_law 3220 = .ok (.iload 5, 2) := by decide +kernel
theorem dL_law_3222 : decode cL_law 3222 = .ok (.iconst 1, 1) := by decide +kernel
theorem dL_law_3223 : decode cL_law 3223 = .ok (.iadd, 1) := by decide +kernel
theorem dL_law_3224 : decode cL_law 3224 = .ok (.iaload, 1) := by decide +kernel
theorem dL_law_3225 : decode cL_law 3225 = .ok (.aload_n 0, 1) := by decide +kernel
theorem dL_law_3226 : decode cL_law 3226 = .ok (.iload 5, 2) := by decide +kernel
theorem dL_law_3228 : decode cL_law 3228 = .ok (.iconst 2, 1) := by decide +kernel
theorem dL_law_3229 : decode cL_law 3229 = .ok (.iadd, 1) := by decide +kernel
theorem dL_law_3230 : decode cL_law 3230 = .ok (.iaload, 1) := by decide +kernel
theorem dL_law_3231 : decode cL_law 3231 = .ok (.aload_n 3, 1) := by decide +kernel
theorem dL_law_3232 : decode cL_law 3232 = .ok (.invokestatic 360, 3) := by decide +kernel
theorem dL_law_3235 : decode cL_law 3235 = .ok (.istore 6, 2) := by decide +kernel
theorem dL_law_3237 : decode cL_law 3237 = .ok (.aload_n 2, 1) := by decide +kernel
theorem dL_law_3238 : decode cL_law 3238 = .ok (.aload_n 0, 1) := by decide +kernel
theorem dL_law_3239 : decode cL_law 3239 = .ok (.iload 5, 2) := by decide +kernel
theorem dL_law_3241 : decode cL_law 3241 = .ok (.iconst 1, 1) := by decide +kernel
theorem dL_law_3242 : decode cL_law 3242 = .ok (.iadd, 1) := by decide +kernel
theorem dL_law_3243 : decode cL_law 3243 = .ok (.iaload, 1) := by decide +kernel
theorem dL_law_3244 : decode cL_law 3244 = .ok (.aload_n 0, 1) := by decide +kernel
theorem dL_law_3245 : decode cL_law 3245 = .ok (.iload 5, 2) := by decide +kernel
theorem dL_law_3247 : decode cL_law 3247 = .ok (.iconst 2, 1) := by decide +kernel
theorem dL_law_3248 : decode cL_law 3248 = .ok (.iadd, 1) := by decide +kernel
theorem dL_law_3249 : decode cL_law 3249 = .ok (.iaload, 1) := by decide +kernel
theorem dL_law_3250 : decode cL_law 3250 = .ok (.invokevirtual 362, 3) := by decide +kernel
theorem dL_law_3253 : decode cL_law 3253 = .ok (.istore 7, 2) := by decide +kernel
theorem dL_law_3255 : decode cL_law 3255 = .ok (.aload_n 2, 1) := by decide +kernel
theorem dL_law_3256 : decode cL_law 3256 = .ok (.invokevirtual 204, 3) := by decide +kernel
theorem dL_law_3259 : decode cL_law 3259 = .ok (.iload 6, 2) := by decide +kernel
theorem dL_law_3261 : decode cL_law 3261 = .ok (.if_icmp .eq 5, 3) := by decide +kernel
theorem dL_law_3264 : decode cL_law 3264 = .ok (.iconst 0, 1) := by decide +kernel
theorem dL_law_3265 : decode cL_law 3265 = .ok (.ireturn, 1) := by decide +kernel
theorem dL_law_3266 : decode cL_law 3266 = .ok (.iload 6, 2) := by decide +kernel
theorem dL_law_3268 : decode cL_law 3268 = .ok (.ifCond .ne 15, 3) := by decide +kernel
theorem dL_law_3271 : decode cL_law 3271 = .ok (.aload_n 3, 1) := by decide +kernel
theorem dL_law_3272 : decode cL_law 3272 = .ok (.iconst 0, 1) := by decide +kernel
theorem dL_law_3273 : decode cL_law 3273 = .ok (.laload, 1) := by decide +kernel
theorem dL_law_3274 : decode cL_law 3274 = .ok (.iload 7, 2) := by decide +kernel
theorem dL_law_3276 : decode cL_law 3276 = .ok (.i2l, 1) := by decide +kernel
theorem dL_law_3277 : decode cL_law 3277 = .ok (.lcmp, 1) := by decide +kernel
theorem dL_law_3278 : decode cL_law 3278 = .ok (.ifCond .eq 5, 3) := by decide +kernel
theorem dL_law_3281 : decode cL_law 3281 = .ok (.iconst 0, 1) := by decide +kernel
theorem dL_law_3282 : decode cL_law 3282 = .ok (.ireturn, 1) := by decide +kernel
theorem dL_law_3283 : decode cL_law 3283 = .ok (.goto 617, 3) := by decide +kernel
theorem dL_law_3286 : decode cL_law 3286 = .ok (.aload_n 1, 1) := by decide +kernel
theorem dL_law_3287 : decode cL_law 3287 = .ok (.aload_n 0, 1) := by decide +kernel
theorem dL_law_3288 : decode cL_law 3288 = .ok (.iload 5, 2) := by decide +kernel
theorem dL_law_3290 : decode cL_law 3290 = .ok (.iconst 1, 1) := by decide +kernel
theorem dL_law_3291 : decode cL_law 3291 = .ok (.iadd, 1) := by decide +kernel
theorem dL_law_3292 : decode cL_law 3292 = .ok (.iaload, 1) := by decide +kernel
theorem dL_law_3293 : decode cL_law 3293 = .ok (.aload_n 3, 1) := by decide +kernel
theorem dL_law_3294 : decode cL_law 3294 = .ok (.invokestatic 363, 3) := by decide +kernel
theorem dL_law_3297 : decode cL_law 3297 = .ok (.istore 6, 2) := by decide +kernel
theorem dL_law_3299 : decode cL_law 3299 = .ok (.aload_n 2, 1) := by decide +kernel
theorem dL_law_3300 : decode cL_law 3300 = .ok (.aload_n 0, 1) := by decide +kernel
theorem dL_law_3301 : decode cL_law 3301 = .ok (.iload 5, 2) := by decide +kernel
theorem dL_law_3303 : decode cL_law 3303 = .ok (.iconst 1, 1) := by decide +kernel
theorem dL_law_3304 : decode cL_law 3304 = .ok (.iadd, 1) := by decide +kernel
theorem dL_law_3305 : decode cL_law 3305 = .ok (.iaload, 1) := by decide +kernel
theorem dL_law_3306 : decode cL_law 3306 = .ok (.invokevirtual 365, 3) := by decide +kernel
theorem dL_law_3309 : decode cL_law 3309 = .ok (.istore 7, 2) := by decide +kernel
theorem dL_law_3311 : decode cL_law 3311 = .ok (.aload_n 2, 1) := by decide +kernel
theorem dL_law_3312 : decode cL_law 3312 = .ok (.invokevirtual 204, 3) := by decide +kernel
theorem dL_law_3315 : decode cL_law 3315 = .ok (.iload 6, 2) := by decide +kernel
theorem dL_law_3317 : decode cL_law 3317 = .ok (.if_icmp .eq 5, 3) := by decide +kernel
theorem dL_law_3320 : decode cL_law 3320 = .ok (.iconst 0, 1) := by decide +kernel
theorem dL_law_3321 : decode cL_law 3321 = .ok (.ireturn, 1) := by decide +kernel
theorem dL_law_3322 : decode cL_law 3322 = .ok (.iload 6, 2) := by decide +kernel
theorem dL_law_3324 : decode cL_law 3324 = .ok (.ifCond .ne 15, 3) := by decide +kernel
theorem dL_law_3327 : decode cL_law 3327 = .ok (.aload_n 3, 1) := by decide +kernel
theorem dL_law_3328 : decode cL_law 3328 = .ok (.iconst 0, 1) := by decide +kernel
theorem dL_law_3329 : decode cL_law 3329 = .ok (.laload, 1) := by decide +kernel
theorem dL_law_3330 : decode cL_law 3330 = .ok (.iload 7, 2) := by decide +kernel
theorem dL_law_3332 : decode cL_law 3332 = .ok (.i2l, 1) := by decide +kernel
theorem dL_law_3333 : decode cL_law 3333 = .ok (.lcmp, 1) := by decide +kernel
theorem dL_law_3334 : decode cL_law 3334 = .ok (.ifCond .eq 5, 3) := by decide +kernel
theorem dL_law_3337 : decode cL_law 3337 = .ok (.iconst 0, 1) := by decide +kernel
theorem dL_law_3338 : decode cL_law 3338 = .ok (.ireturn, 1) := by decide +kernel
theorem dL_law_3339 : decode cL_law 3339 = .ok (.goto 561, 3) := by decide +kernel
theorem dL_law_3342 : decode cL_law 3342 = .ok (.aload_n 1, 1) := by decide +kernel
theorem dL_law_3343 : decode cL_law 3343 = .ok (.aload_n 0, 1) := by decide +kernel
theorem dL_law_3344 : decode cL_law 3344 = .ok (.iload 5, 2) := by decide +kernel
theorem dL_law_3346 : decode cL_law 3346 = .ok (.iconst 1, 1) := by decide +kernel
theorem dL_law_3347 : decode cL_law 3347 = .ok (.iadd, 1) := by decide +kernel
theorem dL_law_3348 : decode cL_law 3348 = .ok (.iaload, 1) := by decide +kernel
theorem dL_law_3349 : decode cL_law 3349 = .ok (.aload_n 0, 1) := by decide +kernel
theorem dL_law_3350 : decode cL_law 3350 = .ok (.iload 5, 2) := by decide +kernel
theorem dL_law_3352 : decode cL_law 3352 = .ok (.iconst 2, 1) := by decide +kernel
theorem dL_law_3353 : decode cL_law 3353 = .ok (.iadd, 1) := by decide +kernel
theorem dL_law_3354 : decode cL_law 3354 = .ok (.iaload, 1) := by decide +kernel
theorem dL_law_3355 : decode cL_law 3355 = .ok (.aload_n 0, 1) := by decide +kernel
theorem dL_law_3356 : decode cL_law 3356 = .ok (.iload 5, 2) := by decide +kernel
theorem dL_law_3358 : decode cL_law 3358 = .ok (.iconst 3, 1) := by decide +kernel
theorem dL_law_3359 : decode cL_law 3359 = .ok (.iadd, 1) := by decide +kernel
theorem dL_law_3360 : decode cL_law 3360 = .ok (.iaload, 1) := by decide +kernel
theorem dL_law_3361 : decode cL_law 3361 = .ok (.aload_n 3, 1) := by decide +kernel
theorem dL_law_3362 : decode cL_law 3362 = .ok (.invokestatic 366, 3) := by decide +kernel
theorem dL_law_3365 : decode cL_law 3365 = .ok (.istore 6, 2) := by decide +kernel
theorem dL_law_3367 : decode cL_law 3367 = .ok (.aload_n 2, 1) := by decide +kernel
theorem dL_law_3368 : decode cL_law 3368 = .ok (.aload_n 0, 1) := by decide +kernel
theorem dL_law_3369 : decode cL_law 3369 = .ok (.iload 5, 2) := by decide +kernel
theorem dL_law_3371 : decode cL_law 3371 = .ok (.iconst 1, 1) := by decide +kernel
theorem dL_law_3372 : decode cL_law 3372 = .ok (.iadd, 1) := by decide +kernel
theorem dL_law_3373 : decode cL_law 3373 = .ok (.iaload, 1) := by decide +kernel
theorem dL_law_3374 : decode cL_law 3374 = .ok (.aload_n 0, 1) := by decide +kernel
theorem dL_law_3375 : decode cL_law 3375 = .ok (.iload 5, 2) := by decide +kernel
theorem dL_law_3377 : decode cL_law 3377 = .ok (.iconst 2, 1) := by decide +kernel
theorem dL_law_3378 : decode cL_law 3378 = .ok (.iadd, 1) := by decide +kernel
theorem dL_law_3379 : decode cL_law 3379 = .ok (.iaload, 1) := by decide +kernel
theorem dL_law_3380 : decode cL_law 3380 = .ok (.aload_n 0, 1) := by decide +kernel
theorem dL_law_3381 : decode cL_law 3381 = .ok (.iload 5, 2) := by decide +kernel
theorem dL_law_3383 : decode cL_law 3383 = .ok (.iconst 3, 1) := by decide +kernel
theorem dL_law_3384 : decode cL_law 3384 = .ok (.iadd, 1) := by decide +kernel
theorem dL_law_3385 : decode cL_law 3385 = .ok (.iaload, 1) := by decide +kernel
theorem dL_law_3386 : decode cL_law 3386 = .ok (.invokevirtual 368, 3) := by decide +kernel
theorem dL_law_3389 : decode cL_law 3389 = .ok (.istore 7, 2) := by decide +kernel
theorem dL_law_3391 : decode cL_law 3391 = .ok (.aload_n 2, 1) := by decide +kernel
theorem dL_law_3392 : decode cL_law 3392 = .ok (.invokevirtual 204, 3) := by decide +kernel
theorem dL_law_3395 : decode cL_law 3395 = .ok (.iload 6, 2) := by decide +kernel
theorem dL_law_3397 : decode cL_law 3397 = .ok (.if_icmp .eq 5, 3) := by decide +kernel
theorem dL_law_3400 : decode cL_law 3400 = .ok (.iconst 0, 1) := by decide +kernel
theorem dL_law_3401 : decode cL_law 3401 = .ok (.ireturn, 1) := by decide +kernel
theorem dL_law_3402 : decode cL_law 3402 = .ok (.iload 6, 2) := by decide +kernel
theorem dL_law_3404 : decode cL_law 3404 = .ok (.ifCond .ne 22, 3) := by decide +kernel
theorem dL_law_3407 : decode cL_law 3407 = .ok (.aload_n 3, 1) := by decide +kernel
theorem dL_law_3408 : decode cL_law 3408 = .ok (.iconst 0, 1) := by decide +kernel
theorem dL_law_3409 : decode cL_law 3409 = .ok (.laload, 1) := by decide +kernel
theorem dL_law_3410 : decode cL_law 3410 = .ok (.iload 7, 2) := by decide +kernel
theorem dL_law_3412 : decode cL_law 3412 = .ok (.ifCond .eq 7, 3) := by decide +kernel
theorem dL_law_3415 : decode cL_law 3415 = .ok (.lconst 1, 1) := by decide +kernel
theorem dL_law_3416 : decode cL_law 3416 = .ok (.goto 4, 3) := by decide +kernel
theorem dL_law_3419 : decode cL_law 3419 = .ok (.lconst 0, 1) := by decide +kernel
theorem dL_law_3420 : decode cL_law 3420 = .ok (.lcmp, 1) := by decide +kernel
theorem dL_law_3421 : decode cL_law 3421 = .ok (.ifCond .eq 5, 3) := by decide +kernel
theorem dL_law_3424 : decode cL_law 3424 = .ok (.iconst 0, 1) := by decide +kernel
theorem dL_law_3425 : decode cL_law 3425 = .ok (.ireturn, 1) := by decide +kernel
theorem dL_law_3426 : decode cL_law 3426 = .ok (.goto 474, 3) := by decide +kernel
theorem dL_law_3429 : decode cL_law 3429 = .ok (.aload_n 1, 1) := by decide +kernel
theorem dL_law_3430 : decode cL_law 3430 = .ok (.aload_n 0, 1) := by decide +kernel
theorem dL_law_3431 : decode cL_law 3431 = .ok (.iload 5, 2) := by decide +kernel
theorem dL_law_3433 : decode cL_law 3433 = .ok (.iconst 1, 1) := by decide +kernel
theorem dL_law_3434 : decode cL_law 3434 = .ok (.iadd, 1) := by decide +kernel
theorem dL_law_3435 : decode cL_law 3435 = .ok (.iaload, 1) := by decide +kernel
theorem dL_law_3436 : decode cL_law 3436 = .ok (.aload_n 0, 1) := by decide +kernel
theorem dL_law_3437 : decode cL_law 3437 = .ok (.iload 5, 2) := by decide +kernel
theorem dL_law_3439 : decode cL_law 3439 = .ok (.iconst 2, 1) := by decide +kernel
theorem dL_law_3440 : decode cL_law 3440 = .ok (.iadd, 1) := by decide +kernel
theorem dL_law_3441 : decode cL_law 3441 = .ok (.iaload, 1) := by decide +kernel
theorem dL_law_3442 : decode cL_law 3442 = .ok (.ifCond .eq 7, 3) := by decide +kernel
theorem dL_law_3445 : decode cL_law 3445 = .ok (.iconst 1, 1) := by decide +kernel
theorem dL_law_3446 : decode cL_law 3446 = .ok (.goto 4, 3) := by decide +kernel
theorem dL_law_3449 : decode cL_law 3449 = .ok (.iconst 0, 1) := by decide +kernel
theorem dL_law_3450 : decode cL_law 3450 = .ok (.aload_n 3, 1) := by decide +kernel
theorem dL_law_3451 : decode cL_law 3451 = .ok (.invokestatic 369, 3) := by decide +kernel
theorem dL_law_3454 : decode cL_law 3454 = .ok (.istore 6, 2) := by decide +kernel
theorem dL_law_3456 : decode cL_law 3456 = .ok (.aload_n 2, 1) := by decide +kernel
theorem dL_law_3457 : decode cL_law 3457 = .ok (.aload_n 0, 1) := by decide +kernel
theorem dL_law_3458 : decode cL_law 3458 = .ok (.iload 5, 2) := by decide +kernel
theorem dL_law_3460 : decode cL_law 3460 = .ok (.iconst 1, 1) := by decide +kernel
theorem dL_law_3461 : decode cL_law 3461 = .ok (.iadd, 1) := by decide +kernel
theorem dL_law_3462 : decode cL_law 3462 = .ok (.iaload, 1) := by decide +kernel
theorem dL_law_3463 : decode cL_law 3463 = .ok (.aload_n 0, 1) := by decide +kernel
theorem dL_law_3464 : decode cL_law 3464 = .ok (.iload 5, 2) := by decide +kernel
theorem dL_law_3466 : decode cL_law 3466 = .ok (.iconst 2, 1) := by decide +kernel
theorem dL_law_3467 : decode cL_law 3467 = .ok (.iadd, 1) := by decide +kernel
theorem dL_law_3468 : decode cL_law 3468 = .ok (.iaload, 1) := by decide +kernel
theorem dL_law_3469 : decode cL_law 3469 = .ok (.ifCond .eq 7, 3) := by decide +kernel
theorem dL_law_3472 : decode cL_law 3472 = .ok (.iconst 1, 1) := by decide +kernel
theorem dL_law_3473 : decode cL_law 3473 = .ok (.goto 4, 3) := by decide +kernel
theorem dL_law_3476 : decode cL_law 3476 = .ok (.iconst 0, 1) := by decide +kernel
theorem dL_law_3477 : decode cL_law 3477 = .ok (.invokevirtual 371, 3) := by decide +kernel
theorem dL_law_3480 : decode cL_law 3480 = .ok (.istore 7, 2) := by decide +kernel
theorem dL_law_3482 : decode cL_law 3482 = .ok (.aload_n 2, 1) := by decide +kernel
theorem dL_law_3483 : decode cL_law 3483 = .ok (.invokevirtual 204, 3) := by decide +kernel
theorem dL_law_3486 : decode cL_law 3486 = .ok (.iload 6, 2) := by decide +kernel
theorem dL_law_3488 : decode cL_law 3488 = .ok (.if_icmp .eq 5, 3) := by decide +kernel
theorem dL_law_3491 : decode cL_law 3491 = .ok (.iconst 0, 1) := by decide +kernel
theorem dL_law_3492 : decode cL_law 3492 = .ok (.ireturn, 1) := by decide +kernel
theorem dL_law_3493 : decode cL_law 3493 = .ok (.iload 6, 2) := by decide +kernel
theorem dL_law_3495 : decode cL_law 3495 = .ok (.ifCond .ne 15, 3) := by decide +kernel
theorem dL_law_3498 : decode cL_law 3498 = .ok (.aload_n 3, 1) := by decide +kernel
theorem dL_law_3499 : decode cL_law 3499 = .ok (.iconst 0, 1) := by decide +kernel
theorem dL_law_3500 : decode cL_law 3500 = .ok (.laload, 1) := by decide +kernel
theorem dL_law_3501 : decode cL_law 3501 = .ok (.iload 7, 2) := by decide +kernel
theorem dL_law_3503 : decode cL_law 3503 = .ok (.i2l, 1) := by decide +kernel
theorem dL_law_3504 : decode cL_law 3504 = .ok (.lcmp, 1) := by decide +kernel
theorem dL_law_3505 : decode cL_law 3505 = .ok (.ifCond .eq 5, 3) := by decide +kernel
theorem dL_law_3508 : decode cL_law 3508 = .ok (.iconst 0, 1) := by decide +kernel
theorem dL_law_3509 : decode cL_law 3509 = .ok (.ireturn, 1) := by decide +kernel
theorem dL_law_3510 : decode cL_law 3510 = .ok (.goto 390, 3) := by decide +kernel
theorem dL_law_3513 : decode cL_law 3513 = .ok (.aload_n 1, 1) := by decide +kernel
theorem dL_law_3514 : decode cL_law 3514 = .ok (.aload_n 0, 1) := by decide +kernel
theorem dL_law_3515 : decode cL_law 3515 = .ok (.iload 5, 2) := by decide +kernel
theorem dL_law_3517 : decode cL_law 3517 = .ok (.iconst 1, 1) := by decide +kernel
theorem dL_law_3518 : decode cL_law 3518 = .ok (.iadd, 1) := by decide +kernel
theorem dL_law_3519 : decode cL_law 3519 = .ok (.iaload, 1) := by decide +kernel
theorem dL_law_3520 : decode cL_law 3520 = .ok (.aload_n 0, 1) := by decide +kernel
theorem dL_law_3521 : decode cL_law 3521 = .ok (.iload 5, 2) := by decide +kernel
theorem dL_law_3523 : decode cL_law 3523 = .ok (.iconst 2, 1) := by decide +kernel
theorem dL_law_3524 : decode cL_law 3524 = .ok (.iadd, 1) := by decide +kernel
theorem dL_law_3525 : decode cL_law 3525 = .ok (.iaload, 1) := by decide +kernel
theorem dL_law_3526 : decode cL_law 3526 = .ok (.aload_n 0, 1) := by decide +kernel
theorem dL_law_3527 : decode cL_law 3527 = .ok (.iload 5, 2) := by decide +kernel
theorem dL_law_3529 : decode cL_law 3529 = .ok (.iconst 3, 1) := by decide +kernel
theorem dL_law_3530 : decode cL_law 3530 = .ok (.iadd, 1) := by decide +kernel
theorem dL_law_3531 : decode cL_law 3531 = .ok (.iaload, 1) := by decide +kernel
theorem dL_law_3532 : decode cL_law 3532 = .ok (.aload_n 0, 1) := by decide +kernel
theorem dL_law_3533 : decode cL_law 3533 = .ok (.iload 5, 2) := by decide +kernel
theorem dL_law_3535 : decode cL_law 3535 = .ok (.iconst 4, 1) := by decide +kernel
theorem dL_law_3536 : decode cL_law 3536 = .ok (.iadd, 1) := by decide +kernel
theorem dL_law_3537 : decode cL_law 3537 = .ok (.iaload, 1) := by decide +kernel
theorem dL_law_3538 : decode cL_law 3538 = .ok (.aload_n 3, 1) := by decide +kernel
theorem dL_law_3539 : decode cL_law 3539 = .ok (.invokestatic 372, 3) := by decide +kernel
theorem dL_law_3542 : decode cL_law 3542 = .ok (.istore 6, 2) := by decide +kernel
theorem dL_law_3544 : decode cL_law 3544 = .ok (.aload_n 2, 1) := by decide +kernel
theorem dL_law_3545 : decode cL_law 3545 = .ok (.aload_n 0, 1) := by decide +kernel
theorem dL_law_3546 : decode cL_law 3546 = .ok (.iload 5, 2) := by decide +kernel
theorem dL_law_3548 : decode cL_law 3548 = .ok (.iconst 1, 1) := by decide +kernel
theorem dL_law_3549 : decode cL_law 3549 = .ok (.iadd, 1) := by decide +kernel
theorem dL_law_3550 : decode cL_law 3550 = .ok (.iaload, 1) := by decide +kernel
theorem dL_law_3551 : decode cL_law 3551 = .ok (.aload_n 0, 1) := by decide +kernel
theorem dL_law_3552 : decode cL_law 3552 = .ok (.iload 5, 2) := by decide +kernel
theorem dL_law_3554 : decode cL_law 3554 = .ok (.iconst 2, 1) := by decide +kernel
theorem dL_law_3555 : decode cL_law 3555 = .ok (.iadd, 1) := by decide +kernel
theorem dL_law_3556 : decode cL_law 3556 = .ok (.iaload, 1) := by decide +kernel
theorem dL_law_3557 : decode cL_law 3557 = .ok (.aload_n 0, 1) := by decide +kernel
theorem dL_law_3558 : decode cL_law 3558 = .ok (.iload 5, 2) := by decide +kernel
theorem dL_law_3560 : decode cL_law 3560 = .ok (.iconst 3, 1) := by decide +kernel
theorem dL_law_3561 : decode cL_law 3561 = .ok (.iadd, 1) := by decide +kernel
theorem dL_law_3562 : decode cL_law 3562 = .ok (.iaload, 1) := by decide +kernel
theorem dL_law_3563 : decode cL_law 3563 = .ok (.aload_n 0, 1) := by decide +kernel
theorem dL_law_3564 : decode cL_law 3564 = .ok (.iload 5, 2) := by decide +kernel
theorem dL_law_3566 : decode cL_law 3566 = .ok (.iconst 4, 1) := by decide +kernel
theorem dL_law_3567 : decode cL_law 3567 = .ok (.iadd, 1) := by decide +kernel
theorem dL_law_3568 : decode cL_law 3568 = .ok (.iaload, 1) := by decide +kernel
theorem dL_law_3569 : decode cL_law 3569 = .ok (.invokevirtual 375, 3) := by decide +kernel
theorem dL_law_3572 : decode cL_law 3572 = .ok (.istore 7, 2) := by decide +kernel
theorem dL_law_3574 : decode cL_law 3574 = .ok (.aload_n 2, 1) := by decide +kernel
theorem dL_law_3575 : decode cL_law 3575 = .ok (.invokevirtual 204, 3) := by decide +kernel
theorem dL_law_3578 : decode cL_law 3578 = .ok (.iload 6, 2) := by decide +kernel
theorem dL_law_3580 : decode cL_law 3580 = .ok (.if_icmp .eq 5, 3) := by decide +kernel
theorem dL_law_3583 : decode cL_law 3583 = .ok (.iconst 0, 1) := by decide +kernel
theorem dL_law_3584 : decode cL_law 3584 = .ok (.ireturn, 1) := by decide +kernel
theorem dL_law_3585 : decode cL_law 3585 = .ok (.iload 6, 2) := by decide +kernel
theorem dL_law_3587 : decode cL_law 3587 = .ok (.ifCond .ne 22, 3) := by decide +kernel
theorem dL_law_3590 : decode cL_law 3590 = .ok (.aload_n 3, 1) := by decide +kernel
theorem dL_law_3591 : decode cL_law 3591 = .ok (.iconst 0, 1) := by decide +kernel
theorem dL_law_3592 : decode cL_law 3592 = .ok (.laload, 1) := by decide +kernel
theorem dL_law_3593 : decode cL_law 3593 = .ok (.iload 7, 2) := by decide +kernel
theorem dL_law_3595 : decode cL_law 3595 = .ok (.ifCond .eq 7, 3) := by decide +kernel
theorem dL_law_3598 : decode cL_law 3598 = .ok (.lconst 1, 1) := by decide +kernel
theorem dL_law_3599 : decode cL_law 3599 = .ok (.goto 4, 3) := by decide +kernel
theorem dL_law_3602 : decode cL_law 3602 = .ok (.lconst 0, 1) := by decide +kernel
theorem dL_law_3603 : decode cL_law 3603 = .ok (.lcmp, 1) := by decide +kernel
theorem dL_law_3604 : decode cL_law 3604 = .ok (.ifCond .eq 5, 3) := by decide +kernel
theorem dL_law_3607 : decode cL_law 3607 = .ok (.iconst 0, 1) := by decide +kernel
theorem dL_law_3608 : decode cL_law 3608 = .ok (.ireturn, 1) := by decide +kernel
theorem dL_law_3609 : decode cL_law 3609 = .ok (.goto 291, 3) := by decide +kernel
theorem dL_law_3612 : decode cL_law 3612 = .ok (.aload_n 1, 1) := by decide +kernel
theorem dL_law_3613 : decode cL_law 3613 = .ok (.aload_n 0, 1) := by decide +kernel
theorem dL_law_3614 : decode cL_law 3614 = .ok (.iload 5, 2) := by decide +kernel
theorem dL_law_3616 : decode cL_law 3616 = .ok (.iconst 1, 1) := by decide +kernel
theorem dL_law_3617 : decode cL_law 3617 = .ok (.iadd, 1) := by decide +kernel
theorem dL_law_3618 : decode cL_law 3618 = .ok (.iaload, 1) := by decide +kernel
theorem dL_law_3619 : decode cL_law 3619 = .ok (.aload_n 0, 1) := by decide +kernel
theorem dL_law_3620 : decode cL_law 3620 = .ok (.iload 5, 2) := by decide +kernel
theorem dL_law_3622 : decode cL_law 3622 = .ok (.iconst 2, 1) := by decide +kernel
theorem dL_law_3623 : decode cL_law 3623 = .ok (.iadd, 1) := by decide +kernel
theorem dL_law_3624 : decode cL_law 3624 = .ok (.iaload, 1) := by decide +kernel
theorem dL_law_3625 : decode cL_law 3625 = .ok (.ifCond .eq 7, 3) := by decide +kernel
theorem dL_law_3628 : decode cL_law 3628 = .ok (.iconst 1, 1) := by decide +kernel
theorem dL_law_3629 : decode cL_law 3629 = .ok (.goto 4, 3) := by decide +kernel
theorem dL_law_3632 : decode cL_law 3632 = .ok (.iconst 0, 1) := by decide +kernel
theorem dL_law_3633 : decode cL_law 3633 = .ok (.aload_n 3, 1) := by decide +kernel
theorem dL_law_3634 : decode cL_law 3634 = .ok (.invokestatic 376, 3) := by decide +kernel
theorem dL_law_3637 : decode cL_law 3637 = .ok (.istore 6, 2) := by decide +kernel
theorem dL_law_3639 : decode cL_law 3639 = .ok (.aload_n 2, 1) := by decide +kernel
theorem dL_law_3640 : decode cL_law 3640 = .ok (.aload_n 0, 1) := by decide +kernel
theorem dL_law_3641 : decode cL_law 3641 = .ok (.iload 5, 2) := by decide +kernel
theorem dL_law_3643 : decode cL_law 3643 = .ok (.iconst 1, 1) := by decide +kernel
theorem dL_law_3644 : decode cL_law 3644 = .ok (.iadd, 1) := by decide +kernel
theorem dL_law_3645 : decode cL_law 3645 = .ok (.iaload, 1) := by decide +kernel
theorem dL_law_3646 : decode cL_law 3646 = .ok (.aload_n 0, 1) := by decide +kernel
theorem dL_law_3647 : decode cL_law 3647 = .ok (.iload 5, 2) := by decide +kernel
theorem dL_law_3649 : decode cL_law 3649 = .ok (.iconst 2, 1) := by decide +kernel
theorem dL_law_3650 : decode cL_law 3650 = .ok (.iadd, 1) := by decide +kernel
theorem dL_law_3651 : decode cL_law 3651 = .ok (.iaload, 1) := by decide +kernel
theorem dL_law_3652 : decode cL_law 3652 = .ok (.ifCond .eq 7, 3) := by decide +kernel
theorem dL_law_3655 : decode cL_law 3655 = .ok (.iconst 1, 1) := by decide +kernel
theorem dL_law_3656 : decode cL_law 3656 = .ok (.goto 4, 3) := by decide +kernel
theorem dL_law_3659 : decode cL_law 3659 = .ok (.iconst 0, 1) := by decide +kernel
theorem dL_law_3660 : decode cL_law 3660 = .ok (.invokevirtual 378, 3) := by decide +kernel
theorem dL_law_3663 : decode cL_law 3663 = .ok (.istore 7, 2) := by decide +kernel
theorem dL_law_3665 : decode cL_law 3665 = .ok (.aload_n 2, 1) := by decide +kernel
theorem dL_law_3666 : decode cL_law 3666 = .ok (.invokevirtual 204, 3) := by decide +kernel
theorem dL_law_3669 : decode cL_law 3669 = .ok (.iload 6, 2) := by decide +kernel
theorem dL_law_3671 : decode cL_law 3671 = .ok (.if_icmp .eq 5, 3) := by decide +kernel
theorem dL_law_3674 : decode cL_law 3674 = .ok (.iconst 0, 1) := by decide +kernel
theorem dL_law_3675 : decode cL_law 3675 = .ok (.ireturn, 1) := by decide +kernel
theorem dL_law_3676 : decode cL_law 3676 = .ok (.iload 6, 2) := by decide +kernel
theorem dL_law_3678 : decode cL_law 3678 = .ok (.ifCond .ne 22, 3) := by decide +kernel
theorem dL_law_3681 : decode cL_law 3681 = .ok (.aload_n 3, 1) := by decide +kernel
theorem dL_law_3682 : decode cL_law 3682 = .ok (.iconst 0, 1) := by decide +kernel
theorem dL_law_3683 : decode cL_law 3683 = .ok (.laload, 1) := by decide +kernel
theorem dL_law_3684 : decode cL_law 3684 = .ok (.iload 7, 2) := by decide +kernel
theorem dL_law_3686 : decode cL_law 3686 = .ok (.ifCond .eq 7, 3) := by decide +kernel
theorem dL_law_3689 : decode cL_law 3689 = .ok (.lconst 1, 1) := by decide +kernel
theorem dL_law_3690 : decode cL_law 3690 = .ok (.goto 4, 3) := by decide +kernel
theorem dL_law_3693 : decode cL_law 3693 = .ok (.lconst 0, 1) := by decide +kernel
theorem dL_law_3694 : decode cL_law 3694 = .ok (.lcmp, 1) := by decide +kernel
theorem dL_law_3695 : decode cL_law 3695 = .ok (.ifCond .eq 5, 3) := by decide +kernel
theorem dL_law_3698 : decode cL_law 3698 = .ok (.iconst 0, 1) := by decide +kernel
theorem dL_law_3699 : decode cL_law 3699 = .ok (.ireturn, 1) := by decide +kernel
theorem dL_law_3700 : decode cL_law 3700 = .ok (.goto 200, 3) := by decide +kernel
theorem dL_law_3703 : decode cL_law 3703 = .ok (.aload_n 1, 1) := by decide +kernel
theorem dL_law_3704 : decode cL_law 3704 = .ok (.invokevirtual 379, 3) := by decide +kernel
theorem dL_law_3707 : decode cL_law 3707 = .ok (.aload_n 2, 1) := by decide +kernel
theorem dL_law_3708 : decode cL_law 3708 = .ok (.invokevirtual 382, 3) := by decide +kernel
theorem dL_law_3711 : decode cL_law 3711 = .ok (.if_icmp .eq 189, 3) := by decide +kernel
theorem dL_law_3714 : decode cL_law 3714 = .ok (.iconst 0, 1) := by decide +kernel
theorem dL_law_3715 : decode cL_law 3715 = .ok (.ireturn, 1) := by decide +kernel
theorem dL_law_3716 : decode cL_law 3716 = .ok (.aload_n 1, 1) := by decide +kernel
theorem dL_law_3717 : decode cL_law 3717 = .ok (.invokevirtual 383, 3) := by decide +kernel
theorem dL_law_3720 : decode cL_law 3720 = .ok (.aload_n 2, 1) := by decide +kernel
theorem dL_law_3721 : decode cL_law 3721 = .ok (.invokevirtual 386, 3) := by decide +kernel
theorem dL_law_3724 : decode cL_law 3724 = .ok (.if_icmp .eq 176, 3) := by decide +kernel
theorem dL_law_3727 : decode cL_law 3727 = .ok (.iconst 0, 1) := by decide +kernel
theorem dL_law_3728 : decode cL_law 3728 = .ok (.ireturn, 1) := by decide +kernel
theorem dL_law_3729 : decode cL_law 3729 = .ok (.aload_n 1, 1) := by decide +kernel
theorem dL_law_3730 : decode cL_law 3730 = .ok (.invokevirtual 387, 3) := by decide +kernel
theorem dL_law_3733 : decode cL_law 3733 = .ok (.aload_n 2, 1) := by decide +kernel
theorem dL_law_3734 : decode cL_law 3734 = .ok (.invokevirtual 390, 3) := by decide +kernel
theorem dL_law_3737 : decode cL_law 3737 = .ok (.if_icmp .eq 163, 3) := by decide +kernel
theorem dL_law_3740 : decode cL_law 3740 = .ok (.iconst 0, 1) := by decide +kernel
theorem dL_law_3741 : decode cL_law 3741 = .ok (.ireturn, 1) := by decide +kernel
theorem dL_law_3742 : decode cL_law 3742 = .ok (.aload_n 1, 1) := by decide +kernel
theorem dL_law_3743 : decode cL_law 3743 = .ok (.invokevirtual 391, 3) := by decide +kernel
theorem dL_law_3746 : decode cL_law 3746 = .ok (.aload_n 2, 1) := by decide +kernel
theorem dL_law_3747 : decode cL_law 3747 = .ok (.invokevirtual 395, 3) := by decide +kernel
theorem dL_law_3750 : decode cL_law 3750 = .ok (.lcmp, 1) := by decide +kernel
theorem dL_law_3751 : decode cL_law 3751 = .ok (.ifCond .eq 149, 3) := by decide +kernel
theorem dL_law_3754 : decode cL_law 3754 = .ok (.iconst 0, 1) := by decide +kernel
theorem dL_law_3755 : decode cL_law 3755 = .ok (.ireturn, 1) := by decide +kernel
theorem dL_law_3756 : decode cL_law 3756 = .ok (.aload_n 1, 1) := by decide +kernel
theorem dL_law_3757 : decode cL_law 3757 = .ok (.aload 4, 2) := by decide +kernel
theorem dL_law_3759 : decode cL_law 3759 = .ok (.invokestatic 396, 3) := by decide +kernel
theorem dL_law_3762 : decode cL_law 3762 = .ok (.istore 6, 2) := by decide +kernel
theorem dL_law_3764 : decode cL_law 3764 = .ok (.aload_n 2, 1) := by decide +kernel
theorem dL_law_3765 : decode cL_law 3765 = .ok (.invokevirtual 399, 3) := by decide +kernel
theorem dL_law_3768 : decode cL_law 3768 = .ok (.fstore 7, 2) := by decide +kernel
theorem dL_law_3770 : decode cL_law 3770 = .ok (.aload_n 2, 1) := by decide +kernel
theorem dL_law_3771 : decode cL_law 3771 = .ok (.invokevirtual 204, 3) := by decide +kernel
theorem dL_law_3774 : decode cL_law 3774 = .ok (.iload 6, 2) := by decide +kernel
theorem dL_law_3776 : decode cL_law 3776 = .ok (.if_icmp .eq 5, 3) := by decide +kernel
theorem dL_law_3779 : decode cL_law 3779 = .ok (.iconst 0, 1) := by decide +kernel
theorem dL_law_3780 : decode cL_law 3780 = .ok (.ireturn, 1) := by decide +kernel
theorem dL_law_3781 : decode cL_law 3781 = .ok (.iload 6, 2) := by decide +kernel
theorem dL_law_3783 : decode cL_law 3783 = .ok (.ifCond .ne 36, 3) := by decide +kernel
theorem dL_law_3786 : decode cL_law 3786 = .ok (.aload 4, 2) := by decide +kernel
theorem dL_law_3788 : decode cL_law 3788 = .ok (.iconst 0, 1) := by decide +kernel
theorem dL_law_3789 : decode cL_law 3789 = .ok (.daload, 1) := by decide +kernel
theorem dL_law_3790 : decode cL_law 3790 = .ok (.fload 7, 2) := by decide +kernel
theorem dL_law_3792 : decode cL_law 3792 = .ok (.f2d, 1) := by decide +kernel
theorem dL_law_3793 : decode cL_law 3793 = .ok (.dcmp .l, 1) := by decide +kernel
theorem dL_law_3794 : decode cL_law 3794 = .ok (.ifCond .eq 25, 3) := by decide +kernel
theorem dL_law_3797 : decode cL_law 3797 = .ok (.aload 4, 2) := by decide +kernel
theorem dL_law_3799 : decode cL_law 3799 = .ok (.iconst 0, 1) := by decide +kernel
theorem dL_law_3800 : decode cL_law 3800 = .ok (.daload, 1) := by decide +kernel
theorem dL_law_3801 : decode cL_law 3801 = .ok (.aload 4, 2) := by decide +kernel
theorem dL_law_3803 : decode cL_law 3803 = .ok (.iconst 0, 1) := by decide +kernel
theorem dL_law_3804 : decode cL_law 3804 = .ok (.daload, 1) := by decide +kernel
theorem dL_law_3805 : decode cL_law 3805 = .ok (.dcmp .l, 1) := by decide +kernel
theorem dL_law_3806 : decode cL_law 3806 = .ok (.ifCond .eq 11, 3) := by decide +kernel
theorem dL_law_3809 : decode cL_law 3809 = .ok (.fload 7, 2) := by decide +kernel
theorem dL_law_3811 : decode cL_law 3811 = .ok (.fload 7, 2) := by decide +kernel
theorem dL_law_3813 : decode cL_law 3813 = .ok (.fcmp .l, 1) := by decide +kernel
theorem dL_law_3814 : decode cL_law 3814 = .ok (.ifCond .ne 5, 3) := by decide +kernel
theorem dL_law_3817 : decode cL_law 3817 = .ok (.iconst 0, 1) := by decide +kernel
theorem dL_law_3818 : decode cL_law 3818 = .ok (.ireturn, 1) := by decide +kernel
theorem dL_law_3819 : decode cL_law 3819 = .ok (.goto 81, 3) := by decide +kernel
theorem dL_law_3822 : decode cL_law 3822 = .ok (.aload_n 1, 1) := by decide +kernel
theorem dL_law_3823 : decode cL_law 3823 = .ok (.aload 4, 2) := by decide +kernel
theorem dL_law_3825 : decode cL_law 3825 = .ok (.invokestatic 400, 3) := by decide +kernel
theorem dL_law_3828 : decode cL_law 3828 = .ok (.istore 6, 2) := by decide +kernel
theorem dL_law_3830 : decode cL_law 3830 = .ok (.aload_n 2, 1) := by decide +kernel
theorem dL_law_3831 : decode cL_law 3831 = .ok (.invokevirtual 402, 3) := by decide +kernel
theorem dL_law_3834 : decode cL_law 3834 = .ok (.dstore 7, 2) := by decide +kernel
theorem dL_law_3836 : decode cL_law 3836 = .ok (.aload_n 2, 1) := by decide +kernel
theorem dL_law_3837 : decode cL_law 3837 = .ok (.invokevirtual 204, 3) := by decide +kernel
theorem dL_law_3840 : decode cL_law 3840 = .ok (.iload 6, 2) := by decide +kernel
theorem dL_law_3842 : decode cL_law 3842 = .ok (.if_icmp .eq 5, 3) := by decide +kernel
theorem dL_law_3845 : decode cL_law 3845 = .ok (.iconst 0, 1) := by decide +kernel
theorem dL_law_3846 : decode cL_law 3846 = .ok (.ireturn, 1) := by decide +kernel
theorem dL_law_3847 : decode cL_law 3847 = .ok (.iload 6, 2) := by decide +kernel
theorem dL_law_3849 : decode cL_law 3849 = .ok (.ifCond .ne 35, 3) := by decide +kernel
theorem dL_law_3852 : decode cL_law 3852 = .ok (.aload 4, 2) := by decide +kernel
theorem dL_law_3854 : decode cL_law 3854 = .ok (.iconst 0, 1) := by decide +kernel
theorem dL_law_3855 : decode cL_law 3855 = .ok (.daload, 1) := by decide +kernel
theorem dL_law_3856 : decode cL_law 3856 = .ok (.dload 7, 2) := by decide +kernel
theorem dL_law_3858 : decode cL_law 3858 = .ok (.dcmp .l, 1) := by decide +kernel
theorem dL_law_3859 : decode cL_law 3859 = .ok (.ifCond .eq 25, 3) := by decide +kernel
theorem dL_law_3862 : decode cL_law 3862 = .ok (.aload 4, 2) := by decide +kernel
theorem dL_law_3864 : decode cL_law 3864 = .ok (.iconst 0, 1) := by decide +kernel
theorem dL_law_3865 : decode cL_law 3865 = .ok (.daload, 1) := by decide +kernel
theorem dL_law_3866 : decode cL_law 3866 = .ok (.aload 4, 2) := by decide +kernel
theorem dL_law_3868 : decode cL_law 3868 = .ok (.iconst 0, 1) := by decide +kernel
theorem dL_law_3869 : decode cL_law 3869 = .ok (.daload, 1) := by decide +kernel
theorem dL_law_3870 : decode cL_law 3870 = .ok (.dcmp .l, 1) := by decide +kernel
theorem dL_law_3871 : decode cL_law 3871 = .ok (.ifCond .eq 11, 3) := by decide +kernel
theorem dL_law_3874 : decode cL_law 3874 = .ok (.dload 7, 2) := by decide +kernel
theorem dL_law_3876 : decode cL_law 3876 = .ok (.dload 7, 2) := by decide +kernel
theorem dL_law_3878 : decode cL_law 3878 = .ok (.dcmp .l, 1) := by decide +kernel
theorem dL_law_3879 : decode cL_law 3879 = .ok (.ifCond .ne 5, 3) := by decide +kernel
theorem dL_law_3882 : decode cL_law 3882 = .ok (.iconst 0, 1) := by decide +kernel
theorem dL_law_3883 : decode cL_law 3883 = .ok (.ireturn, 1) := by decide +kernel
theorem dL_law_3884 : decode cL_law 3884 = .ok (.goto 16, 3) := by decide +kernel
theorem dL_law_3887 : decode cL_law 3887 = .ok (.aload_n 1, 1) := by decide +kernel
theorem dL_law_3888 : decode cL_law 3888 = .ok (.invokevirtual 403, 3) := by decide +kernel
theorem dL_law_3891 : decode cL_law 3891 = .ok (.aload_n 2, 1) := by decide +kernel
theorem dL_law_3892 : decode cL_law 3892 = .ok (.invokevirtual 407, 3) := by decide +kernel
theorem dL_law_3895 : decode cL_law 3895 = .ok (.if_icmp .eq 5, 3) := by decide +kernel
theorem dL_law_3898 : decode cL_law 3898 = .ok (.iconst 0, 1) := by decide +kernel
theorem dL_law_3899 : decode cL_law 3899 = .ok (.ireturn, 1) := by decide +kernel
theorem dL_law_3900 : decode cL_law 3900 = .ok (.iinc 5 5, 3) := by decide +kernel
theorem dL_law_3903 : decode cL_law 3903 = .ok (.goto (-3875), 3) := by decide +kernel
theorem dL_law_3906 : decode cL_law 3906 = .ok (.iconst 1, 1) := by decide +kernel
theorem dL_law_3907 : decode cL_law 3907 = .ok (.ireturn, 1) := by decide +kernel
