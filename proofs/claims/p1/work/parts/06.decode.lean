theorem dJ7_fill_53178_0 : decode cJ7_fill_53178 0 = .ok (.iconst 0, 1) := by decide +kernel
theorem dJ7_fill_53178_1 : decode cJ7_fill_53178 1 = .ok (.istore_n 2, 1) := by decide +kernel
theorem dJ7_fill_53178_2 : decode cJ7_fill_53178 2 = .ok (.aload_n 0, 1) := by decide +kernel
theorem dJ7_fill_53178_3 : decode cJ7_fill_53178 3 = .ok (.arraylength, 1) := by decide +kernel
theorem dJ7_fill_53178_4 : decode cJ7_fill_53178 4 = .ok (.istore_n 3, 1) := by decide +kernel
theorem dJ7_fill_53178_5 : decode cJ7_fill_53178 5 = .ok (.iload_n 2, 1) := by decide +kernel
theorem dJ7_fill_53178_6 : decode cJ7_fill_53178 6 = .ok (.iload_n 3, 1) := by decide +kernel
theorem dJ7_fill_53178_7 : decode cJ7_fill_53178 7 = .ok (.if_icmp .ge 13, 3) := by decide +kernel
theorem dJ7_fill_53178_10 : decode cJ7_fill_53178 10 = .ok (.aload_n 0, 1) := by decide +kernel
theorem dJ7_fill_53178_11 : decode cJ7_fill_53178 11 = .ok (.iload_n 2, 1) := by decide +kernel
theorem dJ7_fill_53178_12 : decode cJ7_fill_53178 12 = .ok (.iload_n 1, 1) := by decide +kernel
theorem dJ7_fill_53178_13 : decode cJ7_fill_53178 13 = .ok (.iastore, 1) := by decide +kernel
theorem dJ7_fill_53178_14 : decode cJ7_fill_53178 14 = .ok (.iinc 2 1, 3) := by decide +kernel
theorem dJ7_fill_53178_17 : decode cJ7_fill_53178 17 = .ok (.goto (-12), 3) := by decide +kernel
theorem dJ7_fill_53178_20 : decode cJ7_fill_53178 20 = .ok (.return_, 1) := by decide +kernel
theorem dJ9_max_7cf53_0 : decode cJ9_max_7cf53 0 = .ok (.iload_n 0, 1) := by decide +kernel
theorem dJ9_max_7cf53_1 : decode cJ9_max_7cf53 1 = .ok (.iload_n 1, 1) := by decide +kernel
theorem dJ9_max_7cf53_2 : decode cJ9_max_7cf53 2 = .ok (.if_icmp .lt 7, 3) := by decide +kernel
theorem dJ9_max_7cf53_5 : decode cJ9_max_7cf53 5 = .ok (.iload_n 0, 1) := by decide +kernel
theorem dJ9_max_7cf53_6 : decode cJ9_max_7cf53 6 = .ok (.goto 4, 3) := by decide +kernel
theorem dJ9_max_7cf53_10 : decode cJ9_max_7cf53 10 = .ok (.ireturn, 1) := by decide +kernel
theorem dJ9_min_7cf53_0 : decode cJ9_min_7cf53 0 = .ok (.iload_n 0, 1) := by decide +kernel
theorem dJ9_min_7cf53_1 : decode cJ9_min_7cf53 1 = .ok (.iload_n 1, 1) := by decide +kernel
theorem dJ9_min_7cf53_2 : decode cJ9_min_7cf53 2 = .ok (.if_icmp .gt 7, 3) := by decide +kernel
theorem dJ9_min_7cf53_5 : decode cJ9_min_7cf53 5 = .ok (.iload_n 0, 1) := by decide +kernel
theorem dJ9_min_7cf53_6 : decode cJ9_min_7cf53 6 = .ok (.goto 4, 3) := by decide +kernel
theorem dJ9_min_7cf53_10 : decode cJ9_min_7cf53 10 = .ok (.ireturn, 1) := by decide +kernel
theorem dJx35411_hasNext_aae02_0 : decode cJx35411_hasNext_aae02 0 = .ok (.aload_n 0, 1) := by decide +kernel
theorem dJx35411_hasNext_aae02_1 : decode cJx35411_hasNext_aae02 1 = .ok (.getfield 25, 3) := by decide +kernel
theorem dJx35411_hasNext_aae02_4 : decode cJx35411_hasNext_aae02 4 = .ok (.aload_n 0, 1) := by decide +kernel
theorem dJx35411_hasNext_aae02_5 : decode cJx35411_hasNext_aae02 5 = .ok (.getfield 1, 3) := by decide +kernel
theorem dJx35411_hasNext_aae02_8 : decode cJx35411_hasNext_aae02 8 = .ok (.getfield 28, 3) := by decide +kernel
theorem dJx35411_hasNext_aae02_11 : decode cJx35411_hasNext_aae02 11 = .ok (.if_icmp .eq 7, 3) := by decide +kernel
theorem dJx35411_hasNext_aae02_18 : decode cJx35411_hasNext_aae02 18 = .ok (.iconst 0, 1) := by decide +kernel
theorem dJx35411_hasNext_aae02_19 : decode cJx35411_hasNext_aae02 19 = .ok (.ireturn, 1) := by decide +kernel
theorem dJx35411_init_45d68_0 : decode cJx35411_init_45d68 0 = .ok (.aload_n 0, 1) := by decide +kernel
theorem dJx35411_init_45d68_1 : decode cJx35411_init_45d68 1 = .ok (.aload_n 1, 1) := by decide +kernel
theorem dJx35411_init_45d68_2 : decode cJx35411_init_45d68 2 = .ok (.putfield 1, 3) := by decide +kernel
theorem dJx35411_init_45d68_5 : decode cJx35411_init_45d68 5 = .ok (.aload_n 0, 1) := by decide +kernel
theorem dJx35411_init_45d68_6 : decode cJx35411_init_45d68 6 = .ok (.invokespecial 7, 3) := by decide +kernel
theorem dJx35411_init_45d68_9 : decode cJx35411_init_45d68 9 = .ok (.aload_n 0, 1) := by decide +kernel
theorem dJx35411_init_45d68_10 : decode cJx35411_init_45d68 10 = .ok (.iconst (-1), 1) := by decide +kernel
theorem dJx35411_init_45d68_11 : decode cJx35411_init_45d68 11 = .ok (.putfield 13, 3) := by decide +kernel
theorem dJx35411_init_45d68_14 : decode cJx35411_init_45d68 14 = .ok (.aload_n 0, 1) := by decide +kernel
theorem dJx35411_init_45d68_15 : decode cJx35411_init_45d68 15 = .ok (.aload_n 0, 1) := by decide +kernel
theorem dJx35411_init_45d68_16 : decode cJx35411_init_45d68 16 = .ok (.getfield 1, 3) := by decide +kernel
theorem dJx35411_init_45d68_19 : decode cJx35411_init_45d68 19 = .ok (.getfield 17, 3) := by decide +kernel
theorem dJx35411_init_45d68_22 : decode cJx35411_init_45d68 22 = .ok (.putfield 22, 3) := by decide +kernel
theorem dJx35411_init_45d68_25 : decode cJx35411_init_45d68 25 = .ok (.return_, 1) := by decide +kernel
theorem dJx4a65c_add_72be8_0 : decode cJx4a65c_add_72be8 0 = .ok (.iload_n 3, 1) := by decide +kernel
theorem dJx4a65c_add_72be8_1 : decode cJx4a65c_add_72be8 1 = .ok (.aload_n 2, 1) := by decide +kernel
theorem dJx4a65c_add_72be8_2 : decode cJx4a65c_add_72be8 2 = .ok (.arraylength, 1) := by decide +kernel
theorem dJx4a65c_add_72be8_3 : decode cJx4a65c_add_72be8 3 = .ok (.if_icmp .ne 8, 3) := by decide +kernel
theorem dJx4a65c_add_72be8_6 : decode cJx4a65c_add_72be8 6 = .ok (.aload_n 0, 1) := by decide +kernel
theorem dJx4a65c_add_72be8_7 : decode cJx4a65c_add_72be8 7 = .ok (.invokevirtual 129, 3) := by decide +kernel
theorem dJx4a65c_add_72be8_10 : decode cJx4a65c_add_72be8 10 = .ok (.astore_n 2, 1) := by decide +kernel
theorem dJx4a65c_add_72be8_11 : decode cJx4a65c_add_72be8 11 = .ok (.aload_n 2, 1) := by decide +kernel
theorem dJx4a65c_add_72be8_12 : decode cJx4a65c_add_72be8 12 = .ok (.iload_n 3, 1) := by decide +kernel
theorem dJx4a65c_add_72be8_13 : decode cJx4a65c_add_72be8 13 = .ok (.aload_n 1, 1) := by decide +kernel
theorem dJx4a65c_add_72be8_14 : decode cJx4a65c_add_72be8 14 = .ok (.aastore, 1) := by decide +kernel
theorem dJx4a65c_add_72be8_15 : decode cJx4a65c_add_72be8 15 = .ok (.aload_n 0, 1) := by decide +kernel
theorem dJx4a65c_add_72be8_16 : decode cJx4a65c_add_72be8 16 = .ok (.iload_n 3, 1) := by decide +kernel
theorem dJx4a65c_add_72be8_17 : decode cJx4a65c_add_72be8 17 = .ok (.iconst 1, 1) := by decide +kernel
theorem dJx4a65c_add_72be8_18 : decode cJx4a65c_add_72be8 18 = .ok (.iadd, 1) := by decide +kernel
theorem dJx4a65c_add_72be8_19 : decode cJx4a65c_add_72be8 19 = .ok (.putfield 48, 3) := by decide +kernel
theorem dJx4a65c_add_72be8_22 : decode cJx4a65c_add_72be8 22 = .ok (.return_, 1) := by decide +kernel
theorem dJx4a65c_add_9ea2d_0 : decode cJx4a65c_add_9ea2d 0 = .ok (.aload_n 0, 1) := by decide +kernel
theorem dJx4a65c_add_9ea2d_1 : decode cJx4a65c_add_9ea2d 1 = .ok (.dup, 1) := by decide +kernel
theorem dJx4a65c_add_9ea2d_2 : decode cJx4a65c_add_9ea2d 2 = .ok (.getfield 63, 3) := by decide +kernel
theorem dJx4a65c_add_9ea2d_5 : decode cJx4a65c_add_9ea2d 5 = .ok (.iconst 1, 1) := by decide +kernel
theorem dJx4a65c_add_9ea2d_6 : decode cJx4a65c_add_9ea2d 6 = .ok (.iadd, 1) := by decide +kernel
theorem dJx4a65c_add_9ea2d_7 : decode cJx4a65c_add_9ea2d 7 = .ok (.putfield 63, 3) := by decide +kernel
theorem dJx4a65c_add_9ea2d_10 : decode cJx4a65c_add_9ea2d 10 = .ok (.aload_n 0, 1) := by decide +kernel
theorem dJx4a65c_add_9ea2d_11 : decode cJx4a65c_add_9ea2d 11 = .ok (.aload_n 1, 1) := by decide +kernel
theorem dJx4a65c_add_9ea2d_12 : decode cJx4a65c_add_9ea2d 12 = .ok (.aload_n 0, 1) := by decide +kernel
theorem dJx4a65c_add_9ea2d_13 : decode cJx4a65c_add_9ea2d 13 = .ok (.getfield 9, 3) := by decide +kernel
theorem dJx4a65c_add_9ea2d_16 : decode cJx4a65c_add_9ea2d 16 = .ok (.aload_n 0, 1) := by decide +kernel
theorem dJx4a65c_add_9ea2d_17 : decode cJx4a65c_add_9ea2d 17 = .ok (.getfield 48, 3) := by decide +kernel
theorem dJx4a65c_add_9ea2d_20 : decode cJx4a65c_add_9ea2d 20 = .ok (.invokevirtual 131, 3) := by decide +kernel
theorem dJx4a65c_add_9ea2d_23 : decode cJx4a65c_add_9ea2d 23 = .ok (.iconst 1, 1) := by decide +kernel
theorem dJx4a65c_add_9ea2d_24 : decode cJx4a65c_add_9ea2d 24 = .ok (.ireturn, 1) := by decide +kernel
theorem dJx4a65c_grow_92f84_0 : decode cJx4a65c_grow_92f84 0 = .ok (.aload_n 0, 1) := by decide +kernel
theorem dJx4a65c_grow_92f84_1 : decode cJx4a65c_grow_92f84 1 = .ok (.getfield 9, 3) := by decide +kernel
theorem dJx4a65c_grow_92f84_4 : decode cJx4a65c_grow_92f84 4 = .ok (.arraylength, 1) := by decide +kernel
theorem dJx4a65c_grow_92f84_5 : decode cJx4a65c_grow_92f84 5 = .ok (.istore_n 2, 1) := by decide +kernel
theorem dJx4a65c_grow_92f84_6 : decode cJx4a65c_grow_92f84 6 = .ok (.iload_n 2, 1) := by decide +kernel
theorem dJx4a65c_grow_92f84_7 : decode cJx4a65c_grow_92f84 7 = .ok (.ifCond .gt 13, 3) := by decide +kernel
theorem dJx4a65c_grow_92f84_10 : decode cJx4a65c_grow_92f84 10 = .ok (.aload_n 0, 1) := by decide +kernel
theorem dJx4a65c_grow_92f84_11 : decode cJx4a65c_grow_92f84 11 = .ok (.getfield 9, 3) := by decide +kernel
theorem dJx4a65c_grow_92f84_14 : decode cJx4a65c_grow_92f84 14 = .ok (.getstatic 39, 3) := by decide +kernel
theorem dJx4a65c_grow_92f84_17 : decode cJx4a65c_grow_92f84 17 = .ok (.if_acmp .eq 28, 3) := by decide +kernel
theorem dJx4a65c_grow_92f84_45 : decode cJx4a65c_grow_92f84 45 = .ok (.aload_n 0, 1) := by decide +kernel
theorem dJx4a65c_grow_92f84_46 : decode cJx4a65c_grow_92f84 46 = .ok (.bipush 10, 2) := by decide +kernel
theorem dJx4a65c_grow_92f84_48 : decode cJx4a65c_grow_92f84 48 = .ok (.iload_n 1, 1) := by decide +kernel
theorem dJx4a65c_grow_92f84_49 : decode cJx4a65c_grow_92f84 49 = .ok (.invokestatic 79, 3) := by decide +kernel
theorem dJx4a65c_grow_92f84_52 : decode cJx4a65c_grow_92f84 52 = .ok (.anewarray 7, 3) := by decide +kernel
theorem dJx4a65c_grow_92f84_55 : decode cJx4a65c_grow_92f84 55 = .ok (.dup_x1, 1) := by decide +kernel
theorem dJx4a65c_grow_92f84_56 : decode cJx4a65c_grow_92f84 56 = .ok (.putfield 9, 3) := by decide +kernel
theorem dJx4a65c_grow_92f84_59 : decode cJx4a65c_grow_92f84 59 = .ok (.areturn, 1) := by decide +kernel
theorem dJx4a65c_grow_d5877_0 : decode cJx4a65c_grow_d5877 0 = .ok (.aload_n 0, 1) := by decide +kernel
theorem dJx4a65c_grow_d5877_1 : decode cJx4a65c_grow_d5877 1 = .ok (.aload_n 0, 1) := by decide +kernel
theorem dJx4a65c_grow_d5877_2 : decode cJx4a65c_grow_d5877 2 = .ok (.getfield 48, 3) := by decide +kernel
theorem dJx4a65c_grow_d5877_5 : decode cJx4a65c_grow_d5877 5 = .ok (.iconst 1, 1) := by decide +kernel
theorem dJx4a65c_grow_d5877_6 : decode cJx4a65c_grow_d5877 6 = .ok (.iadd, 1) := by decide +kernel
theorem dJx4a65c_grow_d5877_7 : decode cJx4a65c_grow_d5877 7 = .ok (.invokevirtual 69, 3) := by decide +kernel
theorem dJx4a65c_grow_d5877_10 : decode cJx4a65c_grow_d5877 10 = .ok (.areturn, 1) := by decide +kernel
theorem dJx4a65c_init_da8c8_0 : decode cJx4a65c_init_da8c8 0 = .ok (.aload_n 0, 1) := by decide +kernel
theorem dJx4a65c_init_da8c8_1 : decode cJx4a65c_init_da8c8 1 = .ok (.invokespecial 1, 3) := by decide +kernel
theorem dJx4a65c_init_da8c8_4 : decode cJx4a65c_init_da8c8 4 = .ok (.aload_n 0, 1) := by decide +kernel
theorem dJx4a65c_init_da8c8_5 : decode cJx4a65c_init_da8c8 5 = .ok (.getstatic 39, 3) := by decide +kernel
theorem dJx4a65c_init_da8c8_8 : decode cJx4a65c_init_da8c8 8 = .ok (.putfield 9, 3) := by decide +kernel
theorem dJx4a65c_init_da8c8_11 : decode cJx4a65c_init_da8c8 11 = .ok (.return_, 1) := by decide +kernel
theorem dJx4a65c_isEmpty_aae02_0 : decode cJx4a65c_isEmpty_aae02 0 = .ok (.aload_n 0, 1) := by decide +kernel
theorem dJx4a65c_isEmpty_aae02_1 : decode cJx4a65c_isEmpty_aae02 1 = .ok (.getfield 48, 3) := by decide +kernel
theorem dJx4a65c_isEmpty_aae02_4 : decode cJx4a65c_isEmpty_aae02 4 = .ok (.ifCond .ne 7, 3) := by decide +kernel
theorem dJx4a65c_isEmpty_aae02_7 : decode cJx4a65c_isEmpty_aae02 7 = .ok (.iconst 1, 1) := by decide +kernel
theorem dJx4a65c_isEmpty_aae02_8 : decode cJx4a65c_isEmpty_aae02 8 = .ok (.goto 4, 3) := by decide +kernel
theorem dJx4a65c_isEmpty_aae02_12 : decode cJx4a65c_isEmpty_aae02 12 = .ok (.ireturn, 1) := by decide +kernel
theorem dJx4a65c_iterator_32c93_0 : decode cJx4a65c_iterator_32c93 0 = .ok (.new 267, 3) := by decide +kernel
theorem dJx4a65c_iterator_32c93_3 : decode cJx4a65c_iterator_32c93 3 = .ok (.dup, 1) := by decide +kernel
theorem dJx4a65c_iterator_32c93_4 : decode cJx4a65c_iterator_32c93 4 = .ok (.aload_n 0, 1) := by decide +kernel
theorem dJx4a65c_iterator_32c93_5 : decode cJx4a65c_iterator_32c93 5 = .ok (.invokespecial 269, 3) := by decide +kernel
theorem dJx4a65c_iterator_32c93_8 : decode cJx4a65c_iterator_32c93 8 = .ok (.areturn, 1) := by decide +kernel
theorem dJx4a65c_size_8abf5_0 : decode cJx4a65c_size_8abf5 0 = .ok (.aload_n 0, 1) := by decide +kernel
theorem dJx4a65c_size_8abf5_1 : decode cJx4a65c_size_8abf5 1 = .ok (.getfield 48, 3) := by decide +kernel
theorem dJx4a65c_size_8abf5_4 : decode cJx4a65c_size_8abf5 4 = .ok (.ireturn, 1) := by decide +kernel
theorem dJxa1e45_init_da8c8_0 : decode cJxa1e45_init_da8c8 0 = .ok (.aload_n 0, 1) := by decide +kernel
theorem dJxa1e45_init_da8c8_1 : decode cJxa1e45_init_da8c8 1 = .ok (.invokespecial 1, 3) := by decide +kernel
theorem dJxa1e45_init_da8c8_4 : decode cJxa1e45_init_da8c8 4 = .ok (.return_, 1) := by decide +kernel
theorem dJxc12de_init_da8c8_0 : decode cJxc12de_init_da8c8 0 = .ok (.aload_n 0, 1) := by decide +kernel
theorem dJxc12de_init_da8c8_1 : decode cJxc12de_init_da8c8 1 = .ok (.invokespecial 1, 3) := by decide +kernel
theorem dJxc12de_init_da8c8_4 : decode cJxc12de_init_da8c8 4 = .ok (.aload_n 0, 1) := by decide +kernel
theorem dJxc12de_init_da8c8_5 : decode cJxc12de_init_da8c8 5 = .ok (.iconst 0, 1) := by decide +kernel
theorem dJxc12de_init_da8c8_6 : decode cJxc12de_init_da8c8 6 = .ok (.putfield 7, 3) := by decide +kernel
theorem dJxc12de_init_da8c8_9 : decode cJxc12de_init_da8c8 9 = .ok (.return_, 1) := by decide +kernel
theorem dL_abate_0 : decode cL_abate 0 = .ok (.aload_n 3, 1) := by decide +kernel
theorem dL_abate_1 : decode cL_abate 1 = .ok (.iconst 0, 1) := by decide +kernel
theorem dL_abate_2 : decode cL_abate 2 = .ok (.aload_n 0, 1) := by decide +kernel
theorem dL_abate_3 : decode cL_abate 3 = .ok (.iload_n 1, 1) := by decide +kernel
theorem dL_abate_4 : decode cL_abate 4 = .ok (.iload_n 2, 1) := by decide +kernel
theorem dL_abate_5 : decode cL_abate 5 = .ok (.invokevirtual 180, 3) := by decide +kernel
theorem dL_abate_20 : decode cL_abate 20 = .ok (.astore 4, 2) := by decide +kernel
theorem dL_abate_22 : decode cL_abate 22 = .ok (.iconst 1, 1) := by decide +kernel
theorem dL_abate_23 : decode cL_abate 23 = .ok (.ireturn, 1) := by decide +kernel
theorem dL_appeal_0 : decode cL_appeal 0 = .ok (.aload_n 2, 1) := by decide +kernel
theorem dL_appeal_1 : decode cL_appeal 1 = .ok (.iconst 0, 1) := by decide +kernel
theorem dL_appeal_2 : decode cL_appeal 2 = .ok (.aload_n 0, 1) := by decide +kernel
theorem dL_appeal_3 : decode cL_appeal 3 = .ok (.iload_n 1, 1) := by decide +kernel
theorem dL_appeal_4 : decode cL_appeal 4 = .ok (.invokevirtual 157, 3) := by decide +kernel
theorem dL_appeal_12 : decode cL_appeal 12 = .ok (.astore_n 3, 1) := by decide +kernel
theorem dL_appeal_13 : decode cL_appeal 13 = .ok (.iconst 1, 1) := by decide +kernel
theorem dL_appeal_14 : decode cL_appeal 14 = .ok (.ireturn, 1) := by decide +kernel
theorem dL_armigerShare_0 : decode cL_armigerShare 0 = .ok (.aload_n 1, 1) := by decide +kernel
theorem dL_armigerShare_1 : decode cL_armigerShare 1 = .ok (.iconst 0, 1) := by decide +kernel
theorem dL_armigerShare_2 : decode cL_armigerShare 2 = .ok (.aload_n 0, 1) := by decide +kernel
theorem dL_armigerShare_3 : decode cL_armigerShare 3 = .ok (.invokevirtual 184, 3) := by decide +kernel
theorem dL_armigerShare_11 : decode cL_armigerShare 11 = .ok (.astore_n 2, 1) := by decide +kernel
theorem dL_armigerShare_12 : decode cL_armigerShare 12 = .ok (.iconst 1, 1) := by decide +kernel
theorem dL_armigerShare_13 : decode cL_armigerShare 13 = .ok (.ireturn, 1) := by decide +kernel
theorem dL_assume_0 : decode cL_assume 0 = .ok (.aload_n 3, 1) := by decide +kernel
theorem dL_assume_1 : decode cL_assume 1 = .ok (.iconst 0, 1) := by decide +kernel
theorem dL_assume_2 : decode cL_assume 2 = .ok (.aload_n 0, 1) := by decide +kernel
theorem dL_assume_3 : decode cL_assume 3 = .ok (.iload_n 1, 1) := by decide +kernel
theorem dL_assume_4 : decode cL_assume 4 = .ok (.iload_n 2, 1) := by decide +kernel
theorem dL_assume_5 : decode cL_assume 5 = .ok (.invokevirtual 83, 3) := by decide +kernel
theorem dL_assume_13 : decode cL_assume 13 = .ok (.astore 4, 2) := by decide +kernel
theorem dL_assume_15 : decode cL_assume 15 = .ok (.iconst 1, 1) := by decide +kernel
theorem dL_assume_16 : decode cL_assume 16 = .ok (.ireturn, 1) := by decide +kernel
theorem dL_augment_0 : decode cL_augment 0 = .ok (.aload 5, 2) := by decide +kernel
theorem dL_augment_2 : decode cL_augment 2 = .ok (.iconst 0, 1) := by decide +kernel
theorem dL_augment_3 : decode cL_augment 3 = .ok (.aload_n 0, 1) := by decide +kernel
theorem dL_augment_4 : decode cL_augment 4 = .ok (.iload_n 1, 1) := by decide +kernel
theorem dL_augment_5 : decode cL_augment 5 = .ok (.iload_n 2, 1) := by decide +kernel
theorem dL_augment_6 : decode cL_augment 6 = .ok (.iload_n 3, 1) := by decide +kernel
theorem dL_augment_7 : decode cL_augment 7 = .ok (.iload 4, 2) := by decide +kernel
theorem dL_augment_9 : decode cL_augment 9 = .ok (.invokevirtual 176, 3) := by decide +kernel
theorem dL_augment_24 : decode cL_augment 24 = .ok (.astore 6, 2) := by decide +kernel
theorem dL_augment_26 : decode cL_augment 26 = .ok (.iconst 1, 1) := by decide +kernel
theorem dL_augment_27 : decode cL_augment 27 = .ok (.ireturn, 1) := by decide +kernel
theorem dL_bearers_0 : decode cL_bearers 0 = .ok (.aload_n 2, 1) := by decide +kernel
theorem dL_bearers_1 : decode cL_bearers 1 = .ok (.iconst 0, 1) := by decide +kernel
theorem dL_bearers_2 : decode cL_bearers 2 = .ok (.aload_n 0, 1) := by decide +kernel
theorem dL_bearers_3 : decode cL_bearers 3 = .ok (.iload_n 1, 1) := by decide +kernel
theorem dL_bearers_4 : decode cL_bearers 4 = .ok (.invokevirtual 111, 3) := by decide +kernel
theorem dL_bearers_12 : decode cL_bearers 12 = .ok (.astore_n 3, 1) := by decide +kernel
theorem dL_bearers_13 : decode cL_bearers 13 = .ok (.iconst 1, 1) := by decide +kernel
theorem dL_bearers_14 : decode cL_bearers 14 = .ok (.ireturn, 1) := by decide +kernel
theorem dL_birth_0 : decode cL_birth 0 = .ok (.aload 4, 2) := by decide +kernel
theorem dL_birth_2 : decode cL_birth 2 = .ok (.iconst 0, 1) := by decide +kernel
theorem dL_birth_3 : decode cL_birth 3 = .ok (.aload_n 0, 1) := by decide +kernel
theorem dL_birth_4 : decode cL_birth 4 = .ok (.iload_n 1, 1) := by decide +kernel
theorem dL_birth_5 : decode cL_birth 5 = .ok (.iload_n 2, 1) := by decide +kernel
theorem dL_birth_6 : decode cL_birth 6 = .ok (.iload_n 3, 1) := by decide +kernel
theorem dL_birth_7 : decode cL_birth 7 = .ok (.invokevirtual 56, 3) := by decide +kernel
theorem dL_birth_10 : decode cL_birth 10 = .ok (.i2l, 1) := by decide +kernel
theorem dL_birth_11 : decode cL_birth 11 = .ok (.lastore, 1) := by decide +kernel
theorem dL_birth_12 : decode cL_birth 12 = .ok (.goto 15, 3) := by decide +kernel
theorem dL_birth_15 : decode cL_birth 15 = .ok (.astore 5, 2) := by decide +kernel
theorem dL_birth_17 : decode cL_birth 17 = .ok (.iconst 1, 1) := by decide +kernel
theorem dL_birth_18 : decode cL_birth 18 = .ok (.ireturn, 1) := by decide +kernel
theorem dL_birth_27 : decode cL_birth 27 = .ok (.iconst 0, 1) := by decide +kernel
theorem dL_birth_28 : decode cL_birth 28 = .ok (.ireturn, 1) := by decide +kernel
theorem dL_borne_0 : decode cL_borne 0 = .ok (.aload_n 2, 1) := by decide +kernel
theorem dL_borne_1 : decode cL_borne 1 = .ok (.iconst 0, 1) := by decide +kernel
theorem dL_borne_2 : decode cL_borne 2 = .ok (.aload_n 0, 1) := by decide +kernel
theorem dL_borne_3 : decode cL_borne 3 = .ok (.iload_n 1, 1) := by decide +kernel
theorem dL_borne_4 : decode cL_borne 4 = .ok (.invokevirtual 93, 3) := by decide +kernel
theorem dL_borne_12 : decode cL_borne 12 = .ok (.astore_n 3, 1) := by decide +kernel
theorem dL_borne_13 : decode cL_borne 13 = .ok (.iconst 1, 1) := by decide +kernel
theorem dL_borne_14 : decode cL_borne 14 = .ok (.ireturn, 1) := by decide +kernel
theorem dL_breaks_0 : decode cL_breaks 0 = .ok (.aload_n 1, 1) := by decide +kernel
theorem dL_breaks_1 : decode cL_breaks 1 = .ok (.iconst 0, 1) := by decide +kernel
theorem dL_breaks_2 : decode cL_breaks 2 = .ok (.aload_n 0, 1) := by decide +kernel
theorem dL_breaks_3 : decode cL_breaks 3 = .ok (.invokevirtual 28, 3) := by decide +kernel
theorem dL_breaks_11 : decode cL_breaks 11 = .ok (.astore_n 2, 1) := by decide +kernel
theorem dL_breaks_12 : decode cL_breaks 12 = .ok (.iconst 1, 1) := by decide +kernel
theorem dL_breaks_13 : decode cL_breaks 13 = .ok (.ireturn, 1) := by decide +kernel
theorem dL_call_0 : decode cL_call 0 = .ok (.aload_n 3, 1) := by decide +kernel
theorem dL_call_1 : decode cL_call 1 = .ok (.iconst 0, 1) := by decide +kernel
theorem dL_call_2 : decode cL_call 2 = .ok (.aload_n 0, 1) := by decide +kernel
theorem dL_call_3 : decode cL_call 3 = .ok (.iload_n 1, 1) := by decide +kernel
theorem dL_call_4 : decode cL_call 4 = .ok (.iload_n 2, 1) := by decide +kernel
theorem dL_call_5 : decode cL_call 5 = .ok (.invokevirtual 105, 3) := by decide +kernel
theorem dL_call_13 : decode cL_call 13 = .ok (.astore 4, 2) := by decide +kernel
theorem dL_call_15 : decode cL_call 15 = .ok (.iconst 1, 1) := by decide +kernel
theorem dL_call_16 : decode cL_call 16 = .ok (.ireturn, 1) := by decide +kernel
theorem dL_cameBy_0 : decode cL_cameBy 0 = .ok (.aload_n 2, 1) := by decide +kernel
theorem dL_cameBy_1 : decode cL_cameBy 1 = .ok (.iconst 0, 1) := by decide +kernel
theorem dL_cameBy_2 : decode cL_cameBy 2 = .ok (.aload_n 0, 1) := by decide +kernel
theorem dL_cameBy_3 : decode cL_cameBy 3 = .ok (.iload_n 1, 1) := by decide +kernel
theorem dL_cameBy_4 : decode cL_cameBy 4 = .ok (.invokevirtual 86, 3) := by decide +kernel
theorem dL_cameBy_12 : decode cL_cameBy 12 = .ok (.astore_n 3, 1) := by decide +kernel
theorem dL_cameBy_13 : decode cL_cameBy 13 = .ok (.iconst 1, 1) := by decide +kernel
theorem dL_cameBy_14 : decode cL_cameBy 14 = .ok (.ireturn, 1) := by decide +kernel
theorem dL_conflicts_0 : decode cL_conflicts 0 = .ok (.aload_n 3, 1) := by decide +kernel
theorem dL_conflicts_1 : decode cL_conflicts 1 = .ok (.iconst 0, 1) := by decide +kernel
theorem dL_conflicts_2 : decode cL_conflicts 2 = .ok (.aload_n 0, 1) := by decide +kernel
theorem dL_conflicts_3 : decode cL_conflicts 3 = .ok (.iload_n 1, 1) := by decide +kernel
theorem dL_conflicts_4 : decode cL_conflicts 4 = .ok (.iload_n 2, 1) := by decide +kernel
theorem dL_conflicts_5 : decode cL_conflicts 5 = .ok (.invokevirtual 139, 3) := by decide +kernel
theorem dL_conflicts_13 : decode cL_conflicts 13 = .ok (.astore 4, 2) := by decide +kernel
theorem dL_conflicts_15 : decode cL_conflicts 15 = .ok (.iconst 1, 1) := by decide +kernel
theorem dL_conflicts_16 : decode cL_conflicts 16 = .ok (.ireturn, 1) := by decide +kernel
theorem dL_crest_0 : decode cL_crest 0 = .ok (.aload_n 2, 1) := by decide +kernel
theorem dL_crest_1 : decode cL_crest 1 = .ok (.iconst 0, 1) := by decide +kernel
theorem dL_crest_2 : decode cL_crest 2 = .ok (.aload_n 0, 1) := by decide +kernel
theorem dL_crest_3 : decode cL_crest 3 = .ok (.iload_n 1, 1) := by decide +kernel
theorem dL_crest_4 : decode cL_crest 4 = .ok (.invokevirtual 166, 3) := by decide +kernel
theorem dL_crest_12 : decode cL_crest 12 = .ok (.astore_n 3, 1) := by decide +kernel
theorem dL_crest_13 : decode cL_crest 13 = .ok (.iconst 1, 1) := by decide +kernel
theorem dL_crest_14 : decode cL_crest 14 = .ok (.ireturn, 1) := by decide +kernel
theorem dL_death_0 : decode cL_death 0 = .ok (.aload_n 2, 1) := by decide +kernel
theorem dL_death_1 : decode cL_death 1 = .ok (.iconst 0, 1) := by decide +kernel
theorem dL_death_2 : decode cL_death 2 = .ok (.aload_n 0, 1) := by decide +kernel
theorem dL_death_3 : decode cL_death 3 = .ok (.iload_n 1, 1) := by decide +kernel
theorem dL_death_4 : decode cL_death 4 = .ok (.invokevirtual 60, 3) := by decide +kernel
theorem dL_death_12 : decode cL_death 12 = .ok (.astore_n 3, 1) := by decide +kernel
theorem dL_death_13 : decode cL_death 13 = .ok (.iconst 1, 1) := by decide +kernel
theorem dL_death_14 : decode cL_death 14 = .ok (.ireturn, 1) := by decide +kernel
theorem dL_difference_0 : decode cL_difference 0 = .ok (.aload_n 3, 1) := by decide +kernel
theorem dL_difference_1 : decode cL_difference 1 = .ok (.iconst 0, 1) := by decide +kernel
theorem dL_difference_2 : decode cL_difference 2 = .ok (.aload_n 0, 1) := by decide +kernel
theorem dL_difference_3 : decode cL_difference 3 = .ok (.iload_n 1, 1) := by decide +kernel
theorem dL_difference_4 : decode cL_difference 4 = .ok (.iload_n 2, 1) := by decide +kernel
theorem dL_difference_5 : decode cL_difference 5 = .ok (.invokevirtual 99, 3) := by decide +kernel
theorem dL_difference_13 : decode cL_difference 13 = .ok (.astore 4, 2) := by decide +kernel
theorem dL_difference_15 : decode cL_difference 15 = .ok (.iconst 1, 1) := by decide +kernel
theorem dL_difference_16 : decode cL_difference 16 = .ok (.ireturn, 1) := by decide +kernel
theorem dL_differences_0 : decode cL_differences 0 = .ok (.aload_n 2, 1) := by decide +kernel
theorem dL_differences_1 : decode cL_differences 1 = .ok (.iconst 0, 1) := by decide +kernel
theorem dL_differences_2 : decode cL_differences 2 = .ok (.aload_n 0, 1) := by decide +kernel
theorem dL_differences_3 : decode cL_differences 3 = .ok (.iload_n 1, 1) := by decide +kernel
theorem dL_differences_4 : decode cL_differences 4 = .ok (.invokevirtual 96, 3) := by decide +kernel
theorem dL_differences_12 : decode cL_differences 12 = .ok (.astore_n 3, 1) := by decide +kernel
theorem dL_differences_13 : decode cL_differences 13 = .ok (.iconst 1, 1) := by decide +kernel
theorem dL_differences_14 : decode cL_differences 14 = .ok (.ireturn, 1) := by decide +kernel
theorem dL_distance_0 : decode cL_distance 0 = .ok (.aload_n 3, 1) := by decide +kernel
theorem dL_distance_1 : decode cL_distance 1 = .ok (.iconst 0, 1) := by decide +kernel
theorem dL_distance_2 : decode cL_distance 2 = .ok (.aload_n 0, 1) := by decide +kernel
theorem dL_distance_3 : decode cL_distance 3 = .ok (.iload_n 1, 1) := by decide +kernel
theorem dL_distance_4 : decode cL_distance 4 = .ok (.iload_n 2, 1) := by decide +kernel
theorem dL_distance_5 : decode cL_distance 5 = .ok (.invokevirtual 133, 3) := by decide +kernel
theorem dL_distance_13 : decode cL_distance 13 = .ok (.astore 4, 2) := by decide +kernel
theorem dL_distance_15 : decode cL_distance 15 = .ok (.iconst 1, 1) := by decide +kernel
theorem dL_distance_16 : decode cL_distance 16 = .ok (.ireturn, 1) := by decide +kernel
theorem dL_drawn_0 : decode cL_drawn 0 = .ok (.aload_n 3, 1) := by decide +kernel
theorem dL_drawn_1 : decode cL_drawn 1 = .ok (.iconst 0, 1) := by decide +kernel
theorem dL_drawn_2 : decode cL_drawn 2 = .ok (.aload_n 0, 1) := by decide +kernel
theorem dL_drawn_3 : decode cL_drawn 3 = .ok (.iload_n 1, 1) := by decide +kernel
theorem dL_drawn_4 : decode cL_drawn 4 = .ok (.iload_n 2, 1) := by decide +kernel
theorem dL_drawn_5 : decode cL_drawn 5 = .ok (.invokevirtual 32, 3) := by decide +kernel
theorem dL_drawn_13 : decode cL_drawn 13 = .ok (.astore 4, 2) := by decide +kernel
theorem dL_drawn_15 : decode cL_drawn 15 = .ok (.iconst 1, 1) := by decide +kernel
theorem dL_drawn_16 : decode cL_drawn 16 = .ok (.ireturn, 1) := by decide +kernel
theorem dL_fewest_0 : decode cL_fewest 0 = .ok (.aload_n 1, 1) := by decide +kernel
theorem dL_fewest_1 : decode cL_fewest 1 = .ok (.iconst 0, 1) := by decide +kernel
theorem dL_fewest_2 : decode cL_fewest 2 = .ok (.aload_n 0, 1) := by decide +kernel
theorem dL_fewest_3 : decode cL_fewest 3 = .ok (.invokevirtual 41, 3) := by decide +kernel
theorem dL_fewest_11 : decode cL_fewest 11 = .ok (.astore_n 2, 1) := by decide +kernel
theorem dL_fewest_12 : decode cL_fewest 12 = .ok (.iconst 1, 1) := by decide +kernel
theorem dL_fewest_13 : decode cL_fewest 13 = .ok (.ireturn, 1) := by decide +kernel
theorem dL_fewestAt_0 : decode cL_fewestAt 0 = .ok (.aload_n 2, 1) := by decide +kernel
theorem dL_fewestAt_1 : decode cL_fewestAt 1 = .ok (.iconst 0, 1) := by decide +kernel
theorem dL_fewestAt_2 : decode cL_fewestAt 2 = .ok (.aload_n 0, 1) := by decide +kernel
theorem dL_fewestAt_3 : decode cL_fewestAt 3 = .ok (.iload_n 1, 1) := by decide +kernel
theorem dL_fewestAt_4 : decode cL_fewestAt 4 = .ok (.invokevirtual 44, 3) := by decide +kernel
theorem dL_fewestAt_12 : decode cL_fewestAt 12 = .ok (.astore_n 3, 1) := by decide +kernel
theorem dL_fewestAt_13 : decode cL_fewestAt 13 = .ok (.iconst 1, 1) := by decide +kernel
theorem dL_fewestAt_14 : decode cL_fewestAt 14 = .ok (.ireturn, 1) := by decide +kernel
theorem dL_grant_0 : decode cL_grant 0 = .ok (.aload_n 3, 1) := by decide +kernel
theorem dL_grant_1 : decode cL_grant 1 = .ok (.iconst 0, 1) := by decide +kernel
theorem dL_grant_2 : decode cL_grant 2 = .ok (.aload_n 0, 1) := by decide +kernel
theorem dL_grant_3 : decode cL_grant 3 = .ok (.iload_n 1, 1) := by decide +kernel
theorem dL_grant_4 : decode cL_grant 4 = .ok (.iload_n 2, 1) := by decide +kernel
theorem dL_grant_5 : decode cL_grant 5 = .ok (.invokevirtual 80, 3) := by decide +kernel
theorem dL_grant_13 : decode cL_grant 13 = .ok (.astore 4, 2) := by decide +kernel
theorem dL_grant_15 : decode cL_grant 15 = .ok (.iconst 1, 1) := by decide +kernel
theorem dL_grant_16 : decode cL_grant 16 = .ok (.ireturn, 1) := by decide +kernel
theorem dL_isExtinct_0 : decode cL_isExtinct 0 = .ok (.aload_n 2, 1) := by decide +kernel
theorem dL_isExtinct_1 : decode cL_isExtinct 1 = .ok (.iconst 0, 1) := by decide +kernel
theorem dL_isExtinct_2 : decode cL_isExtinct 2 = .ok (.aload_n 0, 1) := by decide +kernel
theorem dL_isExtinct_3 : decode cL_isExtinct 3 = .ok (.iload_n 1, 1) := by decide +kernel
theorem dL_isExtinct_4 : decode cL_isExtinct 4 = .ok (.invokevirtual 108, 3) := by decide +kernel
theorem dL_isExtinct_19 : decode cL_isExtinct 19 = .ok (.astore_n 3, 1) := by decide +kernel
theorem dL_isExtinct_20 : decode cL_isExtinct 20 = .ok (.iconst 1, 1) := by decide +kernel
theorem dL_isExtinct_21 : decode cL_isExtinct 21 = .ok (.ireturn, 1) := by decide +kernel
theorem dL_isHeiress_0 : decode cL_isHeiress 0 = .ok (.aload_n 2, 1) := by decide +kernel
theorem dL_isHeiress_1 : decode cL_isHeiress 1 = .ok (.iconst 0, 1) := by decide +kernel
theorem dL_isHeiress_2 : decode cL_isHeiress 2 = .ok (.aload_n 0, 1) := by decide +kernel
theorem dL_isHeiress_3 : decode cL_isHeiress 3 = .ok (.iload_n 1, 1) := by decide +kernel
theorem dL_isHeiress_4 : decode cL_isHeiress 4 = .ok (.invokevirtual 74, 3) := by decide +kernel
theorem dL_isHeiress_19 : decode cL_isHeiress 19 = .ok (.astore_n 3, 1) := by decide +kernel
theorem dL_isHeiress_20 : decode cL_isHeiress 20 = .ok (.iconst 1, 1) := by decide +kernel
theorem dL_isHeiress_21 : decode cL_isHeiress 21 = .ok (.ireturn, 1) := by decide +kernel
theorem dL_isInAbeyance_0 : decode cL_isInAbeyance 0 = .ok (.aload_n 2, 1) := by decide +kernel
theorem dL_isInAbeyance_1 : decode cL_isInAbeyance 1 = .ok (.iconst 0, 1) := by decide +kernel
theorem dL_isInAbeyance_2 : decode cL_isInAbeyance 2 = .ok (.aload_n 0, 1) := by decide +kernel
theorem dL_isInAbeyance_3 : decode cL_isInAbeyance 3 = .ok (.iload_n 1, 1) := by decide +kernel
theorem dL_isInAbeyance_4 : decode cL_isInAbeyance 4 = .ok (.invokevirtual 102, 3) := by decide +kernel
theorem dL_isInAbeyance_19 : decode cL_isInAbeyance 19 = .ok (.astore_n 3, 1) := by decide +kernel
theorem dL_isInAbeyance_20 : decode cL_isInAbeyance 20 = .ok (.iconst 1, 1) := by decide +kernel
theorem dL_isInAbeyance_21 : decode cL_isInAbeyance 21 = .ok (.ireturn, 1) := by decide +kernel
theorem dL_judged_0 : decode cL_judged 0 = .ok (.aload_n 2, 1) := by decide +kernel
theorem dL_judged_1 : decode cL_judged 1 = .ok (.iconst 0, 1) := by decide +kernel
theorem dL_judged_2 : decode cL_judged 2 = .ok (.aload_n 0, 1) := by decide +kernel
theorem dL_judged_3 : decode cL_judged 3 = .ok (.iload_n 1, 1) := by decide +kernel
theorem dL_judged_4 : decode cL_judged 4 = .ok (.invokevirtual 148, 3) := by decide +kernel
theorem dL_judged_12 : decode cL_judged 12 = .ok (.astore_n 3, 1) := by decide +kernel
theorem dL_judged_13 : decode cL_judged 13 = .ok (.iconst 1, 1) := by decide +kernel
theorem dL_judged_14 : decode cL_judged 14 = .ok (.ireturn, 1) := by decide +kernel
theorem dL_law_0 : decode cL_law 0 = .ok (.new 8, 3) := by decide +kernel
theorem dL_law_3 : decode cL_law 3 = .ok (.dup, 1) := by decide +kernel
theorem dL_law_4 : decode cL_law 4 = .ok (.invokespecial 194, 3) := by decide +kernel
theorem dL_law_7 : decode cL_law 7 = .ok (.astore_n 1, 1) := by decide +kernel
theorem dL_law_8 : decode cL_law 8 = .ok (.new 195, 3) := by decide +kernel
theorem dL_law_11 : decode cL_law 11 = .ok (.dup, 1) := by decide +kernel
theorem dL_law_12 : decode cL_law 12 = .ok (.invokespecial 197, 3) := by decide +kernel
theorem dL_law_15 : decode cL_law 15 = .ok (.astore_n 2, 1) := by decide +kernel
theorem dL_law_16 : decode cL_law 16 = .ok (.iconst 1, 1) := by decide +kernel
theorem dL_law_17 : decode cL_law 17 = .ok (.newarray .long, 2) := by decide +kernel
theorem dL_law_19 : decode cL_law 19 = .ok (.astore_n 3, 1) := by decide +kernel
theorem dL_law_20 : decode cL_law 20 = .ok (.iconst 1, 1) := by decide +kernel
theorem dL_law_21 : decode cL_law 21 = .ok (.newarray .double, 2) := by decide +kernel
theorem dL_law_23 : decode cL_law 23 = .ok (.astore 4, 2) := by decide +kernel
theorem dL_law_25 : decode cL_law 25 = .ok (.iconst 0, 1) := by decide +kernel
theorem dL_law_26 : decode cL_law 26 = .ok (.istore 5, 2) := by decide +kernel
theorem dL_law_308 : decode cL_law 308 = .ok (.aload_n 1, 1) := by decide +kernel
theorem dL_law_309 : decode cL_law 309 = .ok (.aload_n 0, 1) := by decide +kernel
theorem dL_law_310 : decode cL_law 310 = .ok (.iload 5, 2) := by decide +kernel
theorem dL_law_312 : decode cL_law 312 = .ok (.iconst 1, 1) := by decide +kernel
theorem dL_law_313 : decode cL_law 313 = .ok (.iadd, 1) := by decide +kernel
theorem dL_law_314 : decode cL_law 314 = .ok (.iaload, 1) := by decide +kernel
theorem dL_law_315 : decode cL_law 315 = .ok (.aload_n 3, 1) := by decide +kernel
theorem dL_law_316 : decode cL_law 316 = .ok (.invokestatic 198, 3) := by decide +kernel
theorem dL_law_319 : decode cL_law 319 = .ok (.istore 6, 2) := by decide +kernel
theorem dL_law_321 : decode cL_law 321 = .ok (.aload_n 2, 1) := by decide +kernel
theorem dL_law_322 : decode cL_law 322 = .ok (.aload_n 0, 1) := by decide +kernel
theorem dL_law_323 : decode cL_law 323 = .ok (.iload 5, 2) := by decide +kernel
theorem dL_law_325 : decode cL_law 325 = .ok (.iconst 1, 1) := by decide +kernel
theorem dL_law_326 : decode cL_law 326 = .ok (.iadd, 1) := by decide +kernel
theorem dL_law_327 : decode cL_law 327 = .ok (.iaload, 1) := by decide +kernel
theorem dL_law_328 : decode cL_law 328 = .ok (.invokevirtual 203, 3) := by decide +kernel
theorem dL_law_331 : decode cL_law 331 = .ok (.istore 7, 2) := by decide +kernel
theorem dL_law_333 : decode cL_law 333 = .ok (.aload_n 2, 1) := by decide +kernel
theorem dL_law_334 : decode cL_law 334 = .ok (.invokevirtual 204, 3) := by decide +kernel
theorem dL_law_337 : decode cL_law 337 = .ok (.iload 6, 2) := by decide +kernel
theorem dL_law_339 : decode cL_law 339 = .ok (.if_icmp .eq 5, 3) := by decide +kernel
theorem dL_law_344 : decode cL_law 344 = .ok (.iload 6, 2) := by decide +kernel
theorem dL_law_346 : decode cL_law 346 = .ok (.ifCond .ne 15, 3) := by decide +kernel
theorem dL_law_349 : decode cL_law 349 = .ok (.aload_n 3, 1) := by decide +kernel
theorem dL_law_350 : decode cL_law 350 = .ok (.iconst 0, 1) := by decide +kernel
theorem dL_law_351 : decode cL_law 351 = .ok (.laload, 1) := by decide +kernel
theorem dL_law_352 : decode cL_law 352 = .ok (.iload 7, 2) := by decide +kernel
theorem dL_law_354 : decode cL_law 354 = .ok (.i2l, 1) := by decide +kernel
theorem dL_law_355 : decode cL_law 355 = .ok (.lcmp, 1) := by decide +kernel
theorem dL_law_356 : decode cL_law 356 = .ok (.ifCond .eq 5, 3) := by decide +kernel
theorem dL_law_361 : decode cL_law 361 = .ok (.goto 3539, 3) := by decide +kernel
theorem dL_law_364 : decode cL_law 364 = .ok (.aload_n 1, 1) := by decide +kernel
theorem dL_law_365 : decode cL_law 365 = .ok (.invokevirtual 207, 3) := by decide +kernel
theorem dL_law_368 : decode cL_law 368 = .ok (.aload_n 2, 1) := by decide +kernel
theorem dL_law_369 : decode cL_law 369 = .ok (.invokevirtual 210, 3) := by decide +kernel
theorem dL_law_372 : decode cL_law 372 = .ok (.if_icmp .eq 3528, 3) := by decide +kernel
theorem dL_law_377 : decode cL_law 377 = .ok (.aload_n 1, 1) := by decide +kernel
theorem dL_law_378 : decode cL_law 378 = .ok (.invokevirtual 211, 3) := by decide +kernel
theorem dL_law_381 : decode cL_law 381 = .ok (.aload_n 2, 1) := by decide +kernel
theorem dL_law_382 : decode cL_law 382 = .ok (.invokevirtual 214, 3) := by decide +kernel
theorem dL_law_385 : decode cL_law 385 = .ok (.if_icmp .eq 3515, 3) := by decide +kernel
theorem dL_law_390 : decode cL_law 390 = .ok (.aload_n 1, 1) := by decide +kernel
theorem dL_law_391 : decode cL_law 391 = .ok (.aload_n 0, 1) := by decide +kernel
theorem dL_law_392 : decode cL_law 392 = .ok (.iload 5, 2) := by decide +kernel
theorem dL_law_394 : decode cL_law 394 = .ok (.iconst 1, 1) := by decide +kernel
theorem dL_law_395 : decode cL_law 395 = .ok (.iadd, 1) := by decide +kernel
theorem dL_law_396 : decode cL_law 396 = .ok (.iaload, 1) := by decide +kernel
theorem dL_law_397 : decode cL_law 397 = .ok (.aload_n 0, 1) := by decide +kernel
theorem dL_law_398 : decode cL_law 398 = .ok (.iload 5, 2) := by decide +kernel
theorem dL_law_400 : decode cL_law 400 = .ok (.iconst 2, 1) := by decide +kernel
theorem dL_law_401 : decode cL_law 401 = .ok (.iadd, 1) := by decide +kernel
theorem dL_law_402 : decode cL_law 402 = .ok (.iaload, 1) := by decide +kernel
theorem dL_law_403 : decode cL_law 403 = .ok (.aload_n 3, 1) := by decide +kernel
theorem dL_law_404 : decode cL_law 404 = .ok (.invokestatic 215, 3) := by decide +kernel
theorem dL_law_407 : decode cL_law 407 = .ok (.istore 6, 2) := by decide +kernel
theorem dL_law_409 : decode cL_law 409 = .ok (.aload_n 2, 1) := by decide +kernel
theorem dL_law_410 : decode cL_law 410 = .ok (.aload_n 0, 1) := by decide +kernel
theorem dL_law_411 : decode cL_law 411 = .ok (.iload 5, 2) := by decide +kernel
theorem dL_law_413 : decode cL_law 413 = .ok (.iconst 1, 1) := by decide +kernel
theorem dL_law_414 : decode cL_law 414 = .ok (.iadd, 1) := by decide +kernel
theorem dL_law_415 : decode cL_law 415 = .ok (.iaload, 1) := by decide +kernel
theorem dL_law_416 : decode cL_law 416 = .ok (.aload_n 0, 1) := by decide +kernel
theorem dL_law_417 : decode cL_law 417 = .ok (.iload 5, 2) := by decide +kernel
theorem dL_law_419 : decode cL_law 419 = .ok (.iconst 2, 1) := by decide +kernel
theorem dL_law_420 : decode cL_law 420 = .ok (.iadd, 1) := by decide +kernel
theorem dL_law_421 : decode cL_law 421 = .ok (.iaload, 1) := by decide +kernel
theorem dL_law_422 : decode cL_law 422 = .ok (.invokevirtual 218, 3) := by decide +kernel
theorem dL_law_425 : decode cL_law 425 = .ok (.istore 7, 2) := by decide +kernel
theorem dL_law_427 : decode cL_law 427 = .ok (.aload_n 2, 1) := by decide +kernel
theorem dL_law_428 : decode cL_law 428 = .ok (.invokevirtual 204, 3) := by decide +kernel
theorem dL_law_431 : decode cL_law 431 = .ok (.iload 6, 2) := by decide +kernel
theorem dL_law_433 : decode cL_law 433 = .ok (.if_icmp .eq 5, 3) := by decide +kernel
theorem dL_law_438 : decode cL_law 438 = .ok (.iload 6, 2) := by decide +kernel
theorem dL_law_440 : decode cL_law 440 = .ok (.ifCond .ne 15, 3) := by decide +kernel
theorem dL_law_455 : decode cL_law 455 = .ok (.goto 3445, 3) := by decide +kernel
theorem dL_law_458 : decode cL_law 458 = .ok (.aload_n 1, 1) := by decide +kernel
theorem dL_law_459 : decode cL_law 459 = .ok (.aload_n 0, 1) := by decide +kernel
theorem dL_law_460 : decode cL_law 460 = .ok (.iload 5, 2) := by decide +kernel
theorem dL_law_462 : decode cL_law 462 = .ok (.iconst 1, 1) := by decide +kernel
theorem dL_law_463 : decode cL_law 463 = .ok (.iadd, 1) := by decide +kernel
theorem dL_law_464 : decode cL_law 464 = .ok (.iaload, 1) := by decide +kernel
theorem dL_law_465 : decode cL_law 465 = .ok (.aload_n 0, 1) := by decide +kernel
theorem dL_law_466 : decode cL_law 466 = .ok (.iload 5, 2) := by decide +kernel
theorem dL_law_468 : decode cL_law 468 = .ok (.iconst 2, 1) := by decide +kernel
theorem dL_law_469 : decode cL_law 469 = .ok (.iadd, 1) := by decide +kernel
theorem dL_law_470 : decode cL_law 470 = .ok (.iaload, 1) := by decide +kernel
theorem dL_law_471 : decode cL_law 471 = .ok (.aload_n 3, 1) := by decide +kernel
theorem dL_law_472 : decode cL_law 472 = .ok (.invokestatic 219, 3) := by decide +kernel
theorem dL_law_475 : decode cL_law 475 = .ok (.istore 6, 2) := by decide +kernel
theorem dL_law_477 : decode cL_law 477 = .ok (.aload_n 2, 1) := by decide +kernel
theorem dL_law_478 : decode cL_law 478 = .ok (.aload_n 0, 1) := by decide +kernel
theorem dL_law_479 : decode cL_law 479 = .ok (.iload 5, 2) := by decide +kernel
theorem dL_law_481 : decode cL_law 481 = .ok (.iconst 1, 1) := by decide +kernel
theorem dL_law_482 : decode cL_law 482 = .ok (.iadd, 1) := by decide +kernel
theorem dL_law_483 : decode cL_law 483 = .ok (.iaload, 1) := by decide +kernel
theorem dL_law_484 : decode cL_law 484 = .ok (.aload_n 0, 1) := by decide +kernel
theorem dL_law_485 : decode cL_law 485 = .ok (.iload 5, 2) := by decide +kernel
theorem dL_law_487 : decode cL_law 487 = .ok (.iconst 2, 1) := by decide +kernel
theorem dL_law_488 : decode cL_law 488 = .ok (.iadd, 1) := by decide +kernel
theorem dL_law_489 : decode cL_law 489 = .ok (.iaload, 1) := by decide +kernel
theorem dL_law_490 : decode cL_law 490 = .ok (.invokevirtual 221, 3) := by decide +kernel
theorem dL_law_493 : decode cL_law 493 = .ok (.istore 7, 2) := by decide +kernel
theorem dL_law_495 : decode cL_law 495 = .ok (.aload_n 2, 1) := by decide +kernel
theorem dL_law_496 : decode cL_law 496 = .ok (.invokevirtual 204, 3) := by decide +kernel
theorem dL_law_499 : decode cL_law 499 = .ok (.iload 6, 2) := by decide +kernel
theorem dL_law_501 : decode cL_law 501 = .ok (.if_icmp .eq 5, 3) := by decide +kernel
theorem dL_law_506 : decode cL_law 506 = .ok (.iload 6, 2) := by decide +kernel
theorem dL_law_508 : decode cL_law 508 = .ok (.ifCond .ne 15, 3) := by decide +kernel
theorem dL_law_523 : decode cL_law 523 = .ok (.goto 3377, 3) := by decide +kernel
theorem dL_law_526 : decode cL_law 526 = .ok (.aload_n 1, 1) := by decide +kernel
theorem dL_law_527 : decode cL_law 527 = .ok (.aload_n 3, 1) := by decide +kernel
theorem dL_law_528 : decode cL_law 528 = .ok (.invokestatic 222, 3) := by decide +kernel
theorem dL_law_531 : decode cL_law 531 = .ok (.istore 6, 2) := by decide +kernel
theorem dL_law_533 : decode cL_law 533 = .ok (.aload_n 2, 1) := by decide +kernel
theorem dL_law_534 : decode cL_law 534 = .ok (.invokevirtual 225, 3) := by decide +kernel
theorem dL_law_537 : decode cL_law 537 = .ok (.istore 7, 2) := by decide +kernel
theorem dL_law_539 : decode cL_law 539 = .ok (.aload_n 2, 1) := by decide +kernel
theorem dL_law_540 : decode cL_law 540 = .ok (.invokevirtual 204, 3) := by decide +kernel
theorem dL_law_543 : decode cL_law 543 = .ok (.iload 6, 2) := by decide +kernel
theorem dL_law_545 : decode cL_law 545 = .ok (.if_icmp .eq 5, 3) := by decide +kernel
theorem dL_law_550 : decode cL_law 550 = .ok (.iload 6, 2) := by decide +kernel
theorem dL_law_552 : decode cL_law 552 = .ok (.ifCond .ne 15, 3) := by decide +kernel
theorem dL_law_567 : decode cL_law 567 = .ok (.goto 3333, 3) := by decide +kernel
theorem dL_law_570 : decode cL_law 570 = .ok (.aload_n 1, 1) := by decide +kernel
theorem dL_law_571 : decode cL_law 571 = .ok (.aload_n 0, 1) := by decide +kernel
theorem dL_law_572 : decode cL_law 572 = .ok (.iload 5, 2) := by decide +kernel
theorem dL_law_574 : decode cL_law 574 = .ok (.iconst 1, 1) := by decide +kernel
theorem dL_law_575 : decode cL_law 575 = .ok (.iadd, 1) := by decide +kernel
theorem dL_law_576 : decode cL_law 576 = .ok (.iaload, 1) := by decide +kernel
theorem dL_law_577 : decode cL_law 577 = .ok (.aload_n 0, 1) := by decide +kernel
theorem dL_law_578 : decode cL_law 578 = .ok (.iload 5, 2) := by decide +kernel
theorem dL_law_580 : decode cL_law 580 = .ok (.iconst 2, 1) := by decide +kernel
theorem dL_law_581 : decode cL_law 581 = .ok (.iadd, 1) := by decide +kernel
theorem dL_law_582 : decode cL_law 582 = .ok (.iaload, 1) := by decide +kernel
theorem dL_law_583 : decode cL_law 583 = .ok (.ifCond .eq 7, 3) := by decide +kernel
theorem dL_law_586 : decode cL_law 586 = .ok (.iconst 1, 1) := by decide +kernel
theorem dL_law_587 : decode cL_law 587 = .ok (.goto 4, 3) := by decide +kernel
theorem dL_law_590 : decode cL_law 590 = .ok (.iconst 0, 1) := by decide +kernel
theorem dL_law_591 : decode cL_law 591 = .ok (.aload_n 3, 1) := by decide +kernel
theorem dL_law_592 : decode cL_law 592 = .ok (.invokestatic 226, 3) := by decide +kernel
theorem dL_law_595 : decode cL_law 595 = .ok (.istore 6, 2) := by decide +kernel
theorem dL_law_597 : decode cL_law 597 = .ok (.aload_n 2, 1) := by decide +kernel
theorem dL_law_598 : decode cL_law 598 = .ok (.aload_n 0, 1) := by decide +kernel
theorem dL_law_599 : decode cL_law 599 = .ok (.iload 5, 2) := by decide +kernel
theorem dL_law_601 : decode cL_law 601 = .ok (.iconst 1, 1) := by decide +kernel
theorem dL_law_602 : decode cL_law 602 = .ok (.iadd, 1) := by decide +kernel
theorem dL_law_603 : decode cL_law 603 = .ok (.iaload, 1) := by decide +kernel
theorem dL_law_604 : decode cL_law 604 = .ok (.aload_n 0, 1) := by decide +kernel
theorem dL_law_605 : decode cL_law 605 = .ok (.iload 5, 2) := by decide +kernel
theorem dL_law_607 : decode cL_law 607 = .ok (.iconst 2, 1) := by decide +kernel
theorem dL_law_608 : decode cL_law 608 = .ok (.iadd, 1) := by decide +kernel
theorem dL_law_609 : decode cL_law 609 = .ok (.iaload, 1) := by decide +kernel
theorem dL_law_610 : decode cL_law 610 = .ok (.ifCond .eq 7, 3) := by decide +kernel
theorem dL_law_613 : decode cL_law 613 = .ok (.iconst 1, 1) := by decide +kernel
theorem dL_law_614 : decode cL_law 614 = .ok (.goto 4, 3) := by decide +kernel
theorem dL_law_617 : decode cL_law 617 = .ok (.iconst 0, 1) := by decide +kernel
theorem dL_law_618 : decode cL_law 618 = .ok (.invokevirtual 229, 3) := by decide +kernel
theorem dL_law_621 : decode cL_law 621 = .ok (.istore 7, 2) := by decide +kernel
theorem dL_law_623 : decode cL_law 623 = .ok (.aload_n 2, 1) := by decide +kernel
theorem dL_law_624 : decode cL_law 624 = .ok (.invokevirtual 204, 3) := by decide +kernel
theorem dL_law_627 : decode cL_law 627 = .ok (.iload 6, 2) := by decide +kernel
theorem dL_law_629 : decode cL_law 629 = .ok (.if_icmp .eq 5, 3) := by decide +kernel
theorem dL_law_634 : decode cL_law 634 = .ok (.iload 6, 2) := by decide +kernel
theorem dL_law_636 : decode cL_law 636 = .ok (.ifCond .ne 15, 3) := by decide +kernel
theorem dL_law_651 : decode cL_law 651 = .ok (.goto 3249, 3) := by decide +kernel
theorem dL_law_654 : decode cL_law 654 = .ok (.aload_n 1, 1) := by decide +kernel
theorem dL_law_655 : decode cL_law 655 = .ok (.aload_n 0, 1) := by decide +kernel
theorem dL_law_656 : decode cL_law 656 = .ok (.iload 5, 2) := by decide +kernel
theorem dL_law_658 : decode cL_law 658 = .ok (.iconst 1, 1) := by decide +kernel
theorem dL_law_659 : decode cL_law 659 = .ok (.iadd, 1) := by decide +kernel
theorem dL_law_660 : decode cL_law 660 = .ok (.iaload, 1) := by decide +kernel
theorem dL_law_661 : decode cL_law 661 = .ok (.aload_n 3, 1) := by decide +kernel
theorem dL_law_662 : decode cL_law 662 = .ok (.invokestatic 230, 3) := by decide +kernel
theorem dL_law_665 : decode cL_law 665 = .ok (.istore 6, 2) := by decide +kernel
theorem dL_law_667 : decode cL_law 667 = .ok (.aload_n 2, 1) := by decide +kernel
theorem dL_law_668 : decode cL_law 668 = .ok (.aload_n 0, 1) := by decide +kernel
theorem dL_law_669 : decode cL_law 669 = .ok (.iload 5, 2) := by decide +kernel
theorem dL_law_671 : decode cL_law 671 = .ok (.iconst 1, 1) := by decide +kernel
theorem dL_law_672 : decode cL_law 672 = .ok (.iadd, 1) := by decide +kernel
theorem dL_law_673 : decode cL_law 673 = .ok (.iaload, 1) := by decide +kernel
theorem dL_law_674 : decode cL_law 674 = .ok (.invokevirtual 232, 3) := by decide +kernel
theorem dL_law_677 : decode cL_law 677 = .ok (.istore 7, 2) := by decide +kernel
theorem dL_law_679 : decode cL_law 679 = .ok (.aload_n 2, 1) := by decide +kernel
theorem dL_law_680 : decode cL_law 680 = .ok (.invokevirtual 204, 3) := by decide +kernel
theorem dL_law_683 : decode cL_law 683 = .ok (.iload 6, 2) := by decide +kernel
theorem dL_law_685 : decode cL_law 685 = .ok (.if_icmp .eq 5, 3) := by decide +kernel
theorem dL_law_690 : decode cL_law 690 = .ok (.iload 6, 2) := by decide +kernel
theorem dL_law_692 : decode cL_law 692 = .ok (.ifCond .ne 15, 3) := by decide +kernel
theorem dL_law_707 : decode cL_law 707 = .ok (.goto 3193, 3) := by decide +kernel
theorem dL_law_710 : decode cL_law 710 = .ok (.aload_n 1, 1) := by decide +kernel
theorem dL_law_711 : decode cL_law 711 = .ok (.aload_n 3, 1) := by decide +kernel
theorem dL_law_712 : decode cL_law 712 = .ok (.invokestatic 233, 3) := by decide +kernel
theorem dL_law_715 : decode cL_law 715 = .ok (.istore 6, 2) := by decide +kernel
theorem dL_law_717 : decode cL_law 717 = .ok (.aload_n 2, 1) := by decide +kernel
theorem dL_law_718 : decode cL_law 718 = .ok (.invokevirtual 235, 3) := by decide +kernel
theorem dL_law_721 : decode cL_law 721 = .ok (.istore 7, 2) := by decide +kernel
theorem dL_law_723 : decode cL_law 723 = .ok (.aload_n 2, 1) := by decide +kernel
theorem dL_law_724 : decode cL_law 724 = .ok (.invokevirtual 204, 3) := by decide +kernel
theorem dL_law_727 : decode cL_law 727 = .ok (.iload 6, 2) := by decide +kernel
theorem dL_law_729 : decode cL_law 729 = .ok (.if_icmp .eq 5, 3) := by decide +kernel
theorem dL_law_734 : decode cL_law 734 = .ok (.iload 6, 2) := by decide +kernel
theorem dL_law_736 : decode cL_law 736 = .ok (.ifCond .ne 15, 3) := by decide +kernel
theorem dL_law_751 : decode cL_law 751 = .ok (.goto 3149, 3) := by decide +kernel
theorem dL_law_754 : decode cL_law 754 = .ok (.aload_n 1, 1) := by decide +kernel
theorem dL_law_755 : decode cL_law 755 = .ok (.aload_n 0, 1) := by decide +kernel
theorem dL_law_756 : decode cL_law 756 = .ok (.iload 5, 2) := by decide +kernel
theorem dL_law_758 : decode cL_law 758 = .ok (.iconst 1, 1) := by decide +kernel
theorem dL_law_759 : decode cL_law 759 = .ok (.iadd, 1) := by decide +kernel
theorem dL_law_760 : decode cL_law 760 = .ok (.iaload, 1) := by decide +kernel
theorem dL_law_761 : decode cL_law 761 = .ok (.aload_n 3, 1) := by decide +kernel
theorem dL_law_762 : decode cL_law 762 = .ok (.invokestatic 236, 3) := by decide +kernel
theorem dL_law_765 : decode cL_law 765 = .ok (.istore 6, 2) := by decide +kernel
theorem dL_law_767 : decode cL_law 767 = .ok (.aload_n 2, 1) := by decide +kernel
theorem dL_law_768 : decode cL_law 768 = .ok (.aload_n 0, 1) := by decide +kernel
theorem dL_law_769 : decode cL_law 769 = .ok (.iload 5, 2) := by decide +kernel
theorem dL_law_771 : decode cL_law 771 = .ok (.iconst 1, 1) := by decide +kernel
theorem dL_law_772 : decode cL_law 772 = .ok (.iadd, 1) := by decide +kernel
theorem dL_law_773 : decode cL_law 773 = .ok (.iaload, 1) := by decide +kernel
theorem dL_law_774 : decode cL_law 774 = .ok (.invokevirtual 238, 3) := by decide +kernel
theorem dL_law_777 : decode cL_law 777 = .ok (.istore 7, 2) := by decide +kernel
theorem dL_law_779 : decode cL_law 779 = .ok (.aload_n 2, 1) := by decide +kernel
theorem dL_law_780 : decode cL_law 780 = .ok (.invokevirtual 204, 3) := by decide +kernel
theorem dL_law_783 : decode cL_law 783 = .ok (.iload 6, 2) := by decide +kernel
theorem dL_law_785 : decode cL_law 785 = .ok (.if_icmp .eq 5, 3) := by decide +kernel
theorem dL_law_790 : decode cL_law 790 = .ok (.iload 6, 2) := by decide +kernel
theorem dL_law_792 : decode cL_law 792 = .ok (.ifCond .ne 15, 3) := by decide +kernel
theorem dL_law_807 : decode cL_law 807 = .ok (.goto 3093, 3) := by decide +kernel
theorem dL_law_810 : decode cL_law 810 = .ok (.aload_n 1, 1) := by decide +kernel
theorem dL_law_811 : decode cL_law 811 = .ok (.aload_n 0, 1) := by decide +kernel
theorem dL_law_812 : decode cL_law 812 = .ok (.iload 5, 2) := by decide +kernel
theorem dL_law_814 : decode cL_law 814 = .ok (.iconst 1, 1) := by decide +kernel
theorem dL_law_815 : decode cL_law 815 = .ok (.iadd, 1) := by decide +kernel
theorem dL_law_816 : decode cL_law 816 = .ok (.iaload, 1) := by decide +kernel
theorem dL_law_817 : decode cL_law 817 = .ok (.aload_n 3, 1) := by decide +kernel
theorem dL_law_818 : decode cL_law 818 = .ok (.invokestatic 239, 3) := by decide +kernel
theorem dL_law_821 : decode cL_law 821 = .ok (.istore 6, 2) := by decide +kernel
theorem dL_law_823 : decode cL_law 823 = .ok (.aload_n 2, 1) := by decide +kernel
theorem dL_law_824 : decode cL_law 824 = .ok (.aload_n 0, 1) := by decide +kernel
theorem dL_law_825 : decode cL_law 825 = .ok (.iload 5, 2) := by decide +kernel
theorem dL_law_827 : decode cL_law 827 = .ok (.iconst 1, 1) := by decide +kernel
theorem dL_law_828 : decode cL_law 828 = .ok (.iadd, 1) := by decide +kernel
theorem dL_law_829 : decode cL_law 829 = .ok (.iaload, 1) := by decide +kernel
theorem dL_law_830 : decode cL_law 830 = .ok (.invokevirtual 241, 3) := by decide +kernel
theorem dL_law_833 : decode cL_law 833 = .ok (.istore 7, 2) := by decide +kernel
theorem dL_law_835 : decode cL_law 835 = .ok (.aload_n 2, 1) := by decide +kernel
theorem dL_law_836 : decode cL_law 836 = .ok (.invokevirtual 204, 3) := by decide +kernel
theorem dL_law_839 : decode cL_law 839 = .ok (.iload 6, 2) := by decide +kernel
theorem dL_law_841 : decode cL_law 841 = .ok (.if_icmp .eq 5, 3) := by decide +kernel
theorem dL_law_846 : decode cL_law 846 = .ok (.iload 6, 2) := by decide +kernel
theorem dL_law_848 : decode cL_law 848 = .ok (.ifCond .ne 15, 3) := by decide +kernel
theorem dL_law_863 : decode cL_law 863 = .ok (.goto 3037, 3) := by decide +kernel
theorem dL_law_866 : decode cL_law 866 = .ok (.aload_n 1, 1) := by decide +kernel
theorem dL_law_867 : decode cL_law 867 = .ok (.aload_n 0, 1) := by decide +kernel
theorem dL_law_868 : decode cL_law 868 = .ok (.iload 5, 2) := by decide +kernel
theorem dL_law_870 : decode cL_law 870 = .ok (.iconst 1, 1) := by decide +kernel
theorem dL_law_871 : decode cL_law 871 = .ok (.iadd, 1) := by decide +kernel
theorem dL_law_872 : decode cL_law 872 = .ok (.iaload, 1) := by decide +kernel
theorem dL_law_873 : decode cL_law 873 = .ok (.aload_n 0, 1) := by decide +kernel
theorem dL_law_874 : decode cL_law 874 = .ok (.iload 5, 2) := by decide +kernel
theorem dL_law_876 : decode cL_law 876 = .ok (.iconst 2, 1) := by decide +kernel
theorem dL_law_877 : decode cL_law 877 = .ok (.iadd, 1) := by decide +kernel
theorem dL_law_878 : decode cL_law 878 = .ok (.iaload, 1) := by decide +kernel
theorem dL_law_879 : decode cL_law 879 = .ok (.aload_n 3, 1) := by decide +kernel
theorem dL_law_880 : decode cL_law 880 = .ok (.invokestatic 242, 3) := by decide +kernel
theorem dL_law_883 : decode cL_law 883 = .ok (.istore 6, 2) := by decide +kernel
theorem dL_law_885 : decode cL_law 885 = .ok (.aload_n 2, 1) := by decide +kernel
theorem dL_law_886 : decode cL_law 886 = .ok (.aload_n 0, 1) := by decide +kernel
theorem dL_law_887 : decode cL_law 887 = .ok (.iload 5, 2) := by decide +kernel
theorem dL_law_889 : decode cL_law 889 = .ok (.iconst 1, 1) := by decide +kernel
theorem dL_law_890 : decode cL_law 890 = .ok (.iadd, 1) := by decide +kernel
theorem dL_law_891 : decode cL_law 891 = .ok (.iaload, 1) := by decide +kernel
theorem dL_law_892 : decode cL_law 892 = .ok (.aload_n 0, 1) := by decide +kernel
theorem dL_law_893 : decode cL_law 893 = .ok (.iload 5, 2) := by decide +kernel
theorem dL_law_895 : decode cL_law 895 = .ok (.iconst 2, 1) := by decide +kernel
theorem dL_law_896 : decode cL_law 896 = .ok (.iadd, 1) := by decide +kernel
theorem dL_law_897 : decode cL_law 897 = .ok (.iaload, 1) := by decide +kernel
theorem dL_law_898 : decode cL_law 898 = .ok (.invokevirtual 244, 3) := by decide +kernel
theorem dL_law_901 : decode cL_law 901 = .ok (.istore 7, 2) := by decide +kernel
theorem dL_law_903 : decode cL_law 903 = .ok (.aload_n 2, 1) := by decide +kernel
theorem dL_law_904 : decode cL_law 904 = .ok (.invokevirtual 204, 3) := by decide +kernel
theorem dL_law_907 : decode cL_law 907 = .ok (.iload 6, 2) := by decide +kernel
theorem dL_law_909 : decode cL_law 909 = .ok (.if_icmp .eq 5, 3) := by decide +kernel
theorem dL_law_914 : decode cL_law 914 = .ok (.iload 6, 2) := by decide +kernel
theorem dL_law_916 : decode cL_law 916 = .ok (.ifCond .ne 15, 3) := by decide +kernel
theorem dL_law_931 : decode cL_law 931 = .ok (.goto 2969, 3) := by decide +kernel
theorem dL_law_934 : decode cL_law 934 = .ok (.aload_n 1, 1) := by decide +kernel
theorem dL_law_935 : decode cL_law 935 = .ok (.aload_n 0, 1) := by decide +kernel
theorem dL_law_936 : decode cL_law 936 = .ok (.iload 5, 2) := by decide +kernel
theorem dL_law_938 : decode cL_law 938 = .ok (.iconst 1, 1) := by decide +kernel
theorem dL_law_939 : decode cL_law 939 = .ok (.iadd, 1) := by decide +kernel
theorem dL_law_940 : decode cL_law 940 = .ok (.iaload, 1) := by decide +kernel
theorem dL_law_941 : decode cL_law 941 = .ok (.aload_n 3, 1) := by decide +kernel
theorem dL_law_942 : decode cL_law 942 = .ok (.invokestatic 245, 3) := by decide +kernel
theorem dL_law_945 : decode cL_law 945 = .ok (.istore 6, 2) := by decide +kernel
theorem dL_law_947 : decode cL_law 947 = .ok (.aload_n 2, 1) := by decide +kernel
theorem dL_law_948 : decode cL_law 948 = .ok (.aload_n 0, 1) := by decide +kernel
theorem dL_law_949 : decode cL_law 949 = .ok (.iload 5, 2) := by decide +kernel
theorem dL_law_951 : decode cL_law 951 = .ok (.iconst 1, 1) := by decide +kernel
theorem dL_law_952 : decode cL_law 952 = .ok (.iadd, 1) := by decide +kernel
theorem dL_law_953 : decode cL_law 953 = .ok (.iaload, 1) := by decide +kernel
theorem dL_law_954 : decode cL_law 954 = .ok (.invokevirtual 247, 3) := by decide +kernel
theorem dL_law_957 : decode cL_law 957 = .ok (.istore 7, 2) := by decide +kernel
theorem dL_law_959 : decode cL_law 959 = .ok (.aload_n 2, 1) := by decide +kernel
theorem dL_law_960 : decode cL_law 960 = .ok (.invokevirtual 204, 3) := by decide +kernel
theorem dL_law_963 : decode cL_law 963 = .ok (.iload 6, 2) := by decide +kernel
theorem dL_law_965 : decode cL_law 965 = .ok (.if_icmp .eq 5, 3) := by decide +kernel
theorem dL_law_970 : decode cL_law 970 = .ok (.iload 6, 2) := by decide +kernel
theorem dL_law_972 : decode cL_law 972 = .ok (.ifCond .ne 15, 3) := by decide +kernel
theorem dL_law_975 : decode cL_law 975 = .ok (.aload_n 3, 1) := by decide +kernel
theorem dL_law_976 : decode cL_law 976 = .ok (.iconst 0, 1) := by decide +kernel
theorem dL_law_977 : decode cL_law 977 = .ok (.laload, 1) := by decide +kernel
theorem dL_law_978 : decode cL_law 978 = .ok (.iload 7, 2) := by decide +kernel
theorem dL_law_980 : decode cL_law 980 = .ok (.i2l, 1) := by decide +kernel
theorem dL_law_981 : decode cL_law 981 = .ok (.lcmp, 1) := by decide +kernel
theorem dL_law_982 : decode cL_law 982 = .ok (.ifCond .eq 5, 3) := by decide +kernel
theorem dL_law_987 : decode cL_law 987 = .ok (.goto 2913, 3) := by decide +kernel
theorem dL_law_990 : decode cL_law 990 = .ok (.aload_n 1, 1) := by decide +kernel
theorem dL_law_991 : decode cL_law 991 = .ok (.aload_n 0, 1) := by decide +kernel
theorem dL_law_992 : decode cL_law 992 = .ok (.iload 5, 2) := by decide +kernel
theorem dL_law_994 : decode cL_law 994 = .ok (.iconst 1, 1) := by decide +kernel
theorem dL_law_995 : decode cL_law 995 = .ok (.iadd, 1) := by decide +kernel
theorem dL_law_996 : decode cL_law 996 = .ok (.iaload, 1) := by decide +kernel
theorem dL_law_997 : decode cL_law 997 = .ok (.aload_n 0, 1) := by decide +kernel
theorem dL_law_998 : decode cL_law 998 = .ok (.iload 5, 2) := by decide +kernel
theorem dL_law_1000 : decode cL_law 1000 = .ok (.iconst 2, 1) := by decide +kernel
theorem dL_law_1001 : decode cL_law 1001 = .ok (.iadd, 1) := by decide +kernel
theorem dL_law_1002 : decode cL_law 1002 = .ok (.iaload, 1) := by decide +kernel
theorem dL_law_1003 : decode cL_law 1003 = .ok (.aload_n 0, 1) := by decide +kernel
theorem dL_law_1004 : decode cL_law 1004 = .ok (.iload 5, 2) := by decide +kernel
theorem dL_law_1006 : decode cL_law 1006 = .ok (.iconst 3, 1) := by decide +kernel
theorem dL_law_1007 : decode cL_law 1007 = .ok (.iadd, 1) := by decide +kernel
theorem dL_law_1008 : decode cL_law 1008 = .ok (.iaload, 1) := by decide +kernel
theorem dL_law_1009 : decode cL_law 1009 = .ok (.ifCond .eq 7, 3) := by decide +kernel
theorem dL_law_1012 : decode cL_law 1012 = .ok (.iconst 1, 1) := by decide +kernel
theorem dL_law_1013 : decode cL_law 1013 = .ok (.goto 4, 3) := by decide +kernel
theorem dL_law_1016 : decode cL_law 1016 = .ok (.iconst 0, 1) := by decide +kernel
theorem dL_law_1017 : decode cL_law 1017 = .ok (.aload_n 3, 1) := by decide +kernel
theorem dL_law_1018 : decode cL_law 1018 = .ok (.invokestatic 248, 3) := by decide +kernel
theorem dL_law_1021 : decode cL_law 1021 = .ok (.istore 6, 2) := by decide +kernel
theorem dL_law_1023 : decode cL_law 1023 = .ok (.aload_n 2, 1) := by decide +kernel
theorem dL_law_1024 : decode cL_law 1024 = .ok (.aload_n 0, 1) := by decide +kernel
theorem dL_law_1025 : decode cL_law 1025 = .ok (.iload 5, 2) := by decide +kernel
theorem dL_law_1027 : decode cL_law 1027 = .ok (.iconst 1, 1) := by decide +kernel
theorem dL_law_1028 : decode cL_law 1028 = .ok (.iadd, 1) := by decide +kernel
theorem dL_law_1029 : decode cL_law 1029 = .ok (.iaload, 1) := by decide +kernel
theorem dL_law_1030 : decode cL_law 1030 = .ok (.aload_n 0, 1) := by decide +kernel
theorem dL_law_1031 : decode cL_law 1031 = .ok (.iload 5, 2) := by decide +kernel
theorem dL_law_1033 : decode cL_law 1033 = .ok (.iconst 2, 1) := by decide +kernel
theorem dL_law_1034 : decode cL_law 1034 = .ok (.iadd, 1) := by decide +kernel
theorem dL_law_1035 : decode cL_law 1035 = .ok (.iaload, 1) := by decide +kernel
theorem dL_law_1036 : decode cL_law 1036 = .ok (.aload_n 0, 1) := by decide +kernel
theorem dL_law_1037 : decode cL_law 1037 = .ok (.iload 5, 2) := by decide +kernel
theorem dL_law_1039 : decode cL_law 1039 = .ok (.iconst 3, 1) := by decide +kernel
theorem dL_law_1040 : decode cL_law 1040 = .ok (.iadd, 1) := by decide +kernel
theorem dL_law_1041 : decode cL_law 1041 = .ok (.iaload, 1) := by decide +kernel
theorem dL_law_1042 : decode cL_law 1042 = .ok (.ifCond .eq 7, 3) := by decide +kernel
theorem dL_law_1045 : decode cL_law 1045 = .ok (.iconst 1, 1) := by decide +kernel
theorem dL_law_1046 : decode cL_law 1046 = .ok (.goto 4, 3) := by decide +kernel
theorem dL_law_1049 : decode cL_law 1049 = .ok (.iconst 0, 1) := by decide +kernel
theorem dL_law_1050 : decode cL_law 1050 = .ok (.invokevirtual 251, 3) := by decide +kernel
theorem dL_law_1053 : decode cL_law 1053 = .ok (.istore 7, 2) := by decide +kernel
theorem dL_law_1055 : decode cL_law 1055 = .ok (.aload_n 2, 1) := by decide +kernel
theorem dL_law_1056 : decode cL_law 1056 = .ok (.invokevirtual 204, 3) := by decide +kernel
theorem dL_law_1059 : decode cL_law 1059 = .ok (.iload 6, 2) := by decide +kernel
theorem dL_law_1061 : decode cL_law 1061 = .ok (.if_icmp .eq 5, 3) := by decide +kernel
theorem dL_law_1066 : decode cL_law 1066 = .ok (.iload 6, 2) := by decide +kernel
theorem dL_law_1068 : decode cL_law 1068 = .ok (.ifCond .ne 15, 3) := by decide +kernel
theorem dL_law_1071 : decode cL_law 1071 = .ok (.aload_n 3, 1) := by decide +kernel
theorem dL_law_1072 : decode cL_law 1072 = .ok (.iconst 0, 1) := by decide +kernel
theorem dL_law_1073 : decode cL_law 1073 = .ok (.laload, 1) := by decide +kernel
theorem dL_law_1074 : decode cL_law 1074 = .ok (.iload 7, 2) := by decide +kernel
theorem dL_law_1076 : decode cL_law 1076 = .ok (.i2l, 1) := by decide +kernel
theorem dL_law_1077 : decode cL_law 1077 = .ok (.lcmp, 1) := by decide +kernel
theorem dL_law_1078 : decode cL_law 1078 = .ok (.ifCond .eq 5, 3) := by decide +kernel
theorem dL_law_1083 : decode cL_law 1083 = .ok (.goto 2817, 3) := by decide +kernel
theorem dL_law_1086 : decode cL_law 1086 = .ok (.aload_n 1, 1) := by decide +kernel
theorem dL_law_1087 : decode cL_law 1087 = .ok (.aload_n 0, 1) := by decide +kernel
theorem dL_law_1088 : decode cL_law 1088 = .ok (.iload 5, 2) := by decide +kernel
theorem dL_law_1090 : decode cL_law 1090 = .ok (.iconst 1, 1) := by decide +kernel
theorem dL_law_1091 : decode cL_law 1091 = .ok (.iadd, 1) := by decide +kernel
theorem dL_law_1092 : decode cL_law 1092 = .ok (.iaload, 1) := by decide +kernel
theorem dL_law_1093 : decode cL_law 1093 = .ok (.aload_n 3, 1) := by decide +kernel
theorem dL_law_1094 : decode cL_law 1094 = .ok (.invokestatic 252, 3) := by decide +kernel
theorem dL_law_1097 : decode cL_law 1097 = .ok (.istore 6, 2) := by decide +kernel
theorem dL_law_1099 : decode cL_law 1099 = .ok (.aload_n 2, 1) := by decide +kernel
theorem dL_law_1100 : decode cL_law 1100 = .ok (.aload_n 0, 1) := by decide +kernel
theorem dL_law_1101 : decode cL_law 1101 = .ok (.iload 5, 2) := by decide +kernel
theorem dL_law_1103 : decode cL_law 1103 = .ok (.iconst 1, 1) := by decide +kernel
theorem dL_law_1104 : decode cL_law 1104 = .ok (.iadd, 1) := by decide +kernel
theorem dL_law_1105 : decode cL_law 1105 = .ok (.iaload, 1) := by decide +kernel
theorem dL_law_1106 : decode cL_law 1106 = .ok (.invokevirtual 254, 3) := by decide +kernel
theorem dL_law_1109 : decode cL_law 1109 = .ok (.istore 7, 2) := by decide +kernel
theorem dL_law_1111 : decode cL_law 1111 = .ok (.aload_n 2, 1) := by decide +kernel
theorem dL_law_1112 : decode cL_law 1112 = .ok (.invokevirtual 204, 3) := by decide +kernel
theorem dL_law_1115 : decode cL_law 1115 = .ok (.iload 6, 2) := by decide +kernel
theorem dL_law_1117 : decode cL_law 1117 = .ok (.if_icmp .eq 5, 3) := by decide +kernel
theorem dL_law_1122 : decode cL_law 1122 = .ok (.iload 6, 2) := by decide +kernel
theorem dL_law_1124 : decode cL_law 1124 = .ok (.ifCond .ne 15, 3) := by decide +kernel
theorem dL_law_1139 : decode cL_law 1139 = .ok (.goto 2761, 3) := by decide +kernel
theorem dL_law_1142 : decode cL_law 1142 = .ok (.aload_n 1, 1) := by decide +kernel
theorem dL_law_1143 : decode cL_law 1143 = .ok (.aload_n 0, 1) := by decide +kernel
theorem dL_law_1144 : decode cL_law 1144 = .ok (.iload 5, 2) := by decide +kernel
theorem dL_law_1146 : decode cL_law 1146 = .ok (.iconst 1, 1) := by decide +kernel
theorem dL_law_1147 : decode cL_law 1147 = .ok (.iadd, 1) := by decide +kernel
theorem dL_law_1148 : decode cL_law 1148 = .ok (.iaload, 1) := by decide +kernel
theorem dL_law_1149 : decode cL_law 1149 = .ok (.aload_n 0, 1) := by decide +kernel
theorem dL_law_1150 : decode cL_law 1150 = .ok (.iload 5, 2) := by decide +kernel
theorem dL_law_1152 : decode cL_law 1152 = .ok (.iconst 2, 1) := by decide +kernel
theorem dL_law_1153 : decode cL_law 1153 = .ok (.iadd, 1) := by decide +kernel
theorem dL_law_1154 : decode cL_law 1154 = .ok (.iaload, 1) := by decide +kernel
theorem dL_law_1155 : decode cL_law 1155 = .ok (.aload_n 3, 1) := by decide +kernel
theorem dL_law_1156 : decode cL_law 1156 = .ok (.invokestatic 255, 3) := by decide +kernel
theorem dL_law_1159 : decode cL_law 1159 = .ok (.istore 6, 2) := by decide +kernel
theorem dL_law_1161 : decode cL_law 1161 = .ok (.aload_n 2, 1) := by decide +kernel
theorem dL_law_1162 : decode cL_law 1162 = .ok (.aload_n 0, 1) := by decide +kernel
theorem dL_law_1163 : decode cL_law 1163 = .ok (.iload 5, 2) := by decide +kernel
theorem dL_law_1165 : decode cL_law 1165 = .ok (.iconst 1, 1) := by decide +kernel
theorem dL_law_1166 : decode cL_law 1166 = .ok (.iadd, 1) := by decide +kernel
theorem dL_law_1167 : decode cL_law 1167 = .ok (.iaload, 1) := by decide +kernel
theorem dL_law_1168 : decode cL_law 1168 = .ok (.aload_n 0, 1) := by decide +kernel
theorem dL_law_1169 : decode cL_law 1169 = .ok (.iload 5, 2) := by decide +kernel
theorem dL_law_1171 : decode cL_law 1171 = .ok (.iconst 2, 1) := by decide +kernel
theorem dL_law_1172 : decode cL_law 1172 = .ok (.iadd, 1) := by decide +kernel
theorem dL_law_1173 : decode cL_law 1173 = .ok (.iaload, 1) := by decide +kernel
theorem dL_law_1174 : decode cL_law 1174 = .ok (.invokevirtual 257, 3) := by decide +kernel
theorem dL_law_1177 : decode cL_law 1177 = .ok (.istore 7, 2) := by decide +kernel
theorem dL_law_1179 : decode cL_law 1179 = .ok (.aload_n 2, 1) := by decide +kernel
theorem dL_law_1180 : decode cL_law 1180 = .ok (.invokevirtual 204, 3) := by decide +kernel
theorem dL_law_1183 : decode cL_law 1183 = .ok (.iload 6, 2) := by decide +kernel
theorem dL_law_1185 : decode cL_law 1185 = .ok (.if_icmp .eq 5, 3) := by decide +kernel
theorem dL_law_1190 : decode cL_law 1190 = .ok (.iload 6, 2) := by decide +kernel
theorem dL_law_1192 : decode cL_law 1192 = .ok (.ifCond .ne 22, 3) := by decide +kernel
theorem dL_law_1214 : decode cL_law 1214 = .ok (.goto 2686, 3) := by decide +kernel
theorem dL_law_1217 : decode cL_law 1217 = .ok (.aload_n 1, 1) := by decide +kernel
theorem dL_law_1218 : decode cL_law 1218 = .ok (.aload_n 0, 1) := by decide +kernel
theorem dL_law_1219 : decode cL_law 1219 = .ok (.iload 5, 2) := by decide +kernel
theorem dL_law_1221 : decode cL_law 1221 = .ok (.iconst 1, 1) := by decide +kernel
theorem dL_law_1222 : decode cL_law 1222 = .ok (.iadd, 1) := by decide +kernel
theorem dL_law_1223 : decode cL_law 1223 = .ok (.iaload, 1) := by decide +kernel
theorem dL_law_1224 : decode cL_law 1224 = .ok (.aload_n 3, 1) := by decide +kernel
theorem dL_law_1225 : decode cL_law 1225 = .ok (.invokestatic 258, 3) := by decide +kernel
theorem dL_law_1228 : decode cL_law 1228 = .ok (.istore 6, 2) := by decide +kernel
theorem dL_law_1230 : decode cL_law 1230 = .ok (.aload_n 2, 1) := by decide +kernel
theorem dL_law_1231 : decode cL_law 1231 = .ok (.aload_n 0, 1) := by decide +kernel
theorem dL_law_1232 : decode cL_law 1232 = .ok (.iload 5, 2) := by decide +kernel
theorem dL_law_1234 : decode cL_law 1234 = .ok (.iconst 1, 1) := by decide +kernel
theorem dL_law_1235 : decode cL_law 1235 = .ok (.iadd, 1) := by decide +kernel
theorem dL_law_1236 : decode cL_law 1236 = .ok (.iaload, 1) := by decide +kernel
theorem dL_law_1237 : decode cL_law 1237 = .ok (.invokevirtual 260, 3) := by decide +kernel
theorem dL_law_1240 : decode cL_law 1240 = .ok (.istore 7, 2) := by decide +kernel
theorem dL_law_1242 : decode cL_law 1242 = .ok (.aload_n 2, 1) := by decide +kernel
theorem dL_law_1243 : decode cL_law 1243 = .ok (.invokevirtual 204, 3) := by decide +kernel
theorem dL_law_1246 : decode cL_law 1246 = .ok (.iload 6, 2) := by decide +kernel
theorem dL_law_1248 : decode cL_law 1248 = .ok (.if_icmp .eq 5, 3) := by decide +kernel
theorem dL_law_1253 : decode cL_law 1253 = .ok (.iload 6, 2) := by decide +kernel
theorem dL_law_1255 : decode cL_law 1255 = .ok (.ifCond .ne 22, 3) := by decide +kernel
theorem dL_law_1277 : decode cL_law 1277 = .ok (.goto 2623, 3) := by decide +kernel
theorem dL_law_1280 : decode cL_law 1280 = .ok (.aload_n 1, 1) := by decide +kernel
theorem dL_law_1281 : decode cL_law 1281 = .ok (.aload_n 0, 1) := by decide +kernel
theorem dL_law_1282 : decode cL_law 1282 = .ok (.iload 5, 2) := by decide +kernel
theorem dL_law_1284 : decode cL_law 1284 = .ok (.iconst 1, 1) := by decide +kernel
theorem dL_law_1285 : decode cL_law 1285 = .ok (.iadd, 1) := by decide +kernel
theorem dL_law_1286 : decode cL_law 1286 = .ok (.iaload, 1) := by decide +kernel
theorem dL_law_1287 : decode cL_law 1287 = .ok (.aload_n 3, 1) := by decide +kernel
theorem dL_law_1288 : decode cL_law 1288 = .ok (.invokestatic 261, 3) := by decide +kernel
theorem dL_law_1291 : decode cL_law 1291 = .ok (.istore 6, 2) := by decide +kernel
theorem dL_law_1293 : decode cL_law 1293 = .ok (.aload_n 2, 1) := by decide +kernel
theorem dL_law_1294 : decode cL_law 1294 = .ok (.aload_n 0, 1) := by decide +kernel
theorem dL_law_1295 : decode cL_law 1295 = .ok (.iload 5, 2) := by decide +kernel
theorem dL_law_1297 : decode cL_law 1297 = .ok (.iconst 1, 1) := by decide +kernel
theorem dL_law_1298 : decode cL_law 1298 = .ok (.iadd, 1) := by decide +kernel
theorem dL_law_1299 : decode cL_law 1299 = .ok (.iaload, 1) := by decide +kernel
theorem dL_law_1300 : decode cL_law 1300 = .ok (.invokevirtual 263, 3) := by decide +kernel
theorem dL_law_1303 : decode cL_law 1303 = .ok (.istore 7, 2) := by decide +kernel
theorem dL_law_1305 : decode cL_law 1305 = .ok (.aload_n 2, 1) := by decide +kernel
theorem dL_law_1306 : decode cL_law 1306 = .ok (.invokevirtual 204, 3) := by decide +kernel
theorem dL_law_1309 : decode cL_law 1309 = .ok (.iload 6, 2) := by decide +kernel
theorem dL_law_1311 : decode cL_law 1311 = .ok (.if_icmp .eq 5, 3) := by decide +kernel
theorem dL_law_1316 : decode cL_law 1316 = .ok (.iload 6, 2) := by decide +kernel
theorem dL_law_1318 : decode cL_law 1318 = .ok (.ifCond .ne 15, 3) := by decide +kernel
theorem dL_law_1333 : decode cL_law 1333 = .ok (.goto 2567, 3) := by decide +kernel
theorem dL_law_1336 : decode cL_law 1336 = .ok (.aload_n 1, 1) := by decide +kernel
theorem dL_law_1337 : decode cL_law 1337 = .ok (.aload_n 0, 1) := by decide +kernel
theorem dL_law_1338 : decode cL_law 1338 = .ok (.iload 5, 2) := by decide +kernel
theorem dL_law_1340 : decode cL_law 1340 = .ok (.iconst 1, 1) := by decide +kernel
theorem dL_law_1341 : decode cL_law 1341 = .ok (.iadd, 1) := by decide +kernel
theorem dL_law_1342 : decode cL_law 1342 = .ok (.iaload, 1) := by decide +kernel
theorem dL_law_1343 : decode cL_law 1343 = .ok (.aload_n 3, 1) := by decide +kernel
theorem dL_law_1344 : decode cL_law 1344 = .ok (.invokestatic 264, 3) := by decide +kernel
theorem dL_law_1347 : decode cL_law 1347 = .ok (.istore 6, 2) := by decide +kernel
theorem dL_law_1349 : decode cL_law 1349 = .ok (.aload_n 2, 1) := by decide +kernel
theorem dL_law_1350 : decode cL_law 1350 = .ok (.aload_n 0, 1) := by decide +kernel
theorem dL_law_1351 : decode cL_law 1351 = .ok (.iload 5, 2) := by decide +kernel
theorem dL_law_1353 : decode cL_law 1353 = .ok (.iconst 1, 1) := by decide +kernel
theorem dL_law_1354 : decode cL_law 1354 = .ok (.iadd, 1) := by decide +kernel
theorem dL_law_1355 : decode cL_law 1355 = .ok (.iaload, 1) := by decide +kernel
theorem dL_law_1356 : decode cL_law 1356 = .ok (.invokevirtual 266, 3) := by decide +kernel
theorem dL_law_1359 : decode cL_law 1359 = .ok (.istore 7, 2) := by decide +kernel
theorem dL_law_1361 : decode cL_law 1361 = .ok (.aload_n 2, 1) := by decide +kernel
theorem dL_law_1362 : decode cL_law 1362 = .ok (.invokevirtual 204, 3) := by decide +kernel
theorem dL_law_1365 : decode cL_law 1365 = .ok (.iload 6, 2) := by decide +kernel
theorem dL_law_1367 : decode cL_law 1367 = .ok (.if_icmp .eq 5, 3) := by decide +kernel
theorem dL_law_1372 : decode cL_law 1372 = .ok (.iload 6, 2) := by decide +kernel
theorem dL_law_1374 : decode cL_law 1374 = .ok (.ifCond .ne 22, 3) := by decide +kernel
theorem dL_law_1396 : decode cL_law 1396 = .ok (.goto 2504, 3) := by decide +kernel
theorem dL_law_1399 : decode cL_law 1399 = .ok (.aload_n 1, 1) := by decide +kernel
theorem dL_law_1400 : decode cL_law 1400 = .ok (.aload_n 0, 1) := by decide +kernel
theorem dL_law_1401 : decode cL_law 1401 = .ok (.iload 5, 2) := by decide +kernel
theorem dL_law_1403 : decode cL_law 1403 = .ok (.iconst 1, 1) := by decide +kernel
theorem dL_law_1404 : decode cL_law 1404 = .ok (.iadd, 1) := by decide +kernel
theorem dL_law_1405 : decode cL_law 1405 = .ok (.iaload, 1) := by decide +kernel
theorem dL_law_1406 : decode cL_law 1406 = .ok (.aload_n 3, 1) := by decide +kernel
theorem dL_law_1407 : decode cL_law 1407 = .ok (.invokestatic 267, 3) := by decide +kernel
theorem dL_law_1410 : decode cL_law 1410 = .ok (.istore 6, 2) := by decide +kernel
theorem dL_law_1412 : decode cL_law 1412 = .ok (.aload_n 2, 1) := by decide +kernel
theorem dL_law_1413 : decode cL_law 1413 = .ok (.aload_n 0, 1) := by decide +kernel
theorem dL_law_1414 : decode cL_law 1414 = .ok (.iload 5, 2) := by decide +kernel
theorem dL_law_1416 : decode cL_law 1416 = .ok (.iconst 1, 1) := by decide +kernel
theorem dL_law_1417 : decode cL_law 1417 = .ok (.iadd, 1) := by decide +kernel
theorem dL_law_1418 : decode cL_law 1418 = .ok (.iaload, 1) := by decide +kernel
theorem dL_law_1419 : decode cL_law 1419 = .ok (.invokevirtual 269, 3) := by decide +kernel
theorem dL_law_1422 : decode cL_law 1422 = .ok (.istore 7, 2) := by decide +kernel
theorem dL_law_1424 : decode cL_law 1424 = .ok (.aload_n 2, 1) := by decide +kernel
theorem dL_law_1425 : decode cL_law 1425 = .ok (.invokevirtual 204, 3) := by decide +kernel
theorem dL_law_1428 : decode cL_law 1428 = .ok (.iload 6, 2) := by decide +kernel
theorem dL_law_1430 : decode cL_law 1430 = .ok (.if_icmp .eq 5, 3) := by decide +kernel
theorem dL_law_1435 : decode cL_law 1435 = .ok (.iload 6, 2) := by decide +kernel
theorem dL_law_1437 : decode cL_law 1437 = .ok (.ifCond .ne 15, 3) := by decide +kernel
theorem dL_law_1452 : decode cL_law 1452 = .ok (.goto 2448, 3) := by decide +kernel
theorem dL_law_1455 : decode cL_law 1455 = .ok (.aload_n 1, 1) := by decide +kernel
theorem dL_law_1456 : decode cL_law 1456 = .ok (.aload_n 0, 1) := by decide +kernel
theorem dL_law_1457 : decode cL_law 1457 = .ok (.iload 5, 2) := by decide +kernel
theorem dL_law_1459 : decode cL_law 1459 = .ok (.iconst 1, 1) := by decide +kernel
theorem dL_law_1460 : decode cL_law 1460 = .ok (.iadd, 1) := by decide +kernel
theorem dL_law_1461 : decode cL_law 1461 = .ok (.iaload, 1) := by decide +kernel
theorem dL_law_1462 : decode cL_law 1462 = .ok (.aload_n 0, 1) := by decide +kernel
theorem dL_law_1463 : decode cL_law 1463 = .ok (.iload 5, 2) := by decide +kernel
theorem dL_law_1465 : decode cL_law 1465 = .ok (.iconst 2, 1) := by decide +kernel
theorem dL_law_1466 : decode cL_law 1466 = .ok (.iadd, 1) := by decide +kernel
theorem dL_law_1467 : decode cL_law 1467 = .ok (.iaload, 1) := by decide +kernel
theorem dL_law_1468 : decode cL_law 1468 = .ok (.aload_n 3, 1) := by decide +kernel
theorem dL_law_1469 : decode cL_law 1469 = .ok (.invokestatic 270, 3) := by decide +kernel
theorem dL_law_1472 : decode cL_law 1472 = .ok (.istore 6, 2) := by decide +kernel
theorem dL_law_1474 : decode cL_law 1474 = .ok (.aload_n 2, 1) := by decide +kernel
theorem dL_law_1475 : decode cL_law 1475 = .ok (.aload_n 0, 1) := by decide +kernel
theorem dL_law_1476 : decode cL_law 1476 = .ok (.iload 5, 2) := by decide +kernel
theorem dL_law_1478 : decode cL_law 1478 = .ok (.iconst 1, 1) := by decide +kernel
theorem dL_law_1479 : decode cL_law 1479 = .ok (.iadd, 1) := by decide +kernel
theorem dL_law_1480 : decode cL_law 1480 = .ok (.iaload, 1) := by decide +kernel
theorem dL_law_1481 : decode cL_law 1481 = .ok (.aload_n 0, 1) := by decide +kernel
theorem dL_law_1482 : decode cL_law 1482 = .ok (.iload 5, 2) := by decide +kernel
theorem dL_law_1484 : decode cL_law 1484 = .ok (.iconst 2, 1) := by decide +kernel
theorem dL_law_1485 : decode cL_law 1485 = .ok (.iadd, 1) := by decide +kernel
theorem dL_law_1486 : decode cL_law 1486 = .ok (.iaload, 1) := by decide +kernel
theorem dL_law_1487 : decode cL_law 1487 = .ok (.invokevirtual 272, 3) := by decide +kernel
theorem dL_law_1490 : decode cL_law 1490 = .ok (.istore 7, 2) := by decide +kernel
theorem dL_law_1492 : decode cL_law 1492 = .ok (.aload_n 2, 1) := by decide +kernel
theorem dL_law_1493 : decode cL_law 1493 = .ok (.invokevirtual 204, 3) := by decide +kernel
theorem dL_law_1496 : decode cL_law 1496 = .ok (.iload 6, 2) := by decide +kernel
theorem dL_law_1498 : decode cL_law 1498 = .ok (.if_icmp .eq 5, 3) := by decide +kernel
theorem dL_law_1503 : decode cL_law 1503 = .ok (.iload 6, 2) := by decide +kernel
theorem dL_law_1505 : decode cL_law 1505 = .ok (.ifCond .ne 15, 3) := by decide +kernel
theorem dL_law_1520 : decode cL_law 1520 = .ok (.goto 2380, 3) := by decide +kernel
theorem dL_law_1523 : decode cL_law 1523 = .ok (.aload_n 1, 1) := by decide +kernel
theorem dL_law_1524 : decode cL_law 1524 = .ok (.aload_n 0, 1) := by decide +kernel
theorem dL_law_1525 : decode cL_law 1525 = .ok (.iload 5, 2) := by decide +kernel
theorem dL_law_1527 : decode cL_law 1527 = .ok (.iconst 1, 1) := by decide +kernel
theorem dL_law_1528 : decode cL_law 1528 = .ok (.iadd, 1) := by decide +kernel
theorem dL_law_1529 : decode cL_law 1529 = .ok (.iaload, 1) := by decide +kernel
theorem dL_law_1530 : decode cL_law 1530 = .ok (.aload_n 0, 1) := by decide +kernel
theorem dL_law_1531 : decode cL_law 1531 = .ok (.iload 5, 2) := by decide +kernel
theorem dL_law_1533 : decode cL_law 1533 = .ok (.iconst 2, 1) := by decide +kernel
theorem dL_law_1534 : decode cL_law 1534 = .ok (.iadd, 1) := by decide +kernel
theorem dL_law_1535 : decode cL_law 1535 = .ok (.iaload, 1) := by decide +kernel
theorem dL_law_1536 : decode cL_law 1536 = .ok (.aload_n 3, 1) := by decide +kernel
theorem dL_law_1537 : decode cL_law 1537 = .ok (.invokestatic 273, 3) := by decide +kernel
theorem dL_law_1540 : decode cL_law 1540 = .ok (.istore 6, 2) := by decide +kernel
theorem dL_law_1542 : decode cL_law 1542 = .ok (.aload_n 2, 1) := by decide +kernel
theorem dL_law_1543 : decode cL_law 1543 = .ok (.aload_n 0, 1) := by decide +kernel
theorem dL_law_1544 : decode cL_law 1544 = .ok (.iload 5, 2) := by decide +kernel
theorem dL_law_1546 : decode cL_law 1546 = .ok (.iconst 1, 1) := by decide +kernel
theorem dL_law_1547 : decode cL_law 1547 = .ok (.iadd, 1) := by decide +kernel
theorem dL_law_1548 : decode cL_law 1548 = .ok (.iaload, 1) := by decide +kernel
theorem dL_law_1549 : decode cL_law 1549 = .ok (.aload_n 0, 1) := by decide +kernel
theorem dL_law_1550 : decode cL_law 1550 = .ok (.iload 5, 2) := by decide +kernel
theorem dL_law_1552 : decode cL_law 1552 = .ok (.iconst 2, 1) := by decide +kernel
theorem dL_law_1553 : decode cL_law 1553 = .ok (.iadd, 1) := by decide +kernel
theorem dL_law_1554 : decode cL_law 1554 = .ok (.iaload, 1) := by decide +kernel
theorem dL_law_1555 : decode cL_law 1555 = .ok (.invokevirtual 275, 3) := by decide +kernel
theorem dL_law_1558 : decode cL_law 1558 = .ok (.istore 7, 2) := by decide +kernel
theorem dL_law_1560 : decode cL_law 1560 = .ok (.aload_n 2, 1) := by decide +kernel
theorem dL_law_1561 : decode cL_law 1561 = .ok (.invokevirtual 204, 3) := by decide +kernel
theorem dL_law_1564 : decode cL_law 1564 = .ok (.iload 6, 2) := by decide +kernel
theorem dL_law_1566 : decode cL_law 1566 = .ok (.if_icmp .eq 5, 3) := by decide +kernel
theorem dL_law_1571 : decode cL_law 1571 = .ok (.iload 6, 2) := by decide +kernel
theorem dL_law_1573 : decode cL_law 1573 = .ok (.ifCond .ne 15, 3) := by decide +kernel
theorem dL_law_1588 : decode cL_law 1588 = .ok (.goto 2312, 3) := by decide +kernel
theorem dL_law_1591 : decode cL_law 1591 = .ok (.aload_n 1, 1) := by decide +kernel
theorem dL_law_1592 : decode cL_law 1592 = .ok (.aload_n 0, 1) := by decide +kernel
theorem dL_law_1593 : decode cL_law 1593 = .ok (.iload 5, 2) := by decide +kernel
theorem dL_law_1595 : decode cL_law 1595 = .ok (.iconst 1, 1) := by decide +kernel
theorem dL_law_1596 : decode cL_law 1596 = .ok (.iadd, 1) := by decide +kernel
theorem dL_law_1597 : decode cL_law 1597 = .ok (.iaload, 1) := by decide +kernel
theorem dL_law_1598 : decode cL_law 1598 = .ok (.aload_n 3, 1) := by decide +kernel
theorem dL_law_1599 : decode cL_law 1599 = .ok (.invokestatic 276, 3) := by decide +kernel
theorem dL_law_1602 : decode cL_law 1602 = .ok (.istore 6, 2) := by decide +kernel
theorem dL_law_1604 : decode cL_law 1604 = .ok (.aload_n 2, 1) := by decide +kernel
theorem dL_law_1605 : decode cL_law 1605 = .ok (.aload_n 0, 1) := by decide +kernel
theorem dL_law_1606 : decode cL_law 1606 = .ok (.iload 5, 2) := by decide +kernel
theorem dL_law_1608 : decode cL_law 1608 = .ok (.iconst 1, 1) := by decide +kernel
theorem dL_law_1609 : decode cL_law 1609 = .ok (.iadd, 1) := by decide +kernel
theorem dL_law_1610 : decode cL_law 1610 = .ok (.iaload, 1) := by decide +kernel
theorem dL_law_1611 : decode cL_law 1611 = .ok (.invokevirtual 278, 3) := by decide +kernel
theorem dL_law_1614 : decode cL_law 1614 = .ok (.istore 7, 2) := by decide +kernel
theorem dL_law_1616 : decode cL_law 1616 = .ok (.aload_n 2, 1) := by decide +kernel
theorem dL_law_1617 : decode cL_law 1617 = .ok (.invokevirtual 204, 3) := by decide +kernel
theorem dL_law_1620 : decode cL_law 1620 = .ok (.iload 6, 2) := by decide +kernel
theorem dL_law_1622 : decode cL_law 1622 = .ok (.if_icmp .eq 5, 3) := by decide +kernel
theorem dL_law_1627 : decode cL_law 1627 = .ok (.iload 6, 2) := by decide +kernel
theorem dL_law_1629 : decode cL_law 1629 = .ok (.ifCond .ne 15, 3) := by decide +kernel
theorem dL_law_1644 : decode cL_law 1644 = .ok (.goto 2256, 3) := by decide +kernel
theorem dL_law_1647 : decode cL_law 1647 = .ok (.aload_n 1, 1) := by decide +kernel
theorem dL_law_1648 : decode cL_law 1648 = .ok (.aload_n 0, 1) := by decide +kernel
theorem dL_law_1649 : decode cL_law 1649 = .ok (.iload 5, 2) := by decide +kernel
theorem dL_law_1651 : decode cL_law 1651 = .ok (.iconst 1, 1) := by decide +kernel
theorem dL_law_1652 : decode cL_law 1652 = .ok (.iadd, 1) := by decide +kernel
theorem dL_law_1653 : decode cL_law 1653 = .ok (.iaload, 1) := by decide +kernel
theorem dL_law_1654 : decode cL_law 1654 = .ok (.aload_n 3, 1) := by decide +kernel
theorem dL_law_1655 : decode cL_law 1655 = .ok (.invokestatic 279, 3) := by decide +kernel
theorem dL_law_1658 : decode cL_law 1658 = .ok (.istore 6, 2) := by decide +kernel
theorem dL_law_1660 : decode cL_law 1660 = .ok (.aload_n 2, 1) := by decide +kernel
theorem dL_law_1661 : decode cL_law 1661 = .ok (.aload_n 0, 1) := by decide +kernel
theorem dL_law_1662 : decode cL_law 1662 = .ok (.iload 5, 2) := by decide +kernel
theorem dL_law_1664 : decode cL_law 1664 = .ok (.iconst 1, 1) := by decide +kernel
theorem dL_law_1665 : decode cL_law 1665 = .ok (.iadd, 1) := by decide +kernel
theorem dL_law_1666 : decode cL_law 1666 = .ok (.iaload, 1) := by decide +kernel
theorem dL_law_1667 : decode cL_law 1667 = .ok (.invokevirtual 281, 3) := by decide +kernel
theorem dL_law_1670 : decode cL_law 1670 = .ok (.istore 7, 2) := by decide +kernel
theorem dL_law_1672 : decode cL_law 1672 = .ok (.aload_n 2, 1) := by decide +kernel
theorem dL_law_1673 : decode cL_law 1673 = .ok (.invokevirtual 204, 3) := by decide +kernel
theorem dL_law_1676 : decode cL_law 1676 = .ok (.iload 6, 2) := by decide +kernel
theorem dL_law_1678 : decode cL_law 1678 = .ok (.if_icmp .eq 5, 3) := by decide +kernel
theorem dL_law_1683 : decode cL_law 1683 = .ok (.iload 6, 2) := by decide +kernel
theorem dL_law_1685 : decode cL_law 1685 = .ok (.ifCond .ne 15, 3) := by decide +kernel
theorem dL_law_1700 : decode cL_law 1700 = .ok (.goto 2200, 3) := by decide +kernel
theorem dL_law_1703 : decode cL_law 1703 = .ok (.aload_n 1, 1) := by decide +kernel
theorem dL_law_1704 : decode cL_law 1704 = .ok (.aload_n 0, 1) := by decide +kernel
theorem dL_law_1705 : decode cL_law 1705 = .ok (.iload 5, 2) := by decide +kernel
theorem dL_law_1707 : decode cL_law 1707 = .ok (.iconst 1, 1) := by decide +kernel
theorem dL_law_1708 : decode cL_law 1708 = .ok (.iadd, 1) := by decide +kernel
theorem dL_law_1709 : decode cL_law 1709 = .ok (.iaload, 1) := by decide +kernel
theorem dL_law_1710 : decode cL_law 1710 = .ok (.aload_n 3, 1) := by decide +kernel
theorem dL_law_1711 : decode cL_law 1711 = .ok (.invokestatic 282, 3) := by decide +kernel
theorem dL_law_1714 : decode cL_law 1714 = .ok (.istore 6, 2) := by decide +kernel
theorem dL_law_1716 : decode cL_law 1716 = .ok (.aload_n 2, 1) := by decide +kernel
theorem dL_law_1717 : decode cL_law 1717 = .ok (.aload_n 0, 1) := by decide +kernel
theorem dL_law_1718 : decode cL_law 1718 = .ok (.iload 5, 2) := by decide +kernel
theorem dL_law_1720 : decode cL_law 1720 = .ok (.iconst 1, 1) := by decide +kernel
theorem dL_law_1721 : decode cL_law 1721 = .ok (.iadd, 1) := by decide +kernel
theorem dL_law_1722 : decode cL_law 1722 = .ok (.iaload, 1) := by decide +kernel
theorem dL_law_1723 : decode cL_law 1723 = .ok (.invokevirtual 284, 3) := by decide +kernel
theorem dL_law_1726 : decode cL_law 1726 = .ok (.istore 7, 2) := by decide +kernel
theorem dL_law_1728 : decode cL_law 1728 = .ok (.aload_n 2, 1) := by decide +kernel
theorem dL_law_1729 : decode cL_law 1729 = .ok (.invokevirtual 204, 3) := by decide +kernel
theorem dL_law_1732 : decode cL_law 1732 = .ok (.iload 6, 2) := by decide +kernel
theorem dL_law_1734 : decode cL_law 1734 = .ok (.if_icmp .eq 5, 3) := by decide +kernel
theorem dL_law_1739 : decode cL_law 1739 = .ok (.iload 6, 2) := by decide +kernel
theorem dL_law_1741 : decode cL_law 1741 = .ok (.ifCond .ne 15, 3) := by decide +kernel
theorem dL_law_1756 : decode cL_law 1756 = .ok (.goto 2144, 3) := by decide +kernel
theorem dL_law_1759 : decode cL_law 1759 = .ok (.aload_n 1, 1) := by decide +kernel
theorem dL_law_1760 : decode cL_law 1760 = .ok (.aload_n 0, 1) := by decide +kernel
theorem dL_law_1761 : decode cL_law 1761 = .ok (.iload 5, 2) := by decide +kernel
theorem dL_law_1763 : decode cL_law 1763 = .ok (.iconst 1, 1) := by decide +kernel
theorem dL_law_1764 : decode cL_law 1764 = .ok (.iadd, 1) := by decide +kernel
theorem dL_law_1765 : decode cL_law 1765 = .ok (.iaload, 1) := by decide +kernel
theorem dL_law_1766 : decode cL_law 1766 = .ok (.aload_n 3, 1) := by decide +kernel
theorem dL_law_1767 : decode cL_law 1767 = .ok (.invokestatic 285, 3) := by decide +kernel
theorem dL_law_1770 : decode cL_law 1770 = .ok (.istore 6, 2) := by decide +kernel
theorem dL_law_1772 : decode cL_law 1772 = .ok (.aload_n 2, 1) := by decide +kernel
theorem dL_law_1773 : decode cL_law 1773 = .ok (.aload_n 0, 1) := by decide +kernel
theorem dL_law_1774 : decode cL_law 1774 = .ok (.iload 5, 2) := by decide +kernel
theorem dL_law_1776 : decode cL_law 1776 = .ok (.iconst 1, 1) := by decide +kernel
theorem dL_law_1777 : decode cL_law 1777 = .ok (.iadd, 1) := by decide +kernel
theorem dL_law_1778 : decode cL_law 1778 = .ok (.iaload, 1) := by decide +kernel
theorem dL_law_1779 : decode cL_law 1779 = .ok (.invokevirtual 287, 3) := by decide +kernel
theorem dL_law_1782 : decode cL_law 1782 = .ok (.istore 7, 2) := by decide +kernel
theorem dL_law_1784 : decode cL_law 1784 = .ok (.aload_n 2, 1) := by decide +kernel
theorem dL_law_1785 : decode cL_law 1785 = .ok (.invokevirtual 204, 3) := by decide +kernel
theorem dL_law_1788 : decode cL_law 1788 = .ok (.iload 6, 2) := by decide +kernel
theorem dL_law_1790 : decode cL_law 1790 = .ok (.if_icmp .eq 5, 3) := by decide +kernel
theorem dL_law_1795 : decode cL_law 1795 = .ok (.iload 6, 2) := by decide +kernel
theorem dL_law_1797 : decode cL_law 1797 = .ok (.ifCond .ne 15, 3) := by decide +kernel
theorem dL_law_1812 : decode cL_law 1812 = .ok (.goto 2088, 3) := by decide +kernel
theorem dL_law_1815 : decode cL_law 1815 = .ok (.aload_n 1, 1) := by decide +kernel
theorem dL_law_1816 : decode cL_law 1816 = .ok (.aload_n 0, 1) := by decide +kernel
theorem dL_law_1817 : decode cL_law 1817 = .ok (.iload 5, 2) := by decide +kernel
theorem dL_law_1819 : decode cL_law 1819 = .ok (.iconst 1, 1) := by decide +kernel
theorem dL_law_1820 : decode cL_law 1820 = .ok (.iadd, 1) := by decide +kernel
theorem dL_law_1821 : decode cL_law 1821 = .ok (.iaload, 1) := by decide +kernel
theorem dL_law_1822 : decode cL_law 1822 = .ok (.aload_n 0, 1) := by decide +kernel
theorem dL_law_1823 : decode cL_law 1823 = .ok (.iload 5, 2) := by decide +kernel
theorem dL_law_1825 : decode cL_law 1825 = .ok (.iconst 2, 1) := by decide +kernel
theorem dL_law_1826 : decode cL_law 1826 = .ok (.iadd, 1) := by decide +kernel
theorem dL_law_1827 : decode cL_law 1827 = .ok (.iaload, 1) := by decide +kernel
theorem dL_law_1828 : decode cL_law 1828 = .ok (.aload_n 3, 1) := by decide +kernel
theorem dL_law_1829 : decode cL_law 1829 = .ok (.invokestatic 288, 3) := by decide +kernel
theorem dL_law_1832 : decode cL_law 1832 = .ok (.istore 6, 2) := by decide +kernel
theorem dL_law_1834 : decode cL_law 1834 = .ok (.aload_n 2, 1) := by decide +kernel
theorem dL_law_1835 : decode cL_law 1835 = .ok (.aload_n 0, 1) := by decide +kernel
theorem dL_law_1836 : decode cL_law 1836 = .ok (.iload 5, 2) := by decide +kernel
theorem dL_law_1838 : decode cL_law 1838 = .ok (.iconst 1, 1) := by decide +kernel
theorem dL_law_1839 : decode cL_law 1839 = .ok (.iadd, 1) := by decide +kernel
theorem dL_law_1840 : decode cL_law 1840 = .ok (.iaload, 1) := by decide +kernel
theorem dL_law_1841 : decode cL_law 1841 = .ok (.aload_n 0, 1) := by decide +kernel
theorem dL_law_1842 : decode cL_law 1842 = .ok (.iload 5, 2) := by decide +kernel
theorem dL_law_1844 : decode cL_law 1844 = .ok (.iconst 2, 1) := by decide +kernel
theorem dL_law_1845 : decode cL_law 1845 = .ok (.iadd, 1) := by decide +kernel
theorem dL_law_1846 : decode cL_law 1846 = .ok (.iaload, 1) := by decide +kernel
theorem dL_law_1847 : decode cL_law 1847 = .ok (.invokevirtual 290, 3) := by decide +kernel
theorem dL_law_1850 : decode cL_law 1850 = .ok (.istore 7, 2) := by decide +kernel
theorem dL_law_1852 : decode cL_law 1852 = .ok (.aload_n 2, 1) := by decide +kernel
theorem dL_law_1853 : decode cL_law 1853 = .ok (.invokevirtual 204, 3) := by decide +kernel
theorem dL_law_1856 : decode cL_law 1856 = .ok (.iload 6, 2) := by decide +kernel
theorem dL_law_1858 : decode cL_law 1858 = .ok (.if_icmp .eq 5, 3) := by decide +kernel
theorem dL_law_1863 : decode cL_law 1863 = .ok (.iload 6, 2) := by decide +kernel
theorem dL_law_1865 : decode cL_law 1865 = .ok (.ifCond .ne 15, 3) := by decide +kernel
theorem dL_law_1880 : decode cL_law 1880 = .ok (.goto 2020, 3) := by decide +kernel
theorem dL_law_1883 : decode cL_law 1883 = .ok (.aload_n 1, 1) := by decide +kernel
theorem dL_law_1884 : decode cL_law 1884 = .ok (.aload_n 0, 1) := by decide +kernel
theorem dL_law_1885 : decode cL_law 1885 = .ok (.iload 5, 2) := by decide +kernel
theorem dL_law_1887 : decode cL_law 1887 = .ok (.iconst 1, 1) := by decide +kernel
theorem dL_law_1888 : decode cL_law 1888 = .ok (.iadd, 1) := by decide +kernel
theorem dL_law_1889 : decode cL_law 1889 = .ok (.iaload, 1) := by decide +kernel
theorem dL_law_1890 : decode cL_law 1890 = .ok (.aload_n 3, 1) := by decide +kernel
theorem dL_law_1891 : decode cL_law 1891 = .ok (.invokestatic 291, 3) := by decide +kernel
theorem dL_law_1894 : decode cL_law 1894 = .ok (.istore 6, 2) := by decide +kernel
theorem dL_law_1896 : decode cL_law 1896 = .ok (.aload_n 2, 1) := by decide +kernel
theorem dL_law_1897 : decode cL_law 1897 = .ok (.aload_n 0, 1) := by decide +kernel
theorem dL_law_1898 : decode cL_law 1898 = .ok (.iload 5, 2) := by decide +kernel
theorem dL_law_1900 : decode cL_law 1900 = .ok (.iconst 1, 1) := by decide +kernel
theorem dL_law_1901 : decode cL_law 1901 = .ok (.iadd, 1) := by decide +kernel
theorem dL_law_1902 : decode cL_law 1902 = .ok (.iaload, 1) := by decide +kernel
theorem dL_law_1903 : decode cL_law 1903 = .ok (.invokevirtual 293, 3) := by decide +kernel
theorem dL_law_1906 : decode cL_law 1906 = .ok (.istore 7, 2) := by decide +kernel
theorem dL_law_1908 : decode cL_law 1908 = .ok (.aload_n 2, 1) := by decide +kernel
theorem dL_law_1909 : decode cL_law 1909 = .ok (.invokevirtual 204, 3) := by decide +kernel
theorem dL_law_1912 : decode cL_law 1912 = .ok (.iload 6, 2) := by decide +kernel
theorem dL_law_1914 : decode cL_law 1914 = .ok (.if_icmp .eq 5, 3) := by decide +kernel
theorem dL_law_1919 : decode cL_law 1919 = .ok (.iload 6, 2) := by decide +kernel
theorem dL_law_1921 : decode cL_law 1921 = .ok (.ifCond .ne 22, 3) := by decide +kernel
theorem dL_law_1943 : decode cL_law 1943 = .ok (.goto 1957, 3) := by decide +kernel
theorem dL_law_1946 : decode cL_law 1946 = .ok (.aload_n 1, 1) := by decide +kernel
theorem dL_law_1947 : decode cL_law 1947 = .ok (.aload_n 0, 1) := by decide +kernel
theorem dL_law_1948 : decode cL_law 1948 = .ok (.iload 5, 2) := by decide +kernel
theorem dL_law_1950 : decode cL_law 1950 = .ok (.iconst 1, 1) := by decide +kernel
theorem dL_law_1951 : decode cL_law 1951 = .ok (.iadd, 1) := by decide +kernel
theorem dL_law_1952 : decode cL_law 1952 = .ok (.iaload, 1) := by decide +kernel
theorem dL_law_1953 : decode cL_law 1953 = .ok (.aload_n 0, 1) := by decide +kernel
theorem dL_law_1954 : decode cL_law 1954 = .ok (.iload 5, 2) := by decide +kernel
theorem dL_law_1956 : decode cL_law 1956 = .ok (.iconst 2, 1) := by decide +kernel
theorem dL_law_1957 : decode cL_law 1957 = .ok (.iadd, 1) := by decide +kernel
theorem dL_law_1958 : decode cL_law 1958 = .ok (.iaload, 1) := by decide +kernel
theorem dL_law_1959 : decode cL_law 1959 = .ok (.aload_n 3, 1) := by decide +kernel
theorem dL_law_1960 : decode cL_law 1960 = .ok (.invokestatic 294, 3) := by decide +kernel
theorem dL_law_1963 : decode cL_law 1963 = .ok (.istore 6, 2) := by decide +kernel
theorem dL_law_1965 : decode cL_law 1965 = .ok (.aload_n 2, 1) := by decide +kernel
theorem dL_law_1966 : decode cL_law 1966 = .ok (.aload_n 0, 1) := by decide +kernel
theorem dL_law_1967 : decode cL_law 1967 = .ok (.iload 5, 2) := by decide +kernel
theorem dL_law_1969 : decode cL_law 1969 = .ok (.iconst 1, 1) := by decide +kernel
theorem dL_law_1970 : decode cL_law 1970 = .ok (.iadd, 1) := by decide +kernel
theorem dL_law_1971 : decode cL_law 1971 = .ok (.iaload, 1) := by decide +kernel
theorem dL_law_1972 : decode cL_law 1972 = .ok (.aload_n 0, 1) := by decide +kernel
theorem dL_law_1973 : decode cL_law 1973 = .ok (.iload 5, 2) := by decide +kernel
theorem dL_law_1975 : decode cL_law 1975 = .ok (.iconst 2, 1) := by decide +kernel
theorem dL_law_1976 : decode cL_law 1976 = .ok (.iadd, 1) := by decide +kernel
theorem dL_law_1977 : decode cL_law 1977 = .ok (.iaload, 1) := by decide +kernel
theorem dL_law_1978 : decode cL_law 1978 = .ok (.invokevirtual 296, 3) := by decide +kernel
theorem dL_law_1981 : decode cL_law 1981 = .ok (.istore 7, 2) := by decide +kernel
theorem dL_law_1983 : decode cL_law 1983 = .ok (.aload_n 2, 1) := by decide +kernel
theorem dL_law_1984 : decode cL_law 1984 = .ok (.invokevirtual 204, 3) := by decide +kernel
theorem dL_law_1987 : decode cL_law 1987 = .ok (.iload 6, 2) := by decide +kernel
theorem dL_law_1989 : decode cL_law 1989 = .ok (.if_icmp .eq 5, 3) := by decide +kernel
theorem dL_law_1994 : decode cL_law 1994 = .ok (.iload 6, 2) := by decide +kernel
theorem dL_law_1996 : decode cL_law 1996 = .ok (.ifCond .ne 15, 3) := by decide +kernel
theorem dL_law_2011 : decode cL_law 2011 = .ok (.goto 1889, 3) := by decide +kernel
theorem dL_law_2014 : decode cL_law 2014 = .ok (.aload_n 1, 1) := by decide +kernel
theorem dL_law_2015 : decode cL_law 2015 = .ok (.aload_n 0, 1) := by decide +kernel
theorem dL_law_2016 : decode cL_law 2016 = .ok (.iload 5, 2) := by decide +kernel
theorem dL_law_2018 : decode cL_law 2018 = .ok (.iconst 1, 1) := by decide +kernel
theorem dL_law_2019 : decode cL_law 2019 = .ok (.iadd, 1) := by decide +kernel
theorem dL_law_2020 : decode cL_law 2020 = .ok (.iaload, 1) := by decide +kernel
theorem dL_law_2021 : decode cL_law 2021 = .ok (.aload_n 3, 1) := by decide +kernel
theorem dL_law_2022 : decode cL_law 2022 = .ok (.invokestatic 297, 3) := by decide +kernel
theorem dL_law_2025 : decode cL_law 2025 = .ok (.istore 6, 2) := by decide +kernel
theorem dL_law_2027 : decode cL_law 2027 = .ok (.aload_n 2, 1) := by decide +kernel
theorem dL_law_2028 : decode cL_law 2028 = .ok (.aload_n 0, 1) := by decide +kernel
theorem dL_law_2029 : decode cL_law 2029 = .ok (.iload 5, 2) := by decide +kernel
theorem dL_law_2031 : decode cL_law 2031 = .ok (.iconst 1, 1) := by decide +kernel
theorem dL_law_2032 : decode cL_law 2032 = .ok (.iadd, 1) := by decide +kernel
theorem dL_law_2033 : decode cL_law 2033 = .ok (.iaload, 1) := by decide +kernel
theorem dL_law_2034 : decode cL_law 2034 = .ok (.invokevirtual 299, 3) := by decide +kernel
theorem dL_law_2037 : decode cL_law 2037 = .ok (.istore 7, 2) := by decide +kernel
theorem dL_law_2039 : decode cL_law 2039 = .ok (.aload_n 2, 1) := by decide +kernel
theorem dL_law_2040 : decode cL_law 2040 = .ok (.invokevirtual 204, 3) := by decide +kernel
theorem dL_law_2043 : decode cL_law 2043 = .ok (.iload 6, 2) := by decide +kernel
theorem dL_law_2045 : decode cL_law 2045 = .ok (.if_icmp .eq 5, 3) := by decide +kernel
theorem dL_law_2050 : decode cL_law 2050 = .ok (.iload 6, 2) := by decide +kernel
theorem dL_law_2052 : decode cL_law 2052 = .ok (.ifCond .ne 22, 3) := by decide +kernel
theorem dL_law_2074 : decode cL_law 2074 = .ok (.goto 1826, 3) := by decide +kernel
theorem dL_law_2077 : decode cL_law 2077 = .ok (.aload_n 1, 1) := by decide +kernel
theorem dL_law_2078 : decode cL_law 2078 = .ok (.aload_n 0, 1) := by decide +kernel
theorem dL_law_2079 : decode cL_law 2079 = .ok (.iload 5, 2) := by decide +kernel
theorem dL_law_2081 : decode cL_law 2081 = .ok (.iconst 1, 1) := by decide +kernel
theorem dL_law_2082 : decode cL_law 2082 = .ok (.iadd, 1) := by decide +kernel
theorem dL_law_2083 : decode cL_law 2083 = .ok (.iaload, 1) := by decide +kernel
theorem dL_law_2084 : decode cL_law 2084 = .ok (.aload_n 3, 1) := by decide +kernel
theorem dL_law_2085 : decode cL_law 2085 = .ok (.invokestatic 300, 3) := by decide +kernel
theorem dL_law_2088 : decode cL_law 2088 = .ok (.istore 6, 2) := by decide +kernel
theorem dL_law_2090 : decode cL_law 2090 = .ok (.aload_n 2, 1) := by decide +kernel
theorem dL_law_2091 : decode cL_law 2091 = .ok (.aload_n 0, 1) := by decide +kernel
theorem dL_law_2092 : decode cL_law 2092 = .ok (.iload 5, 2) := by decide +kernel
theorem dL_law_2094 : decode cL_law 2094 = .ok (.iconst 1, 1) := by decide +kernel
theorem dL_law_2095 : decode cL_law 2095 = .ok (.iadd, 1) := by decide +kernel
theorem dL_law_2096 : decode cL_law 2096 = .ok (.iaload, 1) := by decide +kernel
theorem dL_law_2097 : decode cL_law 2097 = .ok (.invokevirtual 302, 3) := by decide +kernel
theorem dL_law_2100 : decode cL_law 2100 = .ok (.istore 7, 2) := by decide +kernel
theorem dL_law_2102 : decode cL_law 2102 = .ok (.aload_n 2, 1) := by decide +kernel
theorem dL_law_2103 : decode cL_law 2103 = .ok (.invokevirtual 204, 3) := by decide +kernel
theorem dL_law_2106 : decode cL_law 2106 = .ok (.iload 6, 2) := by decide +kernel
theorem dL_law_2108 : decode cL_law 2108 = .ok (.if_icmp .eq 5, 3) := by decide +kernel
theorem dL_law_2113 : decode cL_law 2113 = .ok (.iload 6, 2) := by decide +kernel
theorem dL_law_2115 : decode cL_law 2115 = .ok (.ifCond .ne 15, 3) := by decide +kernel
theorem dL_law_2130 : decode cL_law 2130 = .ok (.goto 1770, 3) := by decide +kernel
theorem dL_law_2133 : decode cL_law 2133 = .ok (.aload_n 1, 1) := by decide +kernel
theorem dL_law_2134 : decode cL_law 2134 = .ok (.aload_n 0, 1) := by decide +kernel
theorem dL_law_2135 : decode cL_law 2135 = .ok (.iload 5, 2) := by decide +kernel
theorem dL_law_2137 : decode cL_law 2137 = .ok (.iconst 1, 1) := by decide +kernel
theorem dL_law_2138 : decode cL_law 2138 = .ok (.iadd, 1) := by decide +kernel
theorem dL_law_2139 : decode cL_law 2139 = .ok (.iaload, 1) := by decide +kernel
theorem dL_law_2140 : decode cL_law 2140 = .ok (.aload_n 0, 1) := by decide +kernel
theorem dL_law_2141 : decode cL_law 2141 = .ok (.iload 5, 2) := by decide +kernel
theorem dL_law_2143 : decode cL_law 2143 = .ok (.iconst 2, 1) := by decide +kernel
theorem dL_law_2144 : decode cL_law 2144 = .ok (.iadd, 1) := by decide +kernel
theorem dL_law_2145 : decode cL_law 2145 = .ok (.iaload, 1) := by decide +kernel
theorem dL_law_2146 : decode cL_law 2146 = .ok (.aload_n 0, 1) := by decide +kernel
theorem dL_law_2147 : decode cL_law 2147 = .ok (.iload 5, 2) := by decide +kernel
theorem dL_law_2149 : decode cL_law 2149 = .ok (.iconst 3, 1) := by decide +kernel
theorem dL_law_2150 : decode cL_law 2150 = .ok (.iadd, 1) := by decide +kernel
theorem dL_law_2151 : decode cL_law 2151 = .ok (.iaload, 1) := by decide +kernel
theorem dL_law_2152 : decode cL_law 2152 = .ok (.aload_n 3, 1) := by decide +kernel
theorem dL_law_2153 : decode cL_law 2153 = .ok (.invokestatic 303, 3) := by decide +kernel
theorem dL_law_2156 : decode cL_law 2156 = .ok (.istore 6, 2) := by decide +kernel
theorem dL_law_2158 : decode cL_law 2158 = .ok (.aload_n 2, 1) := by decide +kernel
theorem dL_law_2159 : decode cL_law 2159 = .ok (.aload_n 0, 1) := by decide +kernel
theorem dL_law_2160 : decode cL_law 2160 = .ok (.iload 5, 2) := by decide +kernel
theorem dL_law_2162 : decode cL_law 2162 = .ok (.iconst 1, 1) := by decide +kernel
theorem dL_law_2163 : decode cL_law 2163 = .ok (.iadd, 1) := by decide +kernel
theorem dL_law_2164 : decode cL_law 2164 = .ok (.iaload, 1) := by decide +kernel
theorem dL_law_2165 : decode cL_law 2165 = .ok (.aload_n 0, 1) := by decide +kernel
theorem dL_law_2166 : decode cL_law 2166 = .ok (.iload 5, 2) := by decide +kernel
theorem dL_law_2168 : decode cL_law 2168 = .ok (.iconst 2, 1) := by decide +kernel
theorem dL_law_2169 : decode cL_law 2169 = .ok (.iadd, 1) := by decide +kernel
theorem dL_law_2170 : decode cL_law 2170 = .ok (.iaload, 1) := by decide +kernel
theorem dL_law_2171 : decode cL_law 2171 = .ok (.aload_n 0, 1) := by decide +kernel
theorem dL_law_2172 : decode cL_law 2172 = .ok (.iload 5, 2) := by decide +kernel
theorem dL_law_2174 : decode cL_law 2174 = .ok (.iconst 3, 1) := by decide +kernel
theorem dL_law_2175 : decode cL_law 2175 = .ok (.iadd, 1) := by decide +kernel
theorem dL_law_2176 : decode cL_law 2176 = .ok (.iaload, 1) := by decide +kernel
theorem dL_law_2177 : decode cL_law 2177 = .ok (.invokevirtual 306, 3) := by decide +kernel
theorem dL_law_2180 : decode cL_law 2180 = .ok (.istore 7, 2) := by decide +kernel
theorem dL_law_2182 : decode cL_law 2182 = .ok (.aload_n 2, 1) := by decide +kernel
theorem dL_law_2183 : decode cL_law 2183 = .ok (.invokevirtual 204, 3) := by decide +kernel
theorem dL_law_2186 : decode cL_law 2186 = .ok (.iload 6, 2) := by decide +kernel
theorem dL_law_2188 : decode cL_law 2188 = .ok (.if_icmp .eq 5, 3) := by decide +kernel
theorem dL_law_2193 : decode cL_law 2193 = .ok (.iload 6, 2) := by decide +kernel
theorem dL_law_2195 : decode cL_law 2195 = .ok (.ifCond .ne 15, 3) := by decide +kernel
theorem dL_law_2210 : decode cL_law 2210 = .ok (.goto 1690, 3) := by decide +kernel
theorem dL_law_2213 : decode cL_law 2213 = .ok (.aload_n 1, 1) := by decide +kernel
theorem dL_law_2214 : decode cL_law 2214 = .ok (.aload_n 0, 1) := by decide +kernel
theorem dL_law_2215 : decode cL_law 2215 = .ok (.iload 5, 2) := by decide +kernel
theorem dL_law_2217 : decode cL_law 2217 = .ok (.iconst 1, 1) := by decide +kernel
theorem dL_law_2218 : decode cL_law 2218 = .ok (.iadd, 1) := by decide +kernel
theorem dL_law_2219 : decode cL_law 2219 = .ok (.iaload, 1) := by decide +kernel
theorem dL_law_2220 : decode cL_law 2220 = .ok (.aload_n 0, 1) := by decide +kernel
theorem dL_law_2221 : decode cL_law 2221 = .ok (.iload 5, 2) := by decide +kernel
theorem dL_law_2223 : decode cL_law 2223 = .ok (.iconst 2, 1) := by decide +kernel
theorem dL_law_2224 : decode cL_law 2224 = .ok (.iadd, 1) := by decide +kernel
theorem dL_law_2225 : decode cL_law 2225 = .ok (.iaload, 1) := by decide +kernel
theorem dL_law_2226 : decode cL_law 2226 = .ok (.aload_n 0, 1) := by decide +kernel
theorem dL_law_2227 : decode cL_law 2227 = .ok (.iload 5, 2) := by decide +kernel
theorem dL_law_2229 : decode cL_law 2229 = .ok (.iconst 3, 1) := by decide +kernel
theorem dL_law_2230 : decode cL_law 2230 = .ok (.iadd, 1) := by decide +kernel
theorem dL_law_2231 : decode cL_law 2231 = .ok (.iaload, 1) := by decide +kernel
theorem dL_law_2232 : decode cL_law 2232 = .ok (.aload_n 3, 1) := by decide +kernel
theorem dL_law_2233 : decode cL_law 2233 = .ok (.invokestatic 307, 3) := by decide +kernel
theorem dL_law_2236 : decode cL_law 2236 = .ok (.istore 6, 2) := by decide +kernel
theorem dL_law_2238 : decode cL_law 2238 = .ok (.aload_n 2, 1) := by decide +kernel
theorem dL_law_2239 : decode cL_law 2239 = .ok (.aload_n 0, 1) := by decide +kernel
theorem dL_law_2240 : decode cL_law 2240 = .ok (.iload 5, 2) := by decide +kernel
theorem dL_law_2242 : decode cL_law 2242 = .ok (.iconst 1, 1) := by decide +kernel
theorem dL_law_2243 : decode cL_law 2243 = .ok (.iadd, 1) := by decide +kernel
theorem dL_law_2244 : decode cL_law 2244 = .ok (.iaload, 1) := by decide +kernel
theorem dL_law_2245 : decode cL_law 2245 = .ok (.aload_n 0, 1) := by decide +kernel
theorem dL_law_2246 : decode cL_law 2246 = .ok (.iload 5, 2) := by decide +kernel
theorem dL_law_2248 : decode cL_law 2248 = .ok (.iconst 2, 1) := by decide +kernel
theorem dL_law_2249 : decode cL_law 2249 = .ok (.iadd, 1) := by decide +kernel
theorem dL_law_2250 : decode cL_law 2250 = .ok (.iaload, 1) := by decide +kernel
theorem dL_law_2251 : decode cL_law 2251 = .ok (.aload_n 0, 1) := by decide +kernel
theorem dL_law_2252 : decode cL_law 2252 = .ok (.iload 5, 2) := by decide +kernel
theorem dL_law_2254 : decode cL_law 2254 = .ok (.iconst 3, 1) := by decide +kernel
theorem dL_law_2255 : decode cL_law 2255 = .ok (.iadd, 1) := by decide +kernel
theorem dL_law_2256 : decode cL_law 2256 = .ok (.iaload, 1) := by decide +kernel
theorem dL_law_2257 : decode cL_law 2257 = .ok (.invokevirtual 309, 3) := by decide +kernel
theorem dL_law_2260 : decode cL_law 2260 = .ok (.istore 7, 2) := by decide +kernel
theorem dL_law_2262 : decode cL_law 2262 = .ok (.aload_n 2, 1) := by decide +kernel
theorem dL_law_2263 : decode cL_law 2263 = .ok (.invokevirtual 204, 3) := by decide +kernel
theorem dL_law_2266 : decode cL_law 2266 = .ok (.iload 6, 2) := by decide +kernel
theorem dL_law_2268 : decode cL_law 2268 = .ok (.if_icmp .eq 5, 3) := by decide +kernel
theorem dL_law_2273 : decode cL_law 2273 = .ok (.iload 6, 2) := by decide +kernel
theorem dL_law_2275 : decode cL_law 2275 = .ok (.ifCond .ne 15, 3) := by decide +kernel
theorem dL_law_2290 : decode cL_law 2290 = .ok (.goto 1610, 3) := by decide +kernel
theorem dL_law_2293 : decode cL_law 2293 = .ok (.aload_n 1, 1) := by decide +kernel
theorem dL_law_2294 : decode cL_law 2294 = .ok (.aload_n 0, 1) := by decide +kernel
theorem dL_law_2295 : decode cL_law 2295 = .ok (.iload 5, 2) := by decide +kernel
theorem dL_law_2297 : decode cL_law 2297 = .ok (.iconst 1, 1) := by decide +kernel
theorem dL_law_2298 : decode cL_law 2298 = .ok (.iadd, 1) := by decide +kernel
theorem dL_law_2299 : decode cL_law 2299 = .ok (.iaload, 1) := by decide +kernel
theorem dL_law_2300 : decode cL_law 2300 = .ok (.aload_n 0, 1) := by decide +kernel
theorem dL_law_2301 : decode cL_law 2301 = .ok (.iload 5, 2) := by decide +kernel
theorem dL_law_2303 : decode cL_law 2303 = .ok (.iconst 2, 1) := by decide +kernel
theorem dL_law_2304 : decode cL_law 2304 = .ok (.iadd, 1) := by decide +kernel
theorem dL_law_2305 : decode cL_law 2305 = .ok (.iaload, 1) := by decide +kernel
theorem dL_law_2306 : decode cL_law 2306 = .ok (.aload_n 0, 1) := by decide +kernel
theorem dL_law_2307 : decode cL_law 2307 = .ok (.iload 5, 2) := by decide +kernel
theorem dL_law_2309 : decode cL_law 2309 = .ok (.iconst 3, 1) := by decide +kernel
theorem dL_law_2310 : decode cL_law 2310 = .ok (.iadd, 1) := by decide +kernel
theorem dL_law_2311 : decode cL_law 2311 = .ok (.iaload, 1) := by decide +kernel
theorem dL_law_2312 : decode cL_law 2312 = .ok (.aload_n 3, 1) := by decide +kernel
theorem dL_law_2313 : decode cL_law 2313 = .ok (.invokestatic 310, 3) := by decide +kernel
theorem dL_law_2316 : decode cL_law 2316 = .ok (.istore 6, 2) := by decide +kernel
theorem dL_law_2318 : decode cL_law 2318 = .ok (.aload_n 2, 1) := by decide +kernel
theorem dL_law_2319 : decode cL_law 2319 = .ok (.aload_n 0, 1) := by decide +kernel
theorem dL_law_2320 : decode cL_law 2320 = .ok (.iload 5, 2) := by decide +kernel
theorem dL_law_2322 : decode cL_law 2322 = .ok (.iconst 1, 1) := by decide +kernel
theorem dL_law_2323 : decode cL_law 2323 = .ok (.iadd, 1) := by decide +kernel
theorem dL_law_2324 : decode cL_law 2324 = .ok (.iaload, 1) := by decide +kernel
theorem dL_law_2325 : decode cL_law 2325 = .ok (.aload_n 0, 1) := by decide +kernel
theorem dL_law_2326 : decode cL_law 2326 = .ok (.iload 5, 2) := by decide +kernel
theorem dL_law_2328 : decode cL_law 2328 = .ok (.iconst 2, 1) := by decide +kernel
theorem dL_law_2329 : decode cL_law 2329 = .ok (.iadd, 1) := by decide +kernel
theorem dL_law_2330 : decode cL_law 2330 = .ok (.iaload, 1) := by decide +kernel
theorem dL_law_2331 : decode cL_law 2331 = .ok (.aload_n 0, 1) := by decide +kernel
theorem dL_law_2332 : decode cL_law 2332 = .ok (.iload 5, 2) := by decide +kernel
theorem dL_law_2334 : decode cL_law 2334 = .ok (.iconst 3, 1) := by decide +kernel
theorem dL_law_2335 : decode cL_law 2335 = .ok (.iadd, 1) := by decide +kernel
theorem dL_law_2336 : decode cL_law 2336 = .ok (.iaload, 1) := by decide +kernel
theorem dL_law_2337 : decode cL_law 2337 = .ok (.invokevirtual 312, 3) := by decide +kernel
theorem dL_law_2340 : decode cL_law 2340 = .ok (.istore 7, 2) := by decide +kernel
theorem dL_law_2342 : decode cL_law 2342 = .ok (.aload_n 2, 1) := by decide +kernel
theorem dL_law_2343 : decode cL_law 2343 = .ok (.invokevirtual 204, 3) := by decide +kernel
theorem dL_law_2346 : decode cL_law 2346 = .ok (.iload 6, 2) := by decide +kernel
theorem dL_law_2348 : decode cL_law 2348 = .ok (.if_icmp .eq 5, 3) := by decide +kernel
theorem dL_law_2353 : decode cL_law 2353 = .ok (.iload 6, 2) := by decide +kernel
theorem dL_law_2355 : decode cL_law 2355 = .ok (.ifCond .ne 15, 3) := by decide +kernel
theorem dL_law_2370 : decode cL_law 2370 = .ok (.goto 1530, 3) := by decide +kernel
theorem dL_law_2373 : decode cL_law 2373 = .ok (.aload_n 1, 1) := by decide +kernel
theorem dL_law_2374 : decode cL_law 2374 = .ok (.aload_n 0, 1) := by decide +kernel
theorem dL_law_2375 : decode cL_law 2375 = .ok (.iload 5, 2) := by decide +kernel
theorem dL_law_2377 : decode cL_law 2377 = .ok (.iconst 1, 1) := by decide +kernel
theorem dL_law_2378 : decode cL_law 2378 = .ok (.iadd, 1) := by decide +kernel
theorem dL_law_2379 : decode cL_law 2379 = .ok (.iaload, 1) := by decide +kernel
theorem dL_law_2380 : decode cL_law 2380 = .ok (.aload_n 3, 1) := by decide +kernel
theorem dL_law_2381 : decode cL_law 2381 = .ok (.invokestatic 313, 3) := by decide +kernel
theorem dL_law_2384 : decode cL_law 2384 = .ok (.istore 6, 2) := by decide +kernel
theorem dL_law_2386 : decode cL_law 2386 = .ok (.aload_n 2, 1) := by decide +kernel
theorem dL_law_2387 : decode cL_law 2387 = .ok (.aload_n 0, 1) := by decide +kernel
theorem dL_law_2388 : decode cL_law 2388 = .ok (.iload 5, 2) := by decide +kernel
theorem dL_law_2390 : decode cL_law 2390 = .ok (.iconst 1, 1) := by decide +kernel
theorem dL_law_2391 : decode cL_law 2391 = .ok (.iadd, 1) := by decide +kernel
theorem dL_law_2392 : decode cL_law 2392 = .ok (.iaload, 1) := by decide +kernel
theorem dL_law_2393 : decode cL_law 2393 = .ok (.invokevirtual 315, 3) := by decide +kernel
theorem dL_law_2396 : decode cL_law 2396 = .ok (.istore 7, 2) := by decide +kernel
theorem dL_law_2398 : decode cL_law 2398 = .ok (.aload_n 2, 1) := by decide +kernel
theorem dL_law_2399 : decode cL_law 2399 = .ok (.invokevirtual 204, 3) := by decide +kernel
theorem dL_law_2402 : decode cL_law 2402 = .ok (.iload 6, 2) := by decide +kernel
theorem dL_law_2404 : decode cL_law 2404 = .ok (.if_icmp .eq 5, 3) := by decide +kernel
theorem dL_law_2409 : decode cL_law 2409 = .ok (.iload 6, 2) := by decide +kernel
theorem dL_law_2411 : decode cL_law 2411 = .ok (.ifCond .ne 15, 3) := by decide +kernel
theorem dL_law_2426 : decode cL_law 2426 = .ok (.goto 1474, 3) := by decide +kernel
theorem dL_law_2429 : decode cL_law 2429 = .ok (.aload_n 1, 1) := by decide +kernel
theorem dL_law_2430 : decode cL_law 2430 = .ok (.aload_n 0, 1) := by decide +kernel
theorem dL_law_2431 : decode cL_law 2431 = .ok (.iload 5, 2) := by decide +kernel
theorem dL_law_2433 : decode cL_law 2433 = .ok (.iconst 1, 1) := by decide +kernel
theorem dL_law_2434 : decode cL_law 2434 = .ok (.iadd, 1) := by decide +kernel
theorem dL_law_2435 : decode cL_law 2435 = .ok (.iaload, 1) := by decide +kernel
theorem dL_law_2436 : decode cL_law 2436 = .ok (.aload_n 0, 1) := by decide +kernel
theorem dL_law_2437 : decode cL_law 2437 = .ok (.iload 5, 2) := by decide +kernel
theorem dL_law_2439 : decode cL_law 2439 = .ok (.iconst 2, 1) := by decide +kernel
theorem dL_law_2440 : decode cL_law 2440 = .ok (.iadd, 1) := by decide +kernel
theorem dL_law_2441 : decode cL_law 2441 = .ok (.iaload, 1) := by decide +kernel
theorem dL_law_2442 : decode cL_law 2442 = .ok (.aload_n 3, 1) := by decide +kernel
theorem dL_law_2443 : decode cL_law 2443 = .ok (.invokestatic 316, 3) := by decide +kernel
theorem dL_law_2446 : decode cL_law 2446 = .ok (.istore 6, 2) := by decide +kernel
theorem dL_law_2448 : decode cL_law 2448 = .ok (.aload_n 2, 1) := by decide +kernel
theorem dL_law_2449 : decode cL_law 2449 = .ok (.aload_n 0, 1) := by decide +kernel
theorem dL_law_2450 : decode cL_law 2450 = .ok (.iload 5, 2) := by decide +kernel
theorem dL_law_2452 : decode cL_law 2452 = .ok (.iconst 1, 1) := by decide +kernel
theorem dL_law_2453 : decode cL_law 2453 = .ok (.iadd, 1) := by decide +kernel
theorem dL_law_2454 : decode cL_law 2454 = .ok (.iaload, 1) := by decide +kernel
theorem dL_law_2455 : decode cL_law 2455 = .ok (.aload_n 0, 1) := by decide +kernel
theorem dL_law_2456 : decode cL_law 2456 = .ok (.iload 5, 2) := by decide +kernel
theorem dL_law_2458 : decode cL_law 2458 = .ok (.iconst 2, 1) := by decide +kernel
theorem dL_law_2459 : decode cL_law 2459 = .ok (.iadd, 1) := by decide +kernel
theorem dL_law_2460 : decode cL_law 2460 = .ok (.iaload, 1) := by decide +kernel
theorem dL_law_2461 : decode cL_law 2461 = .ok (.invokevirtual 318, 3) := by decide +kernel
theorem dL_law_2464 : decode cL_law 2464 = .ok (.istore 7, 2) := by decide +kernel
theorem dL_law_2466 : decode cL_law 2466 = .ok (.aload_n 2, 1) := by decide +kernel
theorem dL_law_2467 : decode cL_law 2467 = .ok (.invokevirtual 204, 3) := by decide +kernel
theorem dL_law_2470 : decode cL_law 2470 = .ok (.iload 6, 2) := by decide +kernel
theorem dL_law_2472 : decode cL_law 2472 = .ok (.if_icmp .eq 5, 3) := by decide +kernel
theorem dL_law_2477 : decode cL_law 2477 = .ok (.iload 6, 2) := by decide +kernel
theorem dL_law_2479 : decode cL_law 2479 = .ok (.ifCond .ne 15, 3) := by decide +kernel
theorem dL_law_2494 : decode cL_law 2494 = .ok (.goto 1406, 3) := by decide +kernel
theorem dL_law_2497 : decode cL_law 2497 = .ok (.aload_n 1, 1) := by decide +kernel
theorem dL_law_2498 : decode cL_law 2498 = .ok (.aload_n 0, 1) := by decide +kernel
theorem dL_law_2499 : decode cL_law 2499 = .ok (.iload 5, 2) := by decide +kernel
theorem dL_law_2501 : decode cL_law 2501 = .ok (.iconst 1, 1) := by decide +kernel
theorem dL_law_2502 : decode cL_law 2502 = .ok (.iadd, 1) := by decide +kernel
theorem dL_law_2503 : decode cL_law 2503 = .ok (.iaload, 1) := by decide +kernel
theorem dL_law_2504 : decode cL_law 2504 = .ok (.aload_n 0, 1) := by decide +kernel
theorem dL_law_2505 : decode cL_law 2505 = .ok (.iload 5, 2) := by decide +kernel
theorem dL_law_2507 : decode cL_law 2507 = .ok (.iconst 2, 1) := by decide +kernel
theorem dL_law_2508 : decode cL_law 2508 = .ok (.iadd, 1) := by decide +kernel
theorem dL_law_2509 : decode cL_law 2509 = .ok (.iaload, 1) := by decide +kernel
theorem dL_law_2510 : decode cL_law 2510 = .ok (.aload_n 3, 1) := by decide +kernel
theorem dL_law_2511 : decode cL_law 2511 = .ok (.invokestatic 319, 3) := by decide +kernel
theorem dL_law_2514 : decode cL_law 2514 = .ok (.istore 6, 2) := by decide +kernel
theorem dL_law_2516 : decode cL_law 2516 = .ok (.aload_n 2, 1) := by decide +kernel
theorem dL_law_2517 : decode cL_law 2517 = .ok (.aload_n 0, 1) := by decide +kernel
theorem dL_law_2518 : decode cL_law 2518 = .ok (.iload 5, 2) := by decide +kernel
theorem dL_law_2520 : decode cL_law 2520 = .ok (.iconst 1, 1) := by decide +kernel
theorem dL_law_2521 : decode cL_law 2521 = .ok (.iadd, 1) := by decide +kernel
theorem dL_law_2522 : decode cL_law 2522 = .ok (.iaload, 1) := by decide +kernel
theorem dL_law_2523 : decode cL_law 2523 = .ok (.aload_n 0, 1) := by decide +kernel
theorem dL_law_2524 : decode cL_law 2524 = .ok (.iload 5, 2) := by decide +kernel
theorem dL_law_2526 : decode cL_law 2526 = .ok (.iconst 2, 1) := by decide +kernel
theorem dL_law_2527 : decode cL_law 2527 = .ok (.iadd, 1) := by decide +kernel
theorem dL_law_2528 : decode cL_law 2528 = .ok (.iaload, 1) := by decide +kernel
theorem dL_law_2529 : decode cL_law 2529 = .ok (.invokevirtual 321, 3) := by decide +kernel
theorem dL_law_2532 : decode cL_law 2532 = .ok (.istore 7, 2) := by decide +kernel
theorem dL_law_2534 : decode cL_law 2534 = .ok (.aload_n 2, 1) := by decide +kernel
theorem dL_law_2535 : decode cL_law 2535 = .ok (.invokevirtual 204, 3) := by decide +kernel
theorem dL_law_2538 : decode cL_law 2538 = .ok (.iload 6, 2) := by decide +kernel
theorem dL_law_2540 : decode cL_law 2540 = .ok (.if_icmp .eq 5, 3) := by decide +kernel
theorem dL_law_2545 : decode cL_law 2545 = .ok (.iload 6, 2) := by decide +kernel
theorem dL_law_2547 : decode cL_law 2547 = .ok (.ifCond .ne 15, 3) := by decide +kernel
theorem dL_law_2562 : decode cL_law 2562 = .ok (.goto 1338, 3) := by decide +kernel
theorem dL_law_2565 : decode cL_law 2565 = .ok (.aload_n 1, 1) := by decide +kernel
theorem dL_law_2566 : decode cL_law 2566 = .ok (.aload_n 0, 1) := by decide +kernel
theorem dL_law_2567 : decode cL_law 2567 = .ok (.iload 5, 2) := by decide +kernel
theorem dL_law_2569 : decode cL_law 2569 = .ok (.iconst 1, 1) := by decide +kernel
theorem dL_law_2570 : decode cL_law 2570 = .ok (.iadd, 1) := by decide +kernel
theorem dL_law_2571 : decode cL_law 2571 = .ok (.iaload, 1) := by decide +kernel
theorem dL_law_2572 : decode cL_law 2572 = .ok (.aload_n 0, 1) := by decide +kernel
theorem dL_law_2573 : decode cL_law 2573 = .ok (.iload 5, 2) := by decide +kernel
theorem dL_law_2575 : decode cL_law 2575 = .ok (.iconst 2, 1) := by decide +kernel
theorem dL_law_2576 : decode cL_law 2576 = .ok (.iadd, 1) := by decide +kernel
theorem dL_law_2577 : decode cL_law 2577 = .ok (.iaload, 1) := by decide +kernel
theorem dL_law_2578 : decode cL_law 2578 = .ok (.aload_n 3, 1) := by decide +kernel
theorem dL_law_2579 : decode cL_law 2579 = .ok (.invokestatic 322, 3) := by decide +kernel
theorem dL_law_2582 : decode cL_law 2582 = .ok (.istore 6, 2) := by decide +kernel
theorem dL_law_2584 : decode cL_law 2584 = .ok (.aload_n 2, 1) := by decide +kernel
theorem dL_law_2585 : decode cL_law 2585 = .ok (.aload_n 0, 1) := by decide +kernel
theorem dL_law_2586 : decode cL_law 2586 = .ok (.iload 5, 2) := by decide +kernel
theorem dL_law_2588 : decode cL_law 2588 = .ok (.iconst 1, 1) := by decide +kernel
theorem dL_law_2589 : decode cL_law 2589 = .ok (.iadd, 1) := by decide +kernel
theorem dL_law_2590 : decode cL_law 2590 = .ok (.iaload, 1) := by decide +kernel
theorem dL_law_2591 : decode cL_law 2591 = .ok (.aload_n 0, 1) := by decide +kernel
theorem dL_law_2592 : decode cL_law 2592 = .ok (.iload 5, 2) := by decide +kernel
theorem dL_law_2594 : decode cL_law 2594 = .ok (.iconst 2, 1) := by decide +kernel
theorem dL_law_2595 : decode cL_law 2595 = .ok (.iadd, 1) := by decide +kernel
theorem dL_law_2596 : decode cL_law 2596 = .ok (.iaload, 1) := by decide +kernel
theorem dL_law_2597 : decode cL_law 2597 = .ok (.invokevirtual 324, 3) := by decide +kernel
theorem dL_law_2600 : decode cL_law 2600 = .ok (.istore 7, 2) := by decide +kernel
theorem dL_law_2602 : decode cL_law 2602 = .ok (.aload_n 2, 1) := by decide +kernel
theorem dL_law_2603 : decode cL_law 2603 = .ok (.invokevirtual 204, 3) := by decide +kernel
theorem dL_law_2606 : decode cL_law 2606 = .ok (.iload 6, 2) := by decide +kernel
theorem dL_law_2608 : decode cL_law 2608 = .ok (.if_icmp .eq 5, 3) := by decide +kernel
theorem dL_law_2613 : decode cL_law 2613 = .ok (.iload 6, 2) := by decide +kernel
theorem dL_law_2615 : decode cL_law 2615 = .ok (.ifCond .ne 15, 3) := by decide +kernel
theorem dL_law_2630 : decode cL_law 2630 = .ok (.goto 1270, 3) := by decide +kernel
theorem dL_law_2633 : decode cL_law 2633 = .ok (.aload_n 1, 1) := by decide +kernel
theorem dL_law_2634 : decode cL_law 2634 = .ok (.aload_n 3, 1) := by decide +kernel
theorem dL_law_2635 : decode cL_law 2635 = .ok (.invokestatic 325, 3) := by decide +kernel
theorem dL_law_2638 : decode cL_law 2638 = .ok (.istore 6, 2) := by decide +kernel
theorem dL_law_2640 : decode cL_law 2640 = .ok (.aload_n 2, 1) := by decide +kernel
theorem dL_law_2641 : decode cL_law 2641 = .ok (.invokevirtual 327, 3) := by decide +kernel
theorem dL_law_2644 : decode cL_law 2644 = .ok (.istore 7, 2) := by decide +kernel
theorem dL_law_2646 : decode cL_law 2646 = .ok (.aload_n 2, 1) := by decide +kernel
theorem dL_law_2647 : decode cL_law 2647 = .ok (.invokevirtual 204, 3) := by decide +kernel
theorem dL_law_2650 : decode cL_law 2650 = .ok (.iload 6, 2) := by decide +kernel
theorem dL_law_2652 : decode cL_law 2652 = .ok (.if_icmp .eq 5, 3) := by decide +kernel
theorem dL_law_2657 : decode cL_law 2657 = .ok (.iload 6, 2) := by decide +kernel
theorem dL_law_2659 : decode cL_law 2659 = .ok (.ifCond .ne 15, 3) := by decide +kernel
theorem dL_law_2674 : decode cL_law 2674 = .ok (.goto 1226, 3) := by decide +kernel
theorem dL_law_2677 : decode cL_law 2677 = .ok (.aload_n 1, 1) := by decide +kernel
theorem dL_law_2678 : decode cL_law 2678 = .ok (.aload_n 0, 1) := by decide +kernel
theorem dL_law_2679 : decode cL_law 2679 = .ok (.iload 5, 2) := by decide +kernel
theorem dL_law_2681 : decode cL_law 2681 = .ok (.iconst 1, 1) := by decide +kernel
theorem dL_law_2682 : decode cL_law 2682 = .ok (.iadd, 1) := by decide +kernel
theorem dL_law_2683 : decode cL_law 2683 = .ok (.iaload, 1) := by decide +kernel
theorem dL_law_2684 : decode cL_law 2684 = .ok (.invokevirtual 328, 3) := by decide +kernel
theorem dL_law_2687 : decode cL_law 2687 = .ok (.aload_n 2, 1) := by decide +kernel
theorem dL_law_2688 : decode cL_law 2688 = .ok (.aload_n 0, 1) := by decide +kernel
theorem dL_law_2689 : decode cL_law 2689 = .ok (.iload 5, 2) := by decide +kernel
theorem dL_law_2691 : decode cL_law 2691 = .ok (.iconst 1, 1) := by decide +kernel
theorem dL_law_2692 : decode cL_law 2692 = .ok (.iadd, 1) := by decide +kernel
theorem dL_law_2693 : decode cL_law 2693 = .ok (.iaload, 1) := by decide +kernel
theorem dL_law_2694 : decode cL_law 2694 = .ok (.invokevirtual 331, 3) := by decide +kernel
theorem dL_law_2697 : decode cL_law 2697 = .ok (.if_icmp .eq 1203, 3) := by decide +kernel
theorem dL_law_2702 : decode cL_law 2702 = .ok (.aload_n 1, 1) := by decide +kernel
theorem dL_law_2703 : decode cL_law 2703 = .ok (.aload_n 0, 1) := by decide +kernel
theorem dL_law_2704 : decode cL_law 2704 = .ok (.iload 5, 2) := by decide +kernel
theorem dL_law_2706 : decode cL_law 2706 = .ok (.iconst 1, 1) := by decide +kernel
theorem dL_law_2707 : decode cL_law 2707 = .ok (.iadd, 1) := by decide +kernel
theorem dL_law_2708 : decode cL_law 2708 = .ok (.iaload, 1) := by decide +kernel
theorem dL_law_2709 : decode cL_law 2709 = .ok (.aload_n 0, 1) := by decide +kernel
theorem dL_law_2710 : decode cL_law 2710 = .ok (.iload 5, 2) := by decide +kernel
theorem dL_law_2712 : decode cL_law 2712 = .ok (.iconst 2, 1) := by decide +kernel
theorem dL_law_2713 : decode cL_law 2713 = .ok (.iadd, 1) := by decide +kernel
theorem dL_law_2714 : decode cL_law 2714 = .ok (.iaload, 1) := by decide +kernel
theorem dL_law_2715 : decode cL_law 2715 = .ok (.aload_n 3, 1) := by decide +kernel
theorem dL_law_2716 : decode cL_law 2716 = .ok (.invokestatic 332, 3) := by decide +kernel
theorem dL_law_2719 : decode cL_law 2719 = .ok (.istore 6, 2) := by decide +kernel
theorem dL_law_2721 : decode cL_law 2721 = .ok (.aload_n 2, 1) := by decide +kernel
theorem dL_law_2722 : decode cL_law 2722 = .ok (.aload_n 0, 1) := by decide +kernel
theorem dL_law_2723 : decode cL_law 2723 = .ok (.iload 5, 2) := by decide +kernel
theorem dL_law_2725 : decode cL_law 2725 = .ok (.iconst 1, 1) := by decide +kernel
theorem dL_law_2726 : decode cL_law 2726 = .ok (.iadd, 1) := by decide +kernel
theorem dL_law_2727 : decode cL_law 2727 = .ok (.iaload, 1) := by decide +kernel
theorem dL_law_2728 : decode cL_law 2728 = .ok (.aload_n 0, 1) := by decide +kernel
theorem dL_law_2729 : decode cL_law 2729 = .ok (.iload 5, 2) := by decide +kernel
theorem dL_law_2731 : decode cL_law 2731 = .ok (.iconst 2, 1) := by decide +kernel
theorem dL_law_2732 : decode cL_law 2732 = .ok (.iadd, 1) := by decide +kernel
theorem dL_law_2733 : decode cL_law 2733 = .ok (.iaload, 1) := by decide +kernel
theorem dL_law_2734 : decode cL_law 2734 = .ok (.invokevirtual 334, 3) := by decide +kernel
theorem dL_law_2737 : decode cL_law 2737 = .ok (.istore 7, 2) := by decide +kernel
theorem dL_law_2739 : decode cL_law 2739 = .ok (.aload_n 2, 1) := by decide +kernel
theorem dL_law_2740 : decode cL_law 2740 = .ok (.invokevirtual 204, 3) := by decide +kernel
theorem dL_law_2743 : decode cL_law 2743 = .ok (.iload 6, 2) := by decide +kernel
theorem dL_law_2745 : decode cL_law 2745 = .ok (.if_icmp .eq 5, 3) := by decide +kernel
theorem dL_law_2750 : decode cL_law 2750 = .ok (.iload 6, 2) := by decide +kernel
theorem dL_law_2752 : decode cL_law 2752 = .ok (.ifCond .ne 15, 3) := by decide +kernel
theorem dL_law_2767 : decode cL_law 2767 = .ok (.goto 1133, 3) := by decide +kernel
theorem dL_law_2770 : decode cL_law 2770 = .ok (.aload_n 1, 1) := by decide +kernel
theorem dL_law_2771 : decode cL_law 2771 = .ok (.aload_n 0, 1) := by decide +kernel
theorem dL_law_2772 : decode cL_law 2772 = .ok (.iload 5, 2) := by decide +kernel
theorem dL_law_2774 : decode cL_law 2774 = .ok (.iconst 1, 1) := by decide +kernel
theorem dL_law_2775 : decode cL_law 2775 = .ok (.iadd, 1) := by decide +kernel
theorem dL_law_2776 : decode cL_law 2776 = .ok (.iaload, 1) := by decide +kernel
theorem dL_law_2777 : decode cL_law 2777 = .ok (.aload_n 3, 1) := by decide +kernel
theorem dL_law_2778 : decode cL_law 2778 = .ok (.invokestatic 335, 3) := by decide +kernel
theorem dL_law_2781 : decode cL_law 2781 = .ok (.istore 6, 2) := by decide +kernel
theorem dL_law_2783 : decode cL_law 2783 = .ok (.aload_n 2, 1) := by decide +kernel
theorem dL_law_2784 : decode cL_law 2784 = .ok (.aload_n 0, 1) := by decide +kernel
theorem dL_law_2785 : decode cL_law 2785 = .ok (.iload 5, 2) := by decide +kernel
theorem dL_law_2787 : decode cL_law 2787 = .ok (.iconst 1, 1) := by decide +kernel
theorem dL_law_2788 : decode cL_law 2788 = .ok (.iadd, 1) := by decide +kernel
theorem dL_law_2789 : decode cL_law 2789 = .ok (.iaload, 1) := by decide +kernel
theorem dL_law_2790 : decode cL_law 2790 = .ok (.invokevirtual 337, 3) := by decide +kernel
theorem dL_law_2793 : decode cL_law 2793 = .ok (.istore 7, 2) := by decide +kernel
theorem dL_law_2795 : decode cL_law 2795 = .ok (.aload_n 2, 1) := by decide +kernel
theorem dL_law_2796 : decode cL_law 2796 = .ok (.invokevirtual 204, 3) := by decide +kernel
theorem dL_law_2799 : decode cL_law 2799 = .ok (.iload 6, 2) := by decide +kernel
theorem dL_law_2801 : decode cL_law 2801 = .ok (.if_icmp .eq 5, 3) := by decide +kernel
theorem dL_law_2806 : decode cL_law 2806 = .ok (.iload 6, 2) := by decide +kernel
theorem dL_law_2808 : decode cL_law 2808 = .ok (.ifCond .ne 15, 3) := by decide +kernel
theorem dL_law_2811 : decode cL_law 2811 = .ok (.aload_n 3, 1) := by decide +kernel
theorem dL_law_2812 : decode cL_law 2812 = .ok (.iconst 0, 1) := by decide +kernel
theorem dL_law_2813 : decode cL_law 2813 = .ok (.laload, 1) := by decide +kernel
theorem dL_law_2814 : decode cL_law 2814 = .ok (.iload 7, 2) := by decide +kernel
theorem dL_law_2816 : decode cL_law 2816 = .ok (.i2l, 1) := by decide +kernel
theorem dL_law_2817 : decode cL_law 2817 = .ok (.lcmp, 1) := by decide +kernel
theorem dL_law_2818 : decode cL_law 2818 = .ok (.ifCond .eq 5, 3) := by decide +kernel
theorem dL_law_2823 : decode cL_law 2823 = .ok (.goto 1077, 3) := by decide +kernel
theorem dL_law_2826 : decode cL_law 2826 = .ok (.aload_n 1, 1) := by decide +kernel
theorem dL_law_2827 : decode cL_law 2827 = .ok (.invokevirtual 338, 3) := by decide +kernel
theorem dL_law_2830 : decode cL_law 2830 = .ok (.aload_n 2, 1) := by decide +kernel
theorem dL_law_2831 : decode cL_law 2831 = .ok (.invokevirtual 341, 3) := by decide +kernel
theorem dL_law_2834 : decode cL_law 2834 = .ok (.if_icmp .eq 1066, 3) := by decide +kernel
theorem dL_law_2839 : decode cL_law 2839 = .ok (.aload_n 1, 1) := by decide +kernel
theorem dL_law_2840 : decode cL_law 2840 = .ok (.aload_n 0, 1) := by decide +kernel
theorem dL_law_2841 : decode cL_law 2841 = .ok (.iload 5, 2) := by decide +kernel
theorem dL_law_2843 : decode cL_law 2843 = .ok (.iconst 1, 1) := by decide +kernel
theorem dL_law_2844 : decode cL_law 2844 = .ok (.iadd, 1) := by decide +kernel
theorem dL_law_2845 : decode cL_law 2845 = .ok (.iaload, 1) := by decide +kernel
theorem dL_law_2846 : decode cL_law 2846 = .ok (.aload_n 0, 1) := by decide +kernel
theorem dL_law_2847 : decode cL_law 2847 = .ok (.iload 5, 2) := by decide +kernel
theorem dL_law_2849 : decode cL_law 2849 = .ok (.iconst 2, 1) := by decide +kernel
theorem dL_law_2850 : decode cL_law 2850 = .ok (.iadd, 1) := by decide +kernel
theorem dL_law_2851 : decode cL_law 2851 = .ok (.iaload, 1) := by decide +kernel
theorem dL_law_2852 : decode cL_law 2852 = .ok (.aload_n 3, 1) := by decide +kernel
theorem dL_law_2853 : decode cL_law 2853 = .ok (.invokestatic 342, 3) := by decide +kernel
theorem dL_law_2856 : decode cL_law 2856 = .ok (.istore 6, 2) := by decide +kernel
theorem dL_law_2858 : decode cL_law 2858 = .ok (.aload_n 2, 1) := by decide +kernel
theorem dL_law_2859 : decode cL_law 2859 = .ok (.aload_n 0, 1) := by decide +kernel
theorem dL_law_2860 : decode cL_law 2860 = .ok (.iload 5, 2) := by decide +kernel
theorem dL_law_2862 : decode cL_law 2862 = .ok (.iconst 1, 1) := by decide +kernel
theorem dL_law_2863 : decode cL_law 2863 = .ok (.iadd, 1) := by decide +kernel
theorem dL_law_2864 : decode cL_law 2864 = .ok (.iaload, 1) := by decide +kernel
theorem dL_law_2865 : decode cL_law 2865 = .ok (.aload_n 0, 1) := by decide +kernel
theorem dL_law_2866 : decode cL_law 2866 = .ok (.iload 5, 2) := by decide +kernel
theorem dL_law_2868 : decode cL_law 2868 = .ok (.iconst 2, 1) := by decide +kernel
theorem dL_law_2869 : decode cL_law 2869 = .ok (.iadd, 1) := by decide +kernel
theorem dL_law_2870 : decode cL_law 2870 = .ok (.iaload, 1) := by decide +kernel
theorem dL_law_2871 : decode cL_law 2871 = .ok (.invokevirtual 344, 3) := by decide +kernel
theorem dL_law_2874 : decode cL_law 2874 = .ok (.istore 7, 2) := by decide +kernel
theorem dL_law_2876 : decode cL_law 2876 = .ok (.aload_n 2, 1) := by decide +kernel
theorem dL_law_2877 : decode cL_law 2877 = .ok (.invokevirtual 204, 3) := by decide +kernel
theorem dL_law_2880 : decode cL_law 2880 = .ok (.iload 6, 2) := by decide +kernel
theorem dL_law_2882 : decode cL_law 2882 = .ok (.if_icmp .eq 5, 3) := by decide +kernel
theorem dL_law_2887 : decode cL_law 2887 = .ok (.iload 6, 2) := by decide +kernel
theorem dL_law_2889 : decode cL_law 2889 = .ok (.ifCond .ne 15, 3) := by decide +kernel
theorem dL_law_2904 : decode cL_law 2904 = .ok (.goto 996, 3) := by decide +kernel
theorem dL_law_2907 : decode cL_law 2907 = .ok (.aload_n 1, 1) := by decide +kernel
theorem dL_law_2908 : decode cL_law 2908 = .ok (.aload_n 0, 1) := by decide +kernel
theorem dL_law_2909 : decode cL_law 2909 = .ok (.iload 5, 2) := by decide +kernel
theorem dL_law_2911 : decode cL_law 2911 = .ok (.iconst 1, 1) := by decide +kernel
theorem dL_law_2912 : decode cL_law 2912 = .ok (.iadd, 1) := by decide +kernel
theorem dL_law_2913 : decode cL_law 2913 = .ok (.iaload, 1) := by decide +kernel
theorem dL_law_2914 : decode cL_law 2914 = .ok (.aload_n 3, 1) := by decide +kernel
theorem dL_law_2915 : decode cL_law 2915 = .ok (.invokestatic 345, 3) := by decide +kernel
theorem dL_law_2918 : decode cL_law 2918 = .ok (.istore 6, 2) := by decide +kernel
theorem dL_law_2920 : decode cL_law 2920 = .ok (.aload_n 2, 1) := by decide +kernel
theorem dL_law_2921 : decode cL_law 2921 = .ok (.aload_n 0, 1) := by decide +kernel
theorem dL_law_2922 : decode cL_law 2922 = .ok (.iload 5, 2) := by decide +kernel
theorem dL_law_2924 : decode cL_law 2924 = .ok (.iconst 1, 1) := by decide +kernel
theorem dL_law_2925 : decode cL_law 2925 = .ok (.iadd, 1) := by decide +kernel
theorem dL_law_2926 : decode cL_law 2926 = .ok (.iaload, 1) := by decide +kernel
theorem dL_law_2927 : decode cL_law 2927 = .ok (.invokevirtual 347, 3) := by decide +kernel
theorem dL_law_2930 : decode cL_law 2930 = .ok (.istore 7, 2) := by decide +kernel
theorem dL_law_2932 : decode cL_law 2932 = .ok (.aload_n 2, 1) := by decide +kernel
theorem dL_law_2933 : decode cL_law 2933 = .ok (.invokevirtual 204, 3) := by decide +kernel
theorem dL_law_2936 : decode cL_law 2936 = .ok (.iload 6, 2) := by decide +kernel
theorem dL_law_2938 : decode cL_law 2938 = .ok (.if_icmp .eq 5, 3) := by decide +kernel
theorem dL_law_2943 : decode cL_law 2943 = .ok (.iload 6, 2) := by decide +kernel
theorem dL_law_2945 : decode cL_law 2945 = .ok (.ifCond .ne 15, 3) := by decide +kernel
theorem dL_law_2960 : decode cL_law 2960 = .ok (.goto 940, 3) := by decide +kernel
theorem dL_law_2963 : decode cL_law 2963 = .ok (.aload_n 1, 1) := by decide +kernel
theorem dL_law_2964 : decode cL_law 2964 = .ok (.aload_n 0, 1) := by decide +kernel
theorem dL_law_2965 : decode cL_law 2965 = .ok (.iload 5, 2) := by decide +kernel
theorem dL_law_2967 : decode cL_law 2967 = .ok (.iconst 1, 1) := by decide +kernel
theorem dL_law_2968 : decode cL_law 2968 = .ok (.iadd, 1) := by decide +kernel
theorem dL_law_2969 : decode cL_law 2969 = .ok (.iaload, 1) := by decide +kernel
theorem dL_law_2970 : decode cL_law 2970 = .ok (.aload_n 3, 1) := by decide +kernel
theorem dL_law_2971 : decode cL_law 2971 = .ok (.invokestatic 348, 3) := by decide +kernel
theorem dL_law_2974 : decode cL_law 2974 = .ok (.istore 6, 2) := by decide +kernel
theorem dL_law_2976 : decode cL_law 2976 = .ok (.aload_n 2, 1) := by decide +kernel
theorem dL_law_2977 : decode cL_law 2977 = .ok (.aload_n 0, 1) := by decide +kernel
theorem dL_law_2978 : decode cL_law 2978 = .ok (.iload 5, 2) := by decide +kernel
theorem dL_law_2980 : decode cL_law 2980 = .ok (.iconst 1, 1) := by decide +kernel
theorem dL_law_2981 : decode cL_law 2981 = .ok (.iadd, 1) := by decide +kernel
theorem dL_law_2982 : decode cL_law 2982 = .ok (.iaload, 1) := by decide +kernel
theorem dL_law_2983 : decode cL_law 2983 = .ok (.invokevirtual 350, 3) := by decide +kernel
theorem dL_law_2986 : decode cL_law 2986 = .ok (.istore 7, 2) := by decide +kernel
theorem dL_law_2988 : decode cL_law 2988 = .ok (.aload_n 2, 1) := by decide +kernel
theorem dL_law_2989 : decode cL_law 2989 = .ok (.invokevirtual 204, 3) := by decide +kernel
theorem dL_law_2992 : decode cL_law 2992 = .ok (.iload 6, 2) := by decide +kernel
theorem dL_law_2994 : decode cL_law 2994 = .ok (.if_icmp .eq 5, 3) := by decide +kernel
theorem dL_law_2999 : decode cL_law 2999 = .ok (.iload 6, 2) := by decide +kernel
theorem dL_law_3001 : decode cL_law 3001 = .ok (.ifCond .ne 22, 3) := by decide +kernel
theorem dL_law_3023 : decode cL_law 3023 = .ok (.goto 877, 3) := by decide +kernel
theorem dL_law_3026 : decode cL_law 3026 = .ok (.aload_n 1, 1) := by decide +kernel
theorem dL_law_3027 : decode cL_law 3027 = .ok (.aload_n 0, 1) := by decide +kernel
theorem dL_law_3028 : decode cL_law 3028 = .ok (.iload 5, 2) := by decide +kernel
theorem dL_law_3030 : decode cL_law 3030 = .ok (.iconst 1, 1) := by decide +kernel
theorem dL_law_3031 : decode cL_law 3031 = .ok (.iadd, 1) := by decide +kernel
theorem dL_law_3032 : decode cL_law 3032 = .ok (.iaload, 1) := by decide +kernel
theorem dL_law_3033 : decode cL_law 3033 = .ok (.aload_n 0, 1) := by decide +kernel
theorem dL_law_3034 : decode cL_law 3034 = .ok (.iload 5, 2) := by decide +kernel
theorem dL_law_3036 : decode cL_law 3036 = .ok (.iconst 2, 1) := by decide +kernel
theorem dL_law_3037 : decode cL_law 3037 = .ok (.iadd, 1) := by decide +kernel
theorem dL_law_3038 : decode cL_law 3038 = .ok (.iaload, 1) := by decide +kernel
theorem dL_law_3039 : decode cL_law 3039 = .ok (.aload_n 3, 1) := by decide +kernel
theorem dL_law_3040 : decode cL_law 3040 = .ok (.invokestatic 351, 3) := by decide +kernel
theorem dL_law_3043 : decode cL_law 3043 = .ok (.istore 6, 2) := by decide +kernel
theorem dL_law_3045 : decode cL_law 3045 = .ok (.aload_n 2, 1) := by decide +kernel
theorem dL_law_3046 : decode cL_law 3046 = .ok (.aload_n 0, 1) := by decide +kernel
theorem dL_law_3047 : decode cL_law 3047 = .ok (.iload 5, 2) := by decide +kernel
theorem dL_law_3049 : decode cL_law 3049 = .ok (.iconst 1, 1) := by decide +kernel
theorem dL_law_3050 : decode cL_law 3050 = .ok (.iadd, 1) := by decide +kernel
theorem dL_law_3051 : decode cL_law 3051 = .ok (.iaload, 1) := by decide +kernel
theorem dL_law_3052 : decode cL_law 3052 = .ok (.aload_n 0, 1) := by decide +kernel
theorem dL_law_3053 : decode cL_law 3053 = .ok (.iload 5, 2) := by decide +kernel
theorem dL_law_3055 : decode cL_law 3055 = .ok (.iconst 2, 1) := by decide +kernel
theorem dL_law_3056 : decode cL_law 3056 = .ok (.iadd, 1) := by decide +kernel
theorem dL_law_3057 : decode cL_law 3057 = .ok (.iaload, 1) := by decide +kernel
theorem dL_law_3058 : decode cL_law 3058 = .ok (.invokevirtual 353, 3) := by decide +kernel
theorem dL_law_3061 : decode cL_law 3061 = .ok (.istore 7, 2) := by decide +kernel
theorem dL_law_3063 : decode cL_law 3063 = .ok (.aload_n 2, 1) := by decide +kernel
theorem dL_law_3064 : decode cL_law 3064 = .ok (.invokevirtual 204, 3) := by decide +kernel
theorem dL_law_3067 : decode cL_law 3067 = .ok (.iload 6, 2) := by decide +kernel
theorem dL_law_3069 : decode cL_law 3069 = .ok (.if_icmp .eq 5, 3) := by decide +kernel
theorem dL_law_3074 : decode cL_law 3074 = .ok (.iload 6, 2) := by decide +kernel
theorem dL_law_3076 : decode cL_law 3076 = .ok (.ifCond .ne 15, 3) := by decide +kernel
theorem dL_law_3091 : decode cL_law 3091 = .ok (.goto 809, 3) := by decide +kernel
theorem dL_law_3094 : decode cL_law 3094 = .ok (.aload_n 1, 1) := by decide +kernel
theorem dL_law_3095 : decode cL_law 3095 = .ok (.aload_n 0, 1) := by decide +kernel
theorem dL_law_3096 : decode cL_law 3096 = .ok (.iload 5, 2) := by decide +kernel
theorem dL_law_3098 : decode cL_law 3098 = .ok (.iconst 1, 1) := by decide +kernel
theorem dL_law_3099 : decode cL_law 3099 = .ok (.iadd, 1) := by decide +kernel
theorem dL_law_3100 : decode cL_law 3100 = .ok (.iaload, 1) := by decide +kernel
theorem dL_law_3101 : decode cL_law 3101 = .ok (.aload_n 3, 1) := by decide +kernel
theorem dL_law_3102 : decode cL_law 3102 = .ok (.invokestatic 354, 3) := by decide +kernel
theorem dL_law_3105 : decode cL_law 3105 = .ok (.istore 6, 2) := by decide +kernel
theorem dL_law_3107 : decode cL_law 3107 = .ok (.aload_n 2, 1) := by decide +kernel
theorem dL_law_3108 : decode cL_law 3108 = .ok (.aload_n 0, 1) := by decide +kernel
theorem dL_law_3109 : decode cL_law 3109 = .ok (.iload 5, 2) := by decide +kernel
theorem dL_law_3111 : decode cL_law 3111 = .ok (.iconst 1, 1) := by decide +kernel
theorem dL_law_3112 : decode cL_law 3112 = .ok (.iadd, 1) := by decide +kernel
theorem dL_law_3113 : decode cL_law 3113 = .ok (.iaload, 1) := by decide +kernel
theorem dL_law_3114 : decode cL_law 3114 = .ok (.invokevirtual 356, 3) := by decide +kernel
theorem dL_law_3117 : decode cL_law 3117 = .ok (.istore 7, 2) := by decide +kernel
theorem dL_law_3119 : decode cL_law 3119 = .ok (.aload_n 2, 1) := by decide +kernel
theorem dL_law_3120 : decode cL_law 3120 = .ok (.invokevirtual 204, 3) := by decide +kernel
theorem dL_law_3123 : decode cL_law 3123 = .ok (.iload 6, 2) := by decide +kernel
theorem dL_law_3125 : decode cL_law 3125 = .ok (.if_icmp .eq 5, 3) := by decide +kernel
theorem dL_law_3130 : decode cL_law 3130 = .ok (.iload 6, 2) := by decide +kernel
theorem dL_law_3132 : decode cL_law 3132 = .ok (.ifCond .ne 15, 3) := by decide +kernel
theorem dL_law_3147 : decode cL_law 3147 = .ok (.goto 753, 3) := by decide +kernel
theorem dL_law_3150 : decode cL_law 3150 = .ok (.aload_n 1, 1) := by decide +kernel
theorem dL_law_3151 : decode cL_law 3151 = .ok (.aload_n 0, 1) := by decide +kernel
theorem dL_law_3152 : decode cL_law 3152 = .ok (.iload 5, 2) := by decide +kernel
theorem dL_law_3154 : decode cL_law 3154 = .ok (.iconst 1, 1) := by decide +kernel
theorem dL_law_3155 : decode cL_law 3155 = .ok (.iadd, 1) := by decide +kernel
theorem dL_law_3156 : decode cL_law 3156 = .ok (.iaload, 1) := by decide +kernel
theorem dL_law_3157 : decode cL_law 3157 = .ok (.aload_n 0, 1) := by decide +kernel
theorem dL_law_3158 : decode cL_law 3158 = .ok (.iload 5, 2) := by decide +kernel
theorem dL_law_3160 : decode cL_law 3160 = .ok (.iconst 2, 1) := by decide +kernel
theorem dL_law_3161 : decode cL_law 3161 = .ok (.iadd, 1) := by decide +kernel
theorem dL_law_3162 : decode cL_law 3162 = .ok (.iaload, 1) := by decide +kernel
theorem dL_law_3163 : decode cL_law 3163 = .ok (.aload_n 3, 1) := by decide +kernel
theorem dL_law_3164 : decode cL_law 3164 = .ok (.invokestatic 357, 3) := by decide +kernel
theorem dL_law_3167 : decode cL_law 3167 = .ok (.istore 6, 2) := by decide +kernel
theorem dL_law_3169 : decode cL_law 3169 = .ok (.aload_n 2, 1) := by decide +kernel
theorem dL_law_3170 : decode cL_law 3170 = .ok (.aload_n 0, 1) := by decide +kernel
theorem dL_law_3171 : decode cL_law 3171 = .ok (.iload 5, 2) := by decide +kernel
theorem dL_law_3173 : decode cL_law 3173 = .ok (.iconst 1, 1) := by decide +kernel
theorem dL_law_3174 : decode cL_law 3174 = .ok (.iadd, 1) := by decide +kernel
theorem dL_law_3175 : decode cL_law 3175 = .ok (.iaload, 1) := by decide +kernel
theorem dL_law_3176 : decode cL_law 3176 = .ok (.aload_n 0, 1) := by decide +kernel
theorem dL_law_3177 : decode cL_law 3177 = .ok (.iload 5, 2) := by decide +kernel
theorem dL_law_3179 : decode cL_law 3179 = .ok (.iconst 2, 1) := by decide +kernel
theorem dL_law_3180 : decode cL_law 3180 = .ok (.iadd, 1) := by decide +kernel
theorem dL_law_3181 : decode cL_law 3181 = .ok (.iaload, 1) := by decide +kernel
theorem dL_law_3182 : decode cL_law 3182 = .ok (.invokevirtual 359, 3) := by decide +kernel
theorem dL_law_3185 : decode cL_law 3185 = .ok (.istore 7, 2) := by decide +kernel
theorem dL_law_3187 : decode cL_law 3187 = .ok (.aload_n 2, 1) := by decide +kernel
theorem dL_law_3188 : decode cL_law 3188 = .ok (.invokevirtual 204, 3) := by decide +kernel
theorem dL_law_3191 : decode cL_law 3191 = .ok (.iload 6, 2) := by decide +kernel
theorem dL_law_3193 : decode cL_law 3193 = .ok (.if_icmp .eq 5, 3) := by decide +kernel
theorem dL_law_3198 : decode cL_law 3198 = .ok (.iload 6, 2) := by decide +kernel
theorem dL_law_3200 : decode cL_law 3200 = .ok (.ifCond .ne 15, 3) := by decide +kernel
theorem dL_law_3215 : decode cL_law 3215 = .ok (.goto 685, 3) := by decide +kernel
theorem dL_law_3218 : decode cL_law 3218 = .ok (.aload_n 1, 1) := by decide +kernel
theorem dL_law_3219 : decode cL_law 3219 = .ok (.aload_n 0, 1) := by decide +kernel
theorem dL_law_3220 : decode cL_law 3220 = .ok (.iload 5, 2) := by decide +kernel
theorem dL_law_3222 : decode cL_law 3222 = .ok (.iconst 1, 1) := by decide +kernel
theorem dL_law_3223 : decode cL_law 3223 = .ok (.iadd, 1) := by decide +kernel
theorem dL_law_3224 : decode cL_law 3224 = .ok (.iaload, 1) := by decide +kernel
theorem dL_law_3225 : decode cL_law 3225 = .ok (.aload_n 0, 1) := by decide +kernel
theorem dL_law_3226 : decode cL_law 3226 = .ok (.iload 5, 2) := by decide +kernel
theorem dL_law_3228 : decode cL_law 3228 = .ok (.iconst 2, 1) := by decide +kernel
theorem dL_law_3229 : decode cL_law 3229 = .ok (.iadd, 1) := by decide +kernel
theorem dL_law_3230 : decode cL_law 3230 = .ok (.iaload, 1) := by decide +kernel
theorem dL_law_3231 : decode cL_law 3231 = .ok (.aload_n 3, 1) := by decide +kernel
theorem dL_law_3232 : decode cL_law 3232 = .ok (.invokestatic 360, 3) := by decide +kernel
theorem dL_law_3235 : decode cL_law 3235 = .ok (.istore 6, 2) := by decide +kernel
theorem dL_law_3237 : decode cL_law 3237 = .ok (.aload_n 2, 1) := by decide +kernel
theorem dL_law_3238 : decode cL_law 3238 = .ok (.aload_n 0, 1) := by decide +kernel
theorem dL_law_3239 : decode cL_law 3239 = .ok (.iload 5, 2) := by decide +kernel
theorem dL_law_3241 : decode cL_law 3241 = .ok (.iconst 1, 1) := by decide +kernel
theorem dL_law_3242 : decode cL_law 3242 = .ok (.iadd, 1) := by decide +kernel
theorem dL_law_3243 : decode cL_law 3243 = .ok (.iaload, 1) := by decide +kernel
theorem dL_law_3244 : decode cL_law 3244 = .ok (.aload_n 0, 1) := by decide +kernel
theorem dL_law_3245 : decode cL_law 3245 = .ok (.iload 5, 2) := by decide +kernel
theorem dL_law_3247 : decode cL_law 3247 = .ok (.iconst 2, 1) := by decide +kernel
theorem dL_law_3248 : decode cL_law 3248 = .ok (.iadd, 1) := by decide +kernel
theorem dL_law_3249 : decode cL_law 3249 = .ok (.iaload, 1) := by decide +kernel
theorem dL_law_3250 : decode cL_law 3250 = .ok (.invokevirtual 362, 3) := by decide +kernel
theorem dL_law_3253 : decode cL_law 3253 = .ok (.istore 7, 2) := by decide +kernel
theorem dL_law_3255 : decode cL_law 3255 = .ok (.aload_n 2, 1) := by decide +kernel
theorem dL_law_3256 : decode cL_law 3256 = .ok (.invokevirtual 204, 3) := by decide +kernel
theorem dL_law_3259 : decode cL_law 3259 = .ok (.iload 6, 2) := by decide +kernel
theorem dL_law_3261 : decode cL_law 3261 = .ok (.if_icmp .eq 5, 3) := by decide +kernel
theorem dL_law_3266 : decode cL_law 3266 = .ok (.iload 6, 2) := by decide +kernel
theorem dL_law_3268 : decode cL_law 3268 = .ok (.ifCond .ne 15, 3) := by decide +kernel
theorem dL_law_3283 : decode cL_law 3283 = .ok (.goto 617, 3) := by decide +kernel
theorem dL_law_3286 : decode cL_law 3286 = .ok (.aload_n 1, 1) := by decide +kernel
theorem dL_law_3287 : decode cL_law 3287 = .ok (.aload_n 0, 1) := by decide +kernel
theorem dL_law_3288 : decode cL_law 3288 = .ok (.iload 5, 2) := by decide +kernel
theorem dL_law_3290 : decode cL_law 3290 = .ok (.iconst 1, 1) := by decide +kernel
theorem dL_law_3291 : decode cL_law 3291 = .ok (.iadd, 1) := by decide +kernel
theorem dL_law_3292 : decode cL_law 3292 = .ok (.iaload, 1) := by decide +kernel
theorem dL_law_3293 : decode cL_law 3293 = .ok (.aload_n 3, 1) := by decide +kernel
theorem dL_law_3294 : decode cL_law 3294 = .ok (.invokestatic 363, 3) := by decide +kernel
theorem dL_law_3297 : decode cL_law 3297 = .ok (.istore 6, 2) := by decide +kernel
theorem dL_law_3299 : decode cL_law 3299 = .ok (.aload_n 2, 1) := by decide +kernel
theorem dL_law_3300 : decode cL_law 3300 = .ok (.aload_n 0, 1) := by decide +kernel
theorem dL_law_3301 : decode cL_law 3301 = .ok (.iload 5, 2) := by decide +kernel
theorem dL_law_3303 : decode cL_law 3303 = .ok (.iconst 1, 1) := by decide +kernel
theorem dL_law_3304 : decode cL_law 3304 = .ok (.iadd, 1) := by decide +kernel
theorem dL_law_3305 : decode cL_law 3305 = .ok (.iaload, 1) := by decide +kernel
theorem dL_law_3306 : decode cL_law 3306 = .ok (.invokevirtual 365, 3) := by decide +kernel
theorem dL_law_3309 : decode cL_law 3309 = .ok (.istore 7, 2) := by decide +kernel
theorem dL_law_3311 : decode cL_law 3311 = .ok (.aload_n 2, 1) := by decide +kernel
theorem dL_law_3312 : decode cL_law 3312 = .ok (.invokevirtual 204, 3) := by decide +kernel
theorem dL_law_3315 : decode cL_law 3315 = .ok (.iload 6, 2) := by decide +kernel
theorem dL_law_3317 : decode cL_law 3317 = .ok (.if_icmp .eq 5, 3) := by decide +kernel
theorem dL_law_3322 : decode cL_law 3322 = .ok (.iload 6, 2) := by decide +kernel
theorem dL_law_3324 : decode cL_law 3324 = .ok (.ifCond .ne 15, 3) := by decide +kernel
theorem dL_law_3339 : decode cL_law 3339 = .ok (.goto 561, 3) := by decide +kernel
theorem dL_law_3342 : decode cL_law 3342 = .ok (.aload_n 1, 1) := by decide +kernel
theorem dL_law_3343 : decode cL_law 3343 = .ok (.aload_n 0, 1) := by decide +kernel
theorem dL_law_3344 : decode cL_law 3344 = .ok (.iload 5, 2) := by decide +kernel
theorem dL_law_3346 : decode cL_law 3346 = .ok (.iconst 1, 1) := by decide +kernel
theorem dL_law_3347 : decode cL_law 3347 = .ok (.iadd, 1) := by decide +kernel
theorem dL_law_3348 : decode cL_law 3348 = .ok (.iaload, 1) := by decide +kernel
theorem dL_law_3349 : decode cL_law 3349 = .ok (.aload_n 0, 1) := by decide +kernel
theorem dL_law_3350 : decode cL_law 3350 = .ok (.iload 5, 2) := by decide +kernel
theorem dL_law_3352 : decode cL_law 3352 = .ok (.iconst 2, 1) := by decide +kernel
theorem dL_law_3353 : decode cL_law 3353 = .ok (.iadd, 1) := by decide +kernel
theorem dL_law_3354 : decode cL_law 3354 = .ok (.iaload, 1) := by decide +kernel
theorem dL_law_3355 : decode cL_law 3355 = .ok (.aload_n 0, 1) := by decide +kernel
theorem dL_law_3356 : decode cL_law 3356 = .ok (.iload 5, 2) := by decide +kernel
theorem dL_law_3358 : decode cL_law 3358 = .ok (.iconst 3, 1) := by decide +kernel
theorem dL_law_3359 : decode cL_law 3359 = .ok (.iadd, 1) := by decide +kernel
theorem dL_law_3360 : decode cL_law 3360 = .ok (.iaload, 1) := by decide +kernel
theorem dL_law_3361 : decode cL_law 3361 = .ok (.aload_n 3, 1) := by decide +kernel
theorem dL_law_3362 : decode cL_law 3362 = .ok (.invokestatic 366, 3) := by decide +kernel
theorem dL_law_3365 : decode cL_law 3365 = .ok (.istore 6, 2) := by decide +kernel
theorem dL_law_3367 : decode cL_law 3367 = .ok (.aload_n 2, 1) := by decide +kernel
theorem dL_law_3368 : decode cL_law 3368 = .ok (.aload_n 0, 1) := by decide +kernel
theorem dL_law_3369 : decode cL_law 3369 = .ok (.iload 5, 2) := by decide +kernel
theorem dL_law_3371 : decode cL_law 3371 = .ok (.iconst 1, 1) := by decide +kernel
theorem dL_law_3372 : decode cL_law 3372 = .ok (.iadd, 1) := by decide +kernel
theorem dL_law_3373 : decode cL_law 3373 = .ok (.iaload, 1) := by decide +kernel
theorem dL_law_3374 : decode cL_law 3374 = .ok (.aload_n 0, 1) := by decide +kernel
theorem dL_law_3375 : decode cL_law 3375 = .ok (.iload 5, 2) := by decide +kernel
theorem dL_law_3377 : decode cL_law 3377 = .ok (.iconst 2, 1) := by decide +kernel
theorem dL_law_3378 : decode cL_law 3378 = .ok (.iadd, 1) := by decide +kernel
theorem dL_law_3379 : decode cL_law 3379 = .ok (.iaload, 1) := by decide +kernel
theorem dL_law_3380 : decode cL_law 3380 = .ok (.aload_n 0, 1) := by decide +kernel
theorem dL_law_3381 : decode cL_law 3381 = .ok (.iload 5, 2) := by decide +kernel
theorem dL_law_3383 : decode cL_law 3383 = .ok (.iconst 3, 1) := by decide +kernel
theorem dL_law_3384 : decode cL_law 3384 = .ok (.iadd, 1) := by decide +kernel
theorem dL_law_3385 : decode cL_law 3385 = .ok (.iaload, 1) := by decide +kernel
theorem dL_law_3386 : decode cL_law 3386 = .ok (.invokevirtual 368, 3) := by decide +kernel
theorem dL_law_3389 : decode cL_law 3389 = .ok (.istore 7, 2) := by decide +kernel
theorem dL_law_3391 : decode cL_law 3391 = .ok (.aload_n 2, 1) := by decide +kernel
theorem dL_law_3392 : decode cL_law 3392 = .ok (.invokevirtual 204, 3) := by decide +kernel
theorem dL_law_3395 : decode cL_law 3395 = .ok (.iload 6, 2) := by decide +kernel
theorem dL_law_3397 : decode cL_law 3397 = .ok (.if_icmp .eq 5, 3) := by decide +kernel
theorem dL_law_3402 : decode cL_law 3402 = .ok (.iload 6, 2) := by decide +kernel
theorem dL_law_3404 : decode cL_law 3404 = .ok (.ifCond .ne 22, 3) := by decide +kernel
theorem dL_law_3426 : decode cL_law 3426 = .ok (.goto 474, 3) := by decide +kernel
theorem dL_law_3429 : decode cL_law 3429 = .ok (.aload_n 1, 1) := by decide +kernel
theorem dL_law_3430 : decode cL_law 3430 = .ok (.aload_n 0, 1) := by decide +kernel
theorem dL_law_3431 : decode cL_law 3431 = .ok (.iload 5, 2) := by decide +kernel
theorem dL_law_3433 : decode cL_law 3433 = .ok (.iconst 1, 1) := by decide +kernel
theorem dL_law_3434 : decode cL_law 3434 = .ok (.iadd, 1) := by decide +kernel
theorem dL_law_3435 : decode cL_law 3435 = .ok (.iaload, 1) := by decide +kernel
theorem dL_law_3436 : decode cL_law 3436 = .ok (.aload_n 0, 1) := by decide +kernel
theorem dL_law_3437 : decode cL_law 3437 = .ok (.iload 5, 2) := by decide +kernel
theorem dL_law_3439 : decode cL_law 3439 = .ok (.iconst 2, 1) := by decide +kernel
theorem dL_law_3440 : decode cL_law 3440 = .ok (.iadd, 1) := by decide +kernel
theorem dL_law_3441 : decode cL_law 3441 = .ok (.iaload, 1) := by decide +kernel
theorem dL_law_3442 : decode cL_law 3442 = .ok (.ifCond .eq 7, 3) := by decide +kernel
theorem dL_law_3445 : decode cL_law 3445 = .ok (.iconst 1, 1) := by decide +kernel
theorem dL_law_3446 : decode cL_law 3446 = .ok (.goto 4, 3) := by decide +kernel
theorem dL_law_3449 : decode cL_law 3449 = .ok (.iconst 0, 1) := by decide +kernel
theorem dL_law_3450 : decode cL_law 3450 = .ok (.aload_n 3, 1) := by decide +kernel
theorem dL_law_3451 : decode cL_law 3451 = .ok (.invokestatic 369, 3) := by decide +kernel
theorem dL_law_3454 : decode cL_law 3454 = .ok (.istore 6, 2) := by decide +kernel
theorem dL_law_3456 : decode cL_law 3456 = .ok (.aload_n 2, 1) := by decide +kernel
theorem dL_law_3457 : decode cL_law 3457 = .ok (.aload_n 0, 1) := by decide +kernel
theorem dL_law_3458 : decode cL_law 3458 = .ok (.iload 5, 2) := by decide +kernel
theorem dL_law_3460 : decode cL_law 3460 = .ok (.iconst 1, 1) := by decide +kernel
theorem dL_law_3461 : decode cL_law 3461 = .ok (.iadd, 1) := by decide +kernel
theorem dL_law_3462 : decode cL_law 3462 = .ok (.iaload, 1) := by decide +kernel
theorem dL_law_3463 : decode cL_law 3463 = .ok (.aload_n 0, 1) := by decide +kernel
theorem dL_law_3464 : decode cL_law 3464 = .ok (.iload 5, 2) := by decide +kernel
theorem dL_law_3466 : decode cL_law 3466 = .ok (.iconst 2, 1) := by decide +kernel
theorem dL_law_3467 : decode cL_law 3467 = .ok (.iadd, 1) := by decide +kernel
theorem dL_law_3468 : decode cL_law 3468 = .ok (.iaload, 1) := by decide +kernel
theorem dL_law_3469 : decode cL_law 3469 = .ok (.ifCond .eq 7, 3) := by decide +kernel
theorem dL_law_3472 : decode cL_law 3472 = .ok (.iconst 1, 1) := by decide +kernel
theorem dL_law_3473 : decode cL_law 3473 = .ok (.goto 4, 3) := by decide +kernel
theorem dL_law_3476 : decode cL_law 3476 = .ok (.iconst 0, 1) := by decide +kernel
theorem dL_law_3477 : decode cL_law 3477 = .ok (.invokevirtual 371, 3) := by decide +kernel
theorem dL_law_3480 : decode cL_law 3480 = .ok (.istore 7, 2) := by decide +kernel
theorem dL_law_3482 : decode cL_law 3482 = .ok (.aload_n 2, 1) := by decide +kernel
theorem dL_law_3483 : decode cL_law 3483 = .ok (.invokevirtual 204, 3) := by decide +kernel
theorem dL_law_3486 : decode cL_law 3486 = .ok (.iload 6, 2) := by decide +kernel
theorem dL_law_3488 : decode cL_law 3488 = .ok (.if_icmp .eq 5, 3) := by decide +kernel
theorem dL_law_3493 : decode cL_law 3493 = .ok (.iload 6, 2) := by decide +kernel
theorem dL_law_3495 : decode cL_law 3495 = .ok (.ifCond .ne 15, 3) := by decide +kernel
theorem dL_law_3510 : decode cL_law 3510 = .ok (.goto 390, 3) := by decide +kernel
theorem dL_law_3513 : decode cL_law 3513 = .ok (.aload_n 1, 1) := by decide +kernel
theorem dL_law_3514 : decode cL_law 3514 = .ok (.aload_n 0, 1) := by decide +kernel
theorem dL_law_3515 : decode cL_law 3515 = .ok (.iload 5, 2) := by decide +kernel
theorem dL_law_3517 : decode cL_law 3517 = .ok (.iconst 1, 1) := by decide +kernel
theorem dL_law_3518 : decode cL_law 3518 = .ok (.iadd, 1) := by decide +kernel
theorem dL_law_3519 : decode cL_law 3519 = .ok (.iaload, 1) := by decide +kernel
theorem dL_law_3520 : decode cL_law 3520 = .ok (.aload_n 0, 1) := by decide +kernel
theorem dL_law_3521 : decode cL_law 3521 = .ok (.iload 5, 2) := by decide +kernel
theorem dL_law_3523 : decode cL_law 3523 = .ok (.iconst 2, 1) := by decide +kernel
theorem dL_law_3524 : decode cL_law 3524 = .ok (.iadd, 1) := by decide +kernel
theorem dL_law_3525 : decode cL_law 3525 = .ok (.iaload, 1) := by decide +kernel
theorem dL_law_3526 : decode cL_law 3526 = .ok (.aload_n 0, 1) := by decide +kernel
theorem dL_law_3527 : decode cL_law 3527 = .ok (.iload 5, 2) := by decide +kernel
theorem dL_law_3529 : decode cL_law 3529 = .ok (.iconst 3, 1) := by decide +kernel
theorem dL_law_3530 : decode cL_law 3530 = .ok (.iadd, 1) := by decide +kernel
theorem dL_law_3531 : decode cL_law 3531 = .ok (.iaload, 1) := by decide +kernel
theorem dL_law_3532 : decode cL_law 3532 = .ok (.aload_n 0, 1) := by decide +kernel
theorem dL_law_3533 : decode cL_law 3533 = .ok (.iload 5, 2) := by decide +kernel
theorem dL_law_3535 : decode cL_law 3535 = .ok (.iconst 4, 1) := by decide +kernel
theorem dL_law_3536 : decode cL_law 3536 = .ok (.iadd, 1) := by decide +kernel
theorem dL_law_3537 : decode cL_law 3537 = .ok (.iaload, 1) := by decide +kernel
theorem dL_law_3538 : decode cL_law 3538 = .ok (.aload_n 3, 1) := by decide +kernel
theorem dL_law_3539 : decode cL_law 3539 = .ok (.invokestatic 372, 3) := by decide +kernel
theorem dL_law_3542 : decode cL_law 3542 = .ok (.istore 6, 2) := by decide +kernel
theorem dL_law_3544 : decode cL_law 3544 = .ok (.aload_n 2, 1) := by decide +kernel
theorem dL_law_3545 : decode cL_law 3545 = .ok (.aload_n 0, 1) := by decide +kernel
theorem dL_law_3546 : decode cL_law 3546 = .ok (.iload 5, 2) := by decide +kernel
theorem dL_law_3548 : decode cL_law 3548 = .ok (.iconst 1, 1) := by decide +kernel
theorem dL_law_3549 : decode cL_law 3549 = .ok (.iadd, 1) := by decide +kernel
theorem dL_law_3550 : decode cL_law 3550 = .ok (.iaload, 1) := by decide +kernel
theorem dL_law_3551 : decode cL_law 3551 = .ok (.aload_n 0, 1) := by decide +kernel
theorem dL_law_3552 : decode cL_law 3552 = .ok (.iload 5, 2) := by decide +kernel
theorem dL_law_3554 : decode cL_law 3554 = .ok (.iconst 2, 1) := by decide +kernel
theorem dL_law_3555 : decode cL_law 3555 = .ok (.iadd, 1) := by decide +kernel
theorem dL_law_3556 : decode cL_law 3556 = .ok (.iaload, 1) := by decide +kernel
theorem dL_law_3557 : decode cL_law 3557 = .ok (.aload_n 0, 1) := by decide +kernel
theorem dL_law_3558 : decode cL_law 3558 = .ok (.iload 5, 2) := by decide +kernel
theorem dL_law_3560 : decode cL_law 3560 = .ok (.iconst 3, 1) := by decide +kernel
theorem dL_law_3561 : decode cL_law 3561 = .ok (.iadd, 1) := by decide +kernel
theorem dL_law_3562 : decode cL_law 3562 = .ok (.iaload, 1) := by decide +kernel
theorem dL_law_3563 : decode cL_law 3563 = .ok (.aload_n 0, 1) := by decide +kernel
theorem dL_law_3564 : decode cL_law 3564 = .ok (.iload 5, 2) := by decide +kernel
theorem dL_law_3566 : decode cL_law 3566 = .ok (.iconst 4, 1) := by decide +kernel
theorem dL_law_3567 : decode cL_law 3567 = .ok (.iadd, 1) := by decide +kernel
theorem dL_law_3568 : decode cL_law 3568 = .ok (.iaload, 1) := by decide +kernel
theorem dL_law_3569 : decode cL_law 3569 = .ok (.invokevirtual 375, 3) := by decide +kernel
theorem dL_law_3572 : decode cL_law 3572 = .ok (.istore 7, 2) := by decide +kernel
theorem dL_law_3574 : decode cL_law 3574 = .ok (.aload_n 2, 1) := by decide +kernel
theorem dL_law_3575 : decode cL_law 3575 = .ok (.invokevirtual 204, 3) := by decide +kernel
theorem dL_law_3578 : decode cL_law 3578 = .ok (.iload 6, 2) := by decide +kernel
theorem dL_law_3580 : decode cL_law 3580 = .ok (.if_icmp .eq 5, 3) := by decide +kernel
theorem dL_law_3585 : decode cL_law 3585 = .ok (.iload 6, 2) := by decide +kernel
theorem dL_law_3587 : decode cL_law 3587 = .ok (.ifCond .ne 22, 3) := by decide +kernel
theorem dL_law_3609 : decode cL_law 3609 = .ok (.goto 291, 3) := by decide +kernel
theorem dL_law_3612 : decode cL_law 3612 = .ok (.aload_n 1, 1) := by decide +kernel
theorem dL_law_3613 : decode cL_law 3613 = .ok (.aload_n 0, 1) := by decide +kernel
theorem dL_law_3614 : decode cL_law 3614 = .ok (.iload 5, 2) := by decide +kernel
theorem dL_law_3616 : decode cL_law 3616 = .ok (.iconst 1, 1) := by decide +kernel
theorem dL_law_3617 : decode cL_law 3617 = .ok (.iadd, 1) := by decide +kernel
theorem dL_law_3618 : decode cL_law 3618 = .ok (.iaload, 1) := by decide +kernel
theorem dL_law_3619 : decode cL_law 3619 = .ok (.aload_n 0, 1) := by decide +kernel
theorem dL_law_3620 : decode cL_law 3620 = .ok (.iload 5, 2) := by decide +kernel
theorem dL_law_3622 : decode cL_law 3622 = .ok (.iconst 2, 1) := by decide +kernel
theorem dL_law_3623 : decode cL_law 3623 = .ok (.iadd, 1) := by decide +kernel
theorem dL_law_3624 : decode cL_law 3624 = .ok (.iaload, 1) := by decide +kernel
theorem dL_law_3625 : decode cL_law 3625 = .ok (.ifCond .eq 7, 3) := by decide +kernel
theorem dL_law_3628 : decode cL_law 3628 = .ok (.iconst 1, 1) := by decide +kernel
theorem dL_law_3629 : decode cL_law 3629 = .ok (.goto 4, 3) := by decide +kernel
theorem dL_law_3632 : decode cL_law 3632 = .ok (.iconst 0, 1) := by decide +kernel
theorem dL_law_3633 : decode cL_law 3633 = .ok (.aload_n 3, 1) := by decide +kernel
theorem dL_law_3634 : decode cL_law 3634 = .ok (.invokestatic 376, 3) := by decide +kernel
theorem dL_law_3637 : decode cL_law 3637 = .ok (.istore 6, 2) := by decide +kernel
theorem dL_law_3639 : decode cL_law 3639 = .ok (.aload_n 2, 1) := by decide +kernel
theorem dL_law_3640 : decode cL_law 3640 = .ok (.aload_n 0, 1) := by decide +kernel
theorem dL_law_3641 : decode cL_law 3641 = .ok (.iload 5, 2) := by decide +kernel
theorem dL_law_3643 : decode cL_law 3643 = .ok (.iconst 1, 1) := by decide +kernel
theorem dL_law_3644 : decode cL_law 3644 = .ok (.iadd, 1) := by decide +kernel
theorem dL_law_3645 : decode cL_law 3645 = .ok (.iaload, 1) := by decide +kernel
theorem dL_law_3646 : decode cL_law 3646 = .ok (.aload_n 0, 1) := by decide +kernel
theorem dL_law_3647 : decode cL_law 3647 = .ok (.iload 5, 2) := by decide +kernel
theorem dL_law_3649 : decode cL_law 3649 = .ok (.iconst 2, 1) := by decide +kernel
theorem dL_law_3650 : decode cL_law 3650 = .ok (.iadd, 1) := by decide +kernel
theorem dL_law_3651 : decode cL_law 3651 = .ok (.iaload, 1) := by decide +kernel
theorem dL_law_3652 : decode cL_law 3652 = .ok (.ifCond .eq 7, 3) := by decide +kernel
theorem dL_law_3655 : decode cL_law 3655 = .ok (.iconst 1, 1) := by decide +kernel
theorem dL_law_3656 : decode cL_law 3656 = .ok (.goto 4, 3) := by decide +kernel
theorem dL_law_3659 : decode cL_law 3659 = .ok (.iconst 0, 1) := by decide +kernel
theorem dL_law_3660 : decode cL_law 3660 = .ok (.invokevirtual 378, 3) := by decide +kernel
theorem dL_law_3663 : decode cL_law 3663 = .ok (.istore 7, 2) := by decide +kernel
theorem dL_law_3665 : decode cL_law 3665 = .ok (.aload_n 2, 1) := by decide +kernel
theorem dL_law_3666 : decode cL_law 3666 = .ok (.invokevirtual 204, 3) := by decide +kernel
theorem dL_law_3669 : decode cL_law 3669 = .ok (.iload 6, 2) := by decide +kernel
theorem dL_law_3671 : decode cL_law 3671 = .ok (.if_icmp .eq 5, 3) := by decide +kernel
theorem dL_law_3676 : decode cL_law 3676 = .ok (.iload 6, 2) := by decide +kernel
theorem dL_law_3678 : decode cL_law 3678 = .ok (.ifCond .ne 22, 3) := by decide +kernel
theorem dL_law_3700 : decode cL_law 3700 = .ok (.goto 200, 3) := by decide +kernel
theorem dL_law_3703 : decode cL_law 3703 = .ok (.aload_n 1, 1) := by decide +kernel
theorem dL_law_3704 : decode cL_law 3704 = .ok (.invokevirtual 379, 3) := by decide +kernel
theorem dL_law_3707 : decode cL_law 3707 = .ok (.aload_n 2, 1) := by decide +kernel
theorem dL_law_3708 : decode cL_law 3708 = .ok (.invokevirtual 382, 3) := by decide +kernel
theorem dL_law_3711 : decode cL_law 3711 = .ok (.if_icmp .eq 189, 3) := by decide +kernel
theorem dL_law_3716 : decode cL_law 3716 = .ok (.aload_n 1, 1) := by decide +kernel
theorem dL_law_3717 : decode cL_law 3717 = .ok (.invokevirtual 383, 3) := by decide +kernel
theorem dL_law_3720 : decode cL_law 3720 = .ok (.aload_n 2, 1) := by decide +kernel
theorem dL_law_3721 : decode cL_law 3721 = .ok (.invokevirtual 386, 3) := by decide +kernel
theorem dL_law_3724 : decode cL_law 3724 = .ok (.if_icmp .eq 176, 3) := by decide +kernel
theorem dL_law_3729 : decode cL_law 3729 = .ok (.aload_n 1, 1) := by decide +kernel
theorem dL_law_3730 : decode cL_law 3730 = .ok (.invokevirtual 387, 3) := by decide +kernel
theorem dL_law_3733 : decode cL_law 3733 = .ok (.aload_n 2, 1) := by decide +kernel
theorem dL_law_3734 : decode cL_law 3734 = .ok (.invokevirtual 390, 3) := by decide +kernel
theorem dL_law_3737 : decode cL_law 3737 = .ok (.if_icmp .eq 163, 3) := by decide +kernel
theorem dL_law_3742 : decode cL_law 3742 = .ok (.aload_n 1, 1) := by decide +kernel
theorem dL_law_3743 : decode cL_law 3743 = .ok (.invokevirtual 391, 3) := by decide +kernel
theorem dL_law_3746 : decode cL_law 3746 = .ok (.aload_n 2, 1) := by decide +kernel
theorem dL_law_3747 : decode cL_law 3747 = .ok (.invokevirtual 395, 3) := by decide +kernel
theorem dL_law_3750 : decode cL_law 3750 = .ok (.lcmp, 1) := by decide +kernel
theorem dL_law_3751 : decode cL_law 3751 = .ok (.ifCond .eq 149, 3) := by decide +kernel
theorem dL_law_3756 : decode cL_law 3756 = .ok (.aload_n 1, 1) := by decide +kernel
theorem dL_law_3757 : decode cL_law 3757 = .ok (.aload 4, 2) := by decide +kernel
theorem dL_law_3759 : decode cL_law 3759 = .ok (.invokestatic 396, 3) := by decide +kernel
theorem dL_law_3762 : decode cL_law 3762 = .ok (.istore 6, 2) := by decide +kernel
theorem dL_law_3764 : decode cL_law 3764 = .ok (.aload_n 2, 1) := by decide +kernel
theorem dL_law_3765 : decode cL_law 3765 = .ok (.invokevirtual 399, 3) := by decide +kernel
theorem dL_law_3768 : decode cL_law 3768 = .ok (.fstore 7, 2) := by decide +kernel
theorem dL_law_3770 : decode cL_law 3770 = .ok (.aload_n 2, 1) := by decide +kernel
theorem dL_law_3771 : decode cL_law 3771 = .ok (.invokevirtual 204, 3) := by decide +kernel
theorem dL_law_3774 : decode cL_law 3774 = .ok (.iload 6, 2) := by decide +kernel
theorem dL_law_3776 : decode cL_law 3776 = .ok (.if_icmp .eq 5, 3) := by decide +kernel
theorem dL_law_3781 : decode cL_law 3781 = .ok (.iload 6, 2) := by decide +kernel
theorem dL_law_3783 : decode cL_law 3783 = .ok (.ifCond .ne 36, 3) := by decide +kernel
theorem dL_law_3819 : decode cL_law 3819 = .ok (.goto 81, 3) := by decide +kernel
theorem dL_law_3822 : decode cL_law 3822 = .ok (.aload_n 1, 1) := by decide +kernel
theorem dL_law_3823 : decode cL_law 3823 = .ok (.aload 4, 2) := by decide +kernel
theorem dL_law_3825 : decode cL_law 3825 = .ok (.invokestatic 400, 3) := by decide +kernel
theorem dL_law_3828 : decode cL_law 3828 = .ok (.istore 6, 2) := by decide +kernel
theorem dL_law_3830 : decode cL_law 3830 = .ok (.aload_n 2, 1) := by decide +kernel
theorem dL_law_3831 : decode cL_law 3831 = .ok (.invokevirtual 402, 3) := by decide +kernel
theorem dL_law_3834 : decode cL_law 3834 = .ok (.dstore 7, 2) := by decide +kernel
theorem dL_law_3836 : decode cL_law 3836 = .ok (.aload_n 2, 1) := by decide +kernel
theorem dL_law_3837 : decode cL_law 3837 = .ok (.invokevirtual 204, 3) := by decide +kernel
theorem dL_law_3840 : decode cL_law 3840 = .ok (.iload 6, 2) := by decide +kernel
theorem dL_law_3842 : decode cL_law 3842 = .ok (.if_icmp .eq 5, 3) := by decide +kernel
theorem dL_law_3847 : decode cL_law 3847 = .ok (.iload 6, 2) := by decide +kernel
theorem dL_law_3849 : decode cL_law 3849 = .ok (.ifCond .ne 35, 3) := by decide +kernel
theorem dL_law_3884 : decode cL_law 3884 = .ok (.goto 16, 3) := by decide +kernel
theorem dL_law_3887 : decode cL_law 3887 = .ok (.aload_n 1, 1) := by decide +kernel
theorem dL_law_3888 : decode cL_law 3888 = .ok (.invokevirtual 403, 3) := by decide +kernel
theorem dL_law_3891 : decode cL_law 3891 = .ok (.aload_n 2, 1) := by decide +kernel
theorem dL_law_3892 : decode cL_law 3892 = .ok (.invokevirtual 407, 3) := by decide +kernel
theorem dL_law_3895 : decode cL_law 3895 = .ok (.if_icmp .eq 5, 3) := by decide +kernel
theorem dL_lineOf_0 : decode cL_lineOf 0 = .ok (.aload_n 2, 1) := by decide +kernel
theorem dL_lineOf_1 : decode cL_lineOf 1 = .ok (.iconst 0, 1) := by decide +kernel
theorem dL_lineOf_2 : decode cL_lineOf 2 = .ok (.aload_n 0, 1) := by decide +kernel
theorem dL_lineOf_3 : decode cL_lineOf 3 = .ok (.iload_n 1, 1) := by decide +kernel
theorem dL_lineOf_4 : decode cL_lineOf 4 = .ok (.invokevirtual 77, 3) := by decide +kernel
theorem dL_lineOf_12 : decode cL_lineOf 12 = .ok (.astore_n 3, 1) := by decide +kernel
theorem dL_lineOf_13 : decode cL_lineOf 13 = .ok (.iconst 1, 1) := by decide +kernel
theorem dL_lineOf_14 : decode cL_lineOf 14 = .ok (.ireturn, 1) := by decide +kernel
theorem dL_lives_0 : decode cL_lives 0 = .ok (.aload_n 2, 1) := by decide +kernel
theorem dL_lives_1 : decode cL_lives 1 = .ok (.iconst 0, 1) := by decide +kernel
theorem dL_lives_2 : decode cL_lives 2 = .ok (.aload_n 0, 1) := by decide +kernel
theorem dL_lives_3 : decode cL_lives 3 = .ok (.iload_n 1, 1) := by decide +kernel
theorem dL_lives_4 : decode cL_lives 4 = .ok (.invokevirtual 67, 3) := by decide +kernel
theorem dL_lives_19 : decode cL_lives 19 = .ok (.astore_n 3, 1) := by decide +kernel
theorem dL_lives_20 : decode cL_lives 20 = .ok (.iconst 1, 1) := by decide +kernel
theorem dL_lives_21 : decode cL_lives 21 = .ok (.ireturn, 1) := by decide +kernel
theorem dL_losses_0 : decode cL_losses 0 = .ok (.aload_n 2, 1) := by decide +kernel
theorem dL_losses_1 : decode cL_losses 1 = .ok (.iconst 0, 1) := by decide +kernel
theorem dL_losses_2 : decode cL_losses 2 = .ok (.aload_n 0, 1) := by decide +kernel
theorem dL_losses_3 : decode cL_losses 3 = .ok (.iload_n 1, 1) := by decide +kernel
theorem dL_losses_4 : decode cL_losses 4 = .ok (.invokevirtual 47, 3) := by decide +kernel
theorem dL_losses_12 : decode cL_losses 12 = .ok (.astore_n 3, 1) := by decide +kernel
theorem dL_losses_13 : decode cL_losses 13 = .ok (.iconst 1, 1) := by decide +kernel
theorem dL_losses_14 : decode cL_losses 14 = .ok (.ireturn, 1) := by decide +kernel
theorem dL_losses_15 : decode cL_losses 15 = .ok (.astore_n 3, 1) := by decide +kernel
theorem dL_losses_16 : decode cL_losses 16 = .ok (.iconst 2, 1) := by decide +kernel
theorem dL_losses_17 : decode cL_losses 17 = .ok (.ireturn, 1) := by decide +kernel
theorem dL_marry_0 : decode cL_marry 0 = .ok (.aload_n 3, 1) := by decide +kernel
theorem dL_marry_1 : decode cL_marry 1 = .ok (.iconst 0, 1) := by decide +kernel
theorem dL_marry_2 : decode cL_marry 2 = .ok (.aload_n 0, 1) := by decide +kernel
theorem dL_marry_3 : decode cL_marry 3 = .ok (.iload_n 1, 1) := by decide +kernel
theorem dL_marry_4 : decode cL_marry 4 = .ok (.iload_n 2, 1) := by decide +kernel
theorem dL_marry_5 : decode cL_marry 5 = .ok (.invokevirtual 63, 3) := by decide +kernel
theorem dL_marry_20 : decode cL_marry 20 = .ok (.astore 4, 2) := by decide +kernel
theorem dL_marry_22 : decode cL_marry 22 = .ok (.iconst 1, 1) := by decide +kernel
theorem dL_marry_23 : decode cL_marry 23 = .ok (.ireturn, 1) := by decide +kernel
theorem dL_meanWords_0 : decode cL_meanWords 0 = .ok (.aload_n 1, 1) := by decide +kernel
theorem dL_meanWords_1 : decode cL_meanWords 1 = .ok (.iconst 0, 1) := by decide +kernel
theorem dL_meanWords_2 : decode cL_meanWords 2 = .ok (.aload_n 0, 1) := by decide +kernel
theorem dL_meanWords_3 : decode cL_meanWords 3 = .ok (.invokevirtual 190, 3) := by decide +kernel
theorem dL_meanWords_10 : decode cL_meanWords 10 = .ok (.astore_n 2, 1) := by decide +kernel
theorem dL_meanWords_11 : decode cL_meanWords 11 = .ok (.iconst 1, 1) := by decide +kernel
theorem dL_meanWords_12 : decode cL_meanWords 12 = .ok (.ireturn, 1) := by decide +kernel
theorem dL_meant_0 : decode cL_meant 0 = .ok (.aload_n 2, 1) := by decide +kernel
theorem dL_meant_1 : decode cL_meant 1 = .ok (.iconst 0, 1) := by decide +kernel
theorem dL_meant_2 : decode cL_meant 2 = .ok (.aload_n 0, 1) := by decide +kernel
theorem dL_meant_3 : decode cL_meant 3 = .ok (.iload_n 1, 1) := by decide +kernel
theorem dL_meant_4 : decode cL_meant 4 = .ok (.invokevirtual 38, 3) := by decide +kernel
theorem dL_meant_12 : decode cL_meant 12 = .ok (.astore_n 3, 1) := by decide +kernel
theorem dL_meant_13 : decode cL_meant 13 = .ok (.iconst 1, 1) := by decide +kernel
theorem dL_meant_14 : decode cL_meant 14 = .ok (.ireturn, 1) := by decide +kernel
theorem dL_nearest_0 : decode cL_nearest 0 = .ok (.aload_n 1, 1) := by decide +kernel
theorem dL_nearest_1 : decode cL_nearest 1 = .ok (.iconst 0, 1) := by decide +kernel
theorem dL_nearest_2 : decode cL_nearest 2 = .ok (.aload_n 0, 1) := by decide +kernel
theorem dL_nearest_3 : decode cL_nearest 3 = .ok (.invokevirtual 136, 3) := by decide +kernel
theorem dL_nearest_11 : decode cL_nearest 11 = .ok (.astore_n 2, 1) := by decide +kernel
theorem dL_nearest_12 : decode cL_nearest 12 = .ok (.iconst 1, 1) := by decide +kernel
theorem dL_nearest_13 : decode cL_nearest 13 = .ok (.ireturn, 1) := by decide +kernel
theorem dL_ofArms_0 : decode cL_ofArms 0 = .ok (.aload 4, 2) := by decide +kernel
theorem dL_ofArms_2 : decode cL_ofArms 2 = .ok (.iconst 0, 1) := by decide +kernel
theorem dL_ofArms_3 : decode cL_ofArms 3 = .ok (.aload_n 0, 1) := by decide +kernel
theorem dL_ofArms_4 : decode cL_ofArms 4 = .ok (.iload_n 1, 1) := by decide +kernel
theorem dL_ofArms_5 : decode cL_ofArms 5 = .ok (.iload_n 2, 1) := by decide +kernel
theorem dL_ofArms_6 : decode cL_ofArms 6 = .ok (.iload_n 3, 1) := by decide +kernel
theorem dL_ofArms_7 : decode cL_ofArms 7 = .ok (.invokevirtual 114, 3) := by decide +kernel
theorem dL_ofArms_15 : decode cL_ofArms 15 = .ok (.astore 5, 2) := by decide +kernel
theorem dL_ofArms_17 : decode cL_ofArms 17 = .ok (.iconst 1, 1) := by decide +kernel
theorem dL_ofArms_18 : decode cL_ofArms 18 = .ok (.ireturn, 1) := by decide +kernel
theorem dL_ofShield_0 : decode cL_ofShield 0 = .ok (.aload 4, 2) := by decide +kernel
theorem dL_ofShield_2 : decode cL_ofShield 2 = .ok (.iconst 0, 1) := by decide +kernel
theorem dL_ofShield_3 : decode cL_ofShield 3 = .ok (.aload_n 0, 1) := by decide +kernel
theorem dL_ofShield_4 : decode cL_ofShield 4 = .ok (.iload_n 1, 1) := by decide +kernel
theorem dL_ofShield_5 : decode cL_ofShield 5 = .ok (.iload_n 2, 1) := by decide +kernel
theorem dL_ofShield_6 : decode cL_ofShield 6 = .ok (.iload_n 3, 1) := by decide +kernel
theorem dL_ofShield_7 : decode cL_ofShield 7 = .ok (.invokevirtual 118, 3) := by decide +kernel
theorem dL_ofShield_15 : decode cL_ofShield 15 = .ok (.astore 5, 2) := by decide +kernel
theorem dL_ofShield_17 : decode cL_ofShield 17 = .ok (.iconst 1, 1) := by decide +kernel
theorem dL_ofShield_18 : decode cL_ofShield 18 = .ok (.ireturn, 1) := by decide +kernel
theorem dL_pass_0 : decode cL_pass 0 = .ok (.aload_n 2, 1) := by decide +kernel
theorem dL_pass_1 : decode cL_pass 1 = .ok (.iconst 0, 1) := by decide +kernel
theorem dL_pass_2 : decode cL_pass 2 = .ok (.aload_n 0, 1) := by decide +kernel
theorem dL_pass_3 : decode cL_pass 3 = .ok (.iload_n 1, 1) := by decide +kernel
theorem dL_pass_4 : decode cL_pass 4 = .ok (.invokevirtual 53, 3) := by decide +kernel
theorem dL_pass_7 : decode cL_pass 7 = .ok (.i2l, 1) := by decide +kernel
theorem dL_pass_8 : decode cL_pass 8 = .ok (.lastore, 1) := by decide +kernel
theorem dL_pass_9 : decode cL_pass 9 = .ok (.goto 9, 3) := by decide +kernel
theorem dL_pass_12 : decode cL_pass 12 = .ok (.astore_n 3, 1) := by decide +kernel
theorem dL_pass_13 : decode cL_pass 13 = .ok (.iconst 1, 1) := by decide +kernel
theorem dL_pass_14 : decode cL_pass 14 = .ok (.ireturn, 1) := by decide +kernel
theorem dL_pass_18 : decode cL_pass 18 = .ok (.iconst 0, 1) := by decide +kernel
theorem dL_pass_19 : decode cL_pass 19 = .ok (.ireturn, 1) := by decide +kernel
theorem dL_point_0 : decode cL_point 0 = .ok (.aload_n 3, 1) := by decide +kernel
theorem dL_point_1 : decode cL_point 1 = .ok (.iconst 0, 1) := by decide +kernel
theorem dL_point_2 : decode cL_point 2 = .ok (.aload_n 0, 1) := by decide +kernel
theorem dL_point_3 : decode cL_point 3 = .ok (.iload_n 1, 1) := by decide +kernel
theorem dL_point_4 : decode cL_point 4 = .ok (.iload_n 2, 1) := by decide +kernel
theorem dL_point_5 : decode cL_point 5 = .ok (.invokevirtual 17, 3) := by decide +kernel
theorem dL_point_13 : decode cL_point 13 = .ok (.astore 4, 2) := by decide +kernel
theorem dL_point_15 : decode cL_point 15 = .ok (.iconst 1, 1) := by decide +kernel
theorem dL_point_16 : decode cL_point 16 = .ok (.ireturn, 1) := by decide +kernel
theorem dL_point_17 : decode cL_point 17 = .ok (.astore 4, 2) := by decide +kernel
theorem dL_point_19 : decode cL_point 19 = .ok (.iconst 2, 1) := by decide +kernel
theorem dL_point_20 : decode cL_point 20 = .ok (.ireturn, 1) := by decide +kernel
theorem dL_points_0 : decode cL_points 0 = .ok (.aload_n 3, 1) := by decide +kernel
theorem dL_points_1 : decode cL_points 1 = .ok (.iconst 0, 1) := by decide +kernel
theorem dL_points_2 : decode cL_points 2 = .ok (.aload_n 0, 1) := by decide +kernel
theorem dL_points_3 : decode cL_points 3 = .ok (.iload_n 1, 1) := by decide +kernel
theorem dL_points_4 : decode cL_points 4 = .ok (.iload_n 2, 1) := by decide +kernel
theorem dL_points_5 : decode cL_points 5 = .ok (.invokevirtual 25, 3) := by decide +kernel
theorem dL_points_13 : decode cL_points 13 = .ok (.astore 4, 2) := by decide +kernel
theorem dL_points_15 : decode cL_points 15 = .ok (.iconst 1, 1) := by decide +kernel
theorem dL_points_16 : decode cL_points 16 = .ok (.ireturn, 1) := by decide +kernel
theorem dL_points_17 : decode cL_points 17 = .ok (.astore 4, 2) := by decide +kernel
theorem dL_points_19 : decode cL_points 19 = .ok (.iconst 2, 1) := by decide +kernel
theorem dL_points_20 : decode cL_points 20 = .ok (.ireturn, 1) := by decide +kernel
theorem dL_precedent_0 : decode cL_precedent 0 = .ok (.aload_n 3, 1) := by decide +kernel
theorem dL_precedent_1 : decode cL_precedent 1 = .ok (.iconst 0, 1) := by decide +kernel
theorem dL_precedent_2 : decode cL_precedent 2 = .ok (.aload_n 0, 1) := by decide +kernel
theorem dL_precedent_3 : decode cL_precedent 3 = .ok (.iload_n 1, 1) := by decide +kernel
theorem dL_precedent_4 : decode cL_precedent 4 = .ok (.iload_n 2, 1) := by decide +kernel
theorem dL_precedent_5 : decode cL_precedent 5 = .ok (.invokevirtual 154, 3) := by decide +kernel
theorem dL_precedent_13 : decode cL_precedent 13 = .ok (.astore 4, 2) := by decide +kernel
theorem dL_precedent_15 : decode cL_precedent 15 = .ok (.iconst 1, 1) := by decide +kernel
theorem dL_precedent_16 : decode cL_precedent 16 = .ok (.ireturn, 1) := by decide +kernel
theorem dL_precedent_17 : decode cL_precedent 17 = .ok (.astore 4, 2) := by decide +kernel
theorem dL_precedent_19 : decode cL_precedent 19 = .ok (.iconst 2, 1) := by decide +kernel
theorem dL_precedent_20 : decode cL_precedent 20 = .ok (.ireturn, 1) := by decide +kernel
theorem dL_quarter_0 : decode cL_quarter 0 = .ok (.aload_n 3, 1) := by decide +kernel
theorem dL_quarter_1 : decode cL_quarter 1 = .ok (.iconst 0, 1) := by decide +kernel
theorem dL_quarter_2 : decode cL_quarter 2 = .ok (.aload_n 0, 1) := by decide +kernel
theorem dL_quarter_3 : decode cL_quarter 3 = .ok (.iload_n 1, 1) := by decide +kernel
theorem dL_quarter_4 : decode cL_quarter 4 = .ok (.iload_n 2, 1) := by decide +kernel
theorem dL_quarter_5 : decode cL_quarter 5 = .ok (.invokevirtual 127, 3) := by decide +kernel
theorem dL_quarter_13 : decode cL_quarter 13 = .ok (.astore 4, 2) := by decide +kernel
theorem dL_quarter_15 : decode cL_quarter 15 = .ok (.iconst 1, 1) := by decide +kernel
theorem dL_quarter_16 : decode cL_quarter 16 = .ok (.ireturn, 1) := by decide +kernel
theorem dL_quarterBy_0 : decode cL_quarterBy 0 = .ok (.aload_n 3, 1) := by decide +kernel
theorem dL_quarterBy_1 : decode cL_quarterBy 1 = .ok (.iconst 0, 1) := by decide +kernel
theorem dL_quarterBy_2 : decode cL_quarterBy 2 = .ok (.aload_n 0, 1) := by decide +kernel
theorem dL_quarterBy_3 : decode cL_quarterBy 3 = .ok (.iload_n 1, 1) := by decide +kernel
theorem dL_quarterBy_4 : decode cL_quarterBy 4 = .ok (.iload_n 2, 1) := by decide +kernel
theorem dL_quarterBy_5 : decode cL_quarterBy 5 = .ok (.invokevirtual 130, 3) := by decide +kernel
theorem dL_quarterBy_13 : decode cL_quarterBy 13 = .ok (.astore 4, 2) := by decide +kernel
theorem dL_quarterBy_15 : decode cL_quarterBy 15 = .ok (.iconst 1, 1) := by decide +kernel
theorem dL_quarterBy_16 : decode cL_quarterBy 16 = .ok (.ireturn, 1) := by decide +kernel
theorem dL_quarters_0 : decode cL_quarters 0 = .ok (.aload_n 2, 1) := by decide +kernel
theorem dL_quarters_1 : decode cL_quarters 1 = .ok (.iconst 0, 1) := by decide +kernel
theorem dL_quarters_2 : decode cL_quarters 2 = .ok (.aload_n 0, 1) := by decide +kernel
theorem dL_quarters_3 : decode cL_quarters 3 = .ok (.iload_n 1, 1) := by decide +kernel
theorem dL_quarters_4 : decode cL_quarters 4 = .ok (.invokevirtual 124, 3) := by decide +kernel
theorem dL_quarters_12 : decode cL_quarters 12 = .ok (.astore_n 3, 1) := by decide +kernel
theorem dL_quarters_13 : decode cL_quarters 13 = .ok (.iconst 1, 1) := by decide +kernel
theorem dL_quarters_14 : decode cL_quarters 14 = .ok (.ireturn, 1) := by decide +kernel
theorem dL_setCrest_0 : decode cL_setCrest 0 = .ok (.aload_n 3, 1) := by decide +kernel
theorem dL_setCrest_1 : decode cL_setCrest 1 = .ok (.iconst 0, 1) := by decide +kernel
theorem dL_setCrest_2 : decode cL_setCrest 2 = .ok (.aload_n 0, 1) := by decide +kernel
theorem dL_setCrest_3 : decode cL_setCrest 3 = .ok (.iload_n 1, 1) := by decide +kernel
theorem dL_setCrest_4 : decode cL_setCrest 4 = .ok (.iload_n 2, 1) := by decide +kernel
theorem dL_setCrest_5 : decode cL_setCrest 5 = .ok (.invokevirtual 163, 3) := by decide +kernel
theorem dL_setCrest_13 : decode cL_setCrest 13 = .ok (.astore 4, 2) := by decide +kernel
theorem dL_setCrest_15 : decode cL_setCrest 15 = .ok (.iconst 1, 1) := by decide +kernel
theorem dL_setCrest_16 : decode cL_setCrest 16 = .ok (.ireturn, 1) := by decide +kernel
theorem dL_setRank_0 : decode cL_setRank 0 = .ok (.aload_n 3, 1) := by decide +kernel
theorem dL_setRank_1 : decode cL_setRank 1 = .ok (.iconst 0, 1) := by decide +kernel
theorem dL_setRank_2 : decode cL_setRank 2 = .ok (.aload_n 0, 1) := by decide +kernel
theorem dL_setRank_3 : decode cL_setRank 3 = .ok (.iload_n 1, 1) := by decide +kernel
theorem dL_setRank_4 : decode cL_setRank 4 = .ok (.iload_n 2, 1) := by decide +kernel
theorem dL_setRank_5 : decode cL_setRank 5 = .ok (.invokevirtual 160, 3) := by decide +kernel
theorem dL_setRank_13 : decode cL_setRank 13 = .ok (.astore 4, 2) := by decide +kernel
theorem dL_setRank_15 : decode cL_setRank 15 = .ok (.iconst 1, 1) := by decide +kernel
theorem dL_setRank_16 : decode cL_setRank 16 = .ok (.ireturn, 1) := by decide +kernel
theorem dL_setSupporters_0 : decode cL_setSupporters 0 = .ok (.aload 4, 2) := by decide +kernel
theorem dL_setSupporters_2 : decode cL_setSupporters 2 = .ok (.iconst 0, 1) := by decide +kernel
theorem dL_setSupporters_3 : decode cL_setSupporters 3 = .ok (.aload_n 0, 1) := by decide +kernel
theorem dL_setSupporters_4 : decode cL_setSupporters 4 = .ok (.iload_n 1, 1) := by decide +kernel
theorem dL_setSupporters_5 : decode cL_setSupporters 5 = .ok (.iload_n 2, 1) := by decide +kernel
theorem dL_setSupporters_6 : decode cL_setSupporters 6 = .ok (.iload_n 3, 1) := by decide +kernel
theorem dL_setSupporters_7 : decode cL_setSupporters 7 = .ok (.invokevirtual 169, 3) := by decide +kernel
theorem dL_setSupporters_22 : decode cL_setSupporters 22 = .ok (.astore 5, 2) := by decide +kernel
theorem dL_setSupporters_24 : decode cL_setSupporters 24 = .ok (.iconst 1, 1) := by decide +kernel
theorem dL_setSupporters_25 : decode cL_setSupporters 25 = .ok (.ireturn, 1) := by decide +kernel
theorem dL_shield_0 : decode cL_shield 0 = .ok (.aload 4, 2) := by decide +kernel
theorem dL_shield_2 : decode cL_shield 2 = .ok (.iconst 0, 1) := by decide +kernel
theorem dL_shield_3 : decode cL_shield 3 = .ok (.aload_n 0, 1) := by decide +kernel
theorem dL_shield_4 : decode cL_shield 4 = .ok (.iload_n 1, 1) := by decide +kernel
theorem dL_shield_5 : decode cL_shield 5 = .ok (.iload_n 2, 1) := by decide +kernel
theorem dL_shield_6 : decode cL_shield 6 = .ok (.iload_n 3, 1) := by decide +kernel
theorem dL_shield_7 : decode cL_shield 7 = .ok (.invokevirtual 121, 3) := by decide +kernel
theorem dL_shield_15 : decode cL_shield 15 = .ok (.astore 5, 2) := by decide +kernel
theorem dL_shield_17 : decode cL_shield 17 = .ok (.iconst 1, 1) := by decide +kernel
theorem dL_shield_18 : decode cL_shield 18 = .ok (.ireturn, 1) := by decide +kernel
theorem dL_spouse_0 : decode cL_spouse 0 = .ok (.aload_n 2, 1) := by decide +kernel
theorem dL_spouse_1 : decode cL_spouse 1 = .ok (.iconst 0, 1) := by decide +kernel
theorem dL_spouse_2 : decode cL_spouse 2 = .ok (.aload_n 0, 1) := by decide +kernel
theorem dL_spouse_3 : decode cL_spouse 3 = .ok (.iload_n 1, 1) := by decide +kernel
theorem dL_spouse_4 : decode cL_spouse 4 = .ok (.invokevirtual 71, 3) := by decide +kernel
theorem dL_spouse_12 : decode cL_spouse 12 = .ok (.astore_n 3, 1) := by decide +kernel
theorem dL_spouse_13 : decode cL_spouse 13 = .ok (.iconst 1, 1) := by decide +kernel
theorem dL_spouse_14 : decode cL_spouse 14 = .ok (.ireturn, 1) := by decide +kernel
theorem dL_stands_0 : decode cL_stands 0 = .ok (.aload_n 2, 1) := by decide +kernel
theorem dL_stands_1 : decode cL_stands 1 = .ok (.iconst 0, 1) := by decide +kernel
theorem dL_stands_2 : decode cL_stands 2 = .ok (.aload_n 0, 1) := by decide +kernel
theorem dL_stands_3 : decode cL_stands 3 = .ok (.iload_n 1, 1) := by decide +kernel
theorem dL_stands_4 : decode cL_stands 4 = .ok (.invokevirtual 151, 3) := by decide +kernel
theorem dL_stands_19 : decode cL_stands 19 = .ok (.astore_n 3, 1) := by decide +kernel
theorem dL_stands_20 : decode cL_stands 20 = .ok (.iconst 1, 1) := by decide +kernel
theorem dL_stands_21 : decode cL_stands 21 = .ok (.ireturn, 1) := by decide +kernel
theorem dL_sue_0 : decode cL_sue 0 = .ok (.aload_n 3, 1) := by decide +kernel
theorem dL_sue_1 : decode cL_sue 1 = .ok (.iconst 0, 1) := by decide +kernel
theorem dL_sue_2 : decode cL_sue 2 = .ok (.aload_n 0, 1) := by decide +kernel
theorem dL_sue_3 : decode cL_sue 3 = .ok (.iload_n 1, 1) := by decide +kernel
theorem dL_sue_4 : decode cL_sue 4 = .ok (.iload_n 2, 1) := by decide +kernel
theorem dL_sue_5 : decode cL_sue 5 = .ok (.invokevirtual 145, 3) := by decide +kernel
theorem dL_sue_13 : decode cL_sue 13 = .ok (.astore 4, 2) := by decide +kernel
theorem dL_sue_15 : decode cL_sue 15 = .ok (.iconst 1, 1) := by decide +kernel
theorem dL_sue_16 : decode cL_sue 16 = .ok (.ireturn, 1) := by decide +kernel
theorem dL_supporter_0 : decode cL_supporter 0 = .ok (.aload_n 3, 1) := by decide +kernel
theorem dL_supporter_1 : decode cL_supporter 1 = .ok (.iconst 0, 1) := by decide +kernel
theorem dL_supporter_2 : decode cL_supporter 2 = .ok (.aload_n 0, 1) := by decide +kernel
theorem dL_supporter_3 : decode cL_supporter 3 = .ok (.iload_n 1, 1) := by decide +kernel
theorem dL_supporter_4 : decode cL_supporter 4 = .ok (.iload_n 2, 1) := by decide +kernel
theorem dL_supporter_5 : decode cL_supporter 5 = .ok (.invokevirtual 173, 3) := by decide +kernel
theorem dL_supporter_13 : decode cL_supporter 13 = .ok (.astore 4, 2) := by decide +kernel
theorem dL_supporter_15 : decode cL_supporter 15 = .ok (.iconst 1, 1) := by decide +kernel
theorem dL_supporter_16 : decode cL_supporter 16 = .ok (.ireturn, 1) := by decide +kernel
theorem dL_translated_0 : decode cL_translated 0 = .ok (.aload_n 3, 1) := by decide +kernel
theorem dL_translated_1 : decode cL_translated 1 = .ok (.iconst 0, 1) := by decide +kernel
theorem dL_translated_2 : decode cL_translated 2 = .ok (.aload_n 0, 1) := by decide +kernel
theorem dL_translated_3 : decode cL_translated 3 = .ok (.iload_n 1, 1) := by decide +kernel
theorem dL_translated_4 : decode cL_translated 4 = .ok (.iload_n 2, 1) := by decide +kernel
theorem dL_translated_5 : decode cL_translated 5 = .ok (.invokevirtual 50, 3) := by decide +kernel
theorem dL_translated_13 : decode cL_translated 13 = .ok (.astore 4, 2) := by decide +kernel
theorem dL_translated_15 : decode cL_translated 15 = .ok (.iconst 1, 1) := by decide +kernel
theorem dL_translated_16 : decode cL_translated 16 = .ok (.ireturn, 1) := by decide +kernel
theorem dL_translated_17 : decode cL_translated 17 = .ok (.astore 4, 2) := by decide +kernel
theorem dL_translated_19 : decode cL_translated 19 = .ok (.iconst 2, 1) := by decide +kernel
theorem dL_translated_20 : decode cL_translated 20 = .ok (.ireturn, 1) := by decide +kernel
theorem dL_type_0 : decode cL_type 0 = .ok (.aload_n 2, 1) := by decide +kernel
theorem dL_type_1 : decode cL_type 1 = .ok (.iconst 0, 1) := by decide +kernel
theorem dL_type_2 : decode cL_type 2 = .ok (.aload_n 0, 1) := by decide +kernel
theorem dL_type_3 : decode cL_type 3 = .ok (.iload_n 1, 1) := by decide +kernel
theorem dL_type_4 : decode cL_type 4 = .ok (.invokevirtual 7, 3) := by decide +kernel
theorem dL_type_7 : decode cL_type 7 = .ok (.i2l, 1) := by decide +kernel
theorem dL_type_8 : decode cL_type 8 = .ok (.lastore, 1) := by decide +kernel
theorem dL_type_9 : decode cL_type 9 = .ok (.goto 9, 3) := by decide +kernel
theorem dL_type_12 : decode cL_type 12 = .ok (.astore_n 3, 1) := by decide +kernel
theorem dL_type_13 : decode cL_type 13 = .ok (.iconst 1, 1) := by decide +kernel
theorem dL_type_14 : decode cL_type 14 = .ok (.ireturn, 1) := by decide +kernel
theorem dL_type_18 : decode cL_type 18 = .ok (.iconst 0, 1) := by decide +kernel
theorem dL_type_19 : decode cL_type 19 = .ok (.ireturn, 1) := by decide +kernel
theorem dL_visit_0 : decode cL_visit 0 = .ok (.aload_n 2, 1) := by decide +kernel
theorem dL_visit_1 : decode cL_visit 1 = .ok (.iconst 0, 1) := by decide +kernel
theorem dL_visit_2 : decode cL_visit 2 = .ok (.aload_n 0, 1) := by decide +kernel
theorem dL_visit_3 : decode cL_visit 3 = .ok (.iload_n 1, 1) := by decide +kernel
theorem dL_visit_4 : decode cL_visit 4 = .ok (.invokevirtual 142, 3) := by decide +kernel
theorem dL_visit_7 : decode cL_visit 7 = .ok (.i2l, 1) := by decide +kernel
theorem dL_visit_8 : decode cL_visit 8 = .ok (.lastore, 1) := by decide +kernel
theorem dL_visit_9 : decode cL_visit 9 = .ok (.goto 6, 3) := by decide +kernel
theorem dL_visit_12 : decode cL_visit 12 = .ok (.astore_n 3, 1) := by decide +kernel
theorem dL_visit_13 : decode cL_visit 13 = .ok (.iconst 1, 1) := by decide +kernel
theorem dL_visit_14 : decode cL_visit 14 = .ok (.ireturn, 1) := by decide +kernel
theorem dL_visit_15 : decode cL_visit 15 = .ok (.iconst 0, 1) := by decide +kernel
theorem dL_visit_16 : decode cL_visit 16 = .ok (.ireturn, 1) := by decide +kernel
theorem dL_yearOf_0 : decode cL_yearOf 0 = .ok (.aload_n 2, 1) := by decide +kernel
theorem dL_yearOf_1 : decode cL_yearOf 1 = .ok (.iconst 0, 1) := by decide +kernel
theorem dL_yearOf_2 : decode cL_yearOf 2 = .ok (.aload_n 0, 1) := by decide +kernel
theorem dL_yearOf_3 : decode cL_yearOf 3 = .ok (.iload_n 1, 1) := by decide +kernel
theorem dL_yearOf_4 : decode cL_yearOf 4 = .ok (.invokevirtual 90, 3) := by decide +kernel
theorem dL_yearOf_12 : decode cL_yearOf 12 = .ok (.astore_n 3, 1) := by decide +kernel
theorem dL_yearOf_13 : decode cL_yearOf 13 = .ok (.iconst 1, 1) := by decide +kernel
theorem dL_yearOf_14 : decode cL_yearOf 14 = .ok (.ireturn, 1) := by decide +kernel
theorem dX0_areVoidUnborne_0 : decode cX0_areVoidUnborne 0 = .ok (.iconst 0, 1) := by decide +kernel
theorem dX0_areVoidUnborne_1 : decode cX0_areVoidUnborne 1 = .ok (.istore_n 1, 1) := by decide +kernel
theorem dX0_areVoidUnborne_2 : decode cX0_areVoidUnborne 2 = .ok (.iload_n 1, 1) := by decide +kernel
theorem dX0_areVoidUnborne_3 : decode cX0_areVoidUnborne 3 = .ok (.aload_n 0, 1) := by decide +kernel
theorem dX0_areVoidUnborne_4 : decode cX0_areVoidUnborne 4 = .ok (.getfield 42, 3) := by decide +kernel
theorem dX0_areVoidUnborne_7 : decode cX0_areVoidUnborne 7 = .ok (.getfield 60, 3) := by decide +kernel
theorem dX0_areVoidUnborne_10 : decode cX0_areVoidUnborne 10 = .ok (.if_icmp .ge 42, 3) := by decide +kernel
theorem dX0_areVoidUnborne_52 : decode cX0_areVoidUnborne 52 = .ok (.iconst 1, 1) := by decide +kernel
theorem dX0_areVoidUnborne_53 : decode cX0_areVoidUnborne 53 = .ok (.ireturn, 1) := by decide +kernel
theorem dX0_armsOf_0 : decode cX0_armsOf 0 = .ok (.aload_n 0, 1) := by decide +kernel
theorem dX0_armsOf_1 : decode cX0_armsOf 1 = .ok (.getfield 42, 3) := by decide +kernel
theorem dX0_armsOf_4 : decode cX0_armsOf 4 = .ok (.iload_n 1, 1) := by decide +kernel
theorem dX0_armsOf_5 : decode cX0_armsOf 5 = .ok (.invokevirtual 73, 3) := by decide +kernel
theorem dX0_armsOf_8 : decode cX0_armsOf 8 = .ok (.ifCond .eq 12, 3) := by decide +kernel
theorem dX0_armsOf_11 : decode cX0_armsOf 11 = .ok (.aload_n 0, 1) := by decide +kernel
theorem dX0_armsOf_12 : decode cX0_armsOf 12 = .ok (.getfield 9, 3) := by decide +kernel
theorem dX0_armsOf_15 : decode cX0_armsOf 15 = .ok (.iload_n 1, 1) := by decide +kernel
theorem dX0_armsOf_16 : decode cX0_armsOf 16 = .ok (.iaload, 1) := by decide +kernel
theorem dX0_armsOf_17 : decode cX0_armsOf 17 = .ok (.goto 4, 3) := by decide +kernel
theorem dX0_armsOf_21 : decode cX0_armsOf 21 = .ok (.ireturn, 1) := by decide +kernel
theorem dX0_bear_0 : decode cX0_bear 0 = .ok (.aload_n 0, 1) := by decide +kernel
theorem dX0_bear_1 : decode cX0_bear 1 = .ok (.getfield 42, 3) := by decide +kernel
theorem dX0_bear_4 : decode cX0_bear 4 = .ok (.iload_n 1, 1) := by decide +kernel
theorem dX0_bear_5 : decode cX0_bear 5 = .ok (.invokevirtual 73, 3) := by decide +kernel
theorem dX0_bear_8 : decode cX0_bear 8 = .ok (.ifCond .ne 4, 3) := by decide +kernel
theorem dX0_bear_12 : decode cX0_bear 12 = .ok (.aload_n 0, 1) := by decide +kernel
theorem dX0_bear_13 : decode cX0_bear 13 = .ok (.getfield 23, 3) := by decide +kernel
theorem dX0_bear_16 : decode cX0_bear 16 = .ok (.iload_n 1, 1) := by decide +kernel
theorem dX0_bear_17 : decode cX0_bear 17 = .ok (.iconst 0, 1) := by decide +kernel
theorem dX0_bear_18 : decode cX0_bear 18 = .ok (.iastore, 1) := by decide +kernel
theorem dX0_bear_19 : decode cX0_bear 19 = .ok (.aload_n 0, 1) := by decide +kernel
theorem dX0_bear_20 : decode cX0_bear 20 = .ok (.getfield 9, 3) := by decide +kernel
theorem dX0_bear_23 : decode cX0_bear 23 = .ok (.iload_n 1, 1) := by decide +kernel
theorem dX0_bear_24 : decode cX0_bear 24 = .ok (.aload_n 0, 1) := by decide +kernel
theorem dX0_bear_25 : decode cX0_bear 25 = .ok (.getfield 46, 3) := by decide +kernel
theorem dX0_bear_28 : decode cX0_bear 28 = .ok (.iload_n 1, 1) := by decide +kernel
theorem dX0_bear_29 : decode cX0_bear 29 = .ok (.invokevirtual 76, 3) := by decide +kernel
theorem dX0_bear_32 : decode cX0_bear 32 = .ok (.iastore, 1) := by decide +kernel
theorem dX0_bear_33 : decode cX0_bear 33 = .ok (.aload_n 0, 1) := by decide +kernel
theorem dX0_bear_34 : decode cX0_bear 34 = .ok (.getfield 9, 3) := by decide +kernel
theorem dX0_bear_37 : decode cX0_bear 37 = .ok (.iload_n 1, 1) := by decide +kernel
theorem dX0_bear_38 : decode cX0_bear 38 = .ok (.iaload, 1) := by decide +kernel
theorem dX0_bear_39 : decode cX0_bear 39 = .ok (.ifCond .ge 14, 3) := by decide +kernel
theorem dX0_bear_42 : decode cX0_bear 42 = .ok (.aload_n 0, 1) := by decide +kernel
theorem dX0_bear_43 : decode cX0_bear 43 = .ok (.getfield 9, 3) := by decide +kernel
theorem dX0_bear_46 : decode cX0_bear 46 = .ok (.iload_n 1, 1) := by decide +kernel
theorem dX0_bear_47 : decode cX0_bear 47 = .ok (.aload_n 0, 1) := by decide +kernel
theorem dX0_bear_48 : decode cX0_bear 48 = .ok (.iload_n 1, 1) := by decide +kernel
theorem dX0_bear_49 : decode cX0_bear 49 = .ok (.invokevirtual 80, 3) := by decide +kernel
theorem dX0_bear_52 : decode cX0_bear 52 = .ok (.iastore, 1) := by decide +kernel
theorem dX0_bear_53 : decode cX0_bear 53 = .ok (.aload_n 0, 1) := by decide +kernel
theorem dX0_bear_54 : decode cX0_bear 54 = .ok (.getfield 42, 3) := by decide +kernel
theorem dX0_bear_57 : decode cX0_bear 57 = .ok (.iload_n 1, 1) := by decide +kernel
theorem dX0_bear_58 : decode cX0_bear 58 = .ok (.invokevirtual 83, 3) := by decide +kernel
theorem dX0_bear_61 : decode cX0_bear 61 = .ok (.istore_n 2, 1) := by decide +kernel
theorem dX0_bear_62 : decode cX0_bear 62 = .ok (.aload_n 0, 1) := by decide +kernel
theorem dX0_bear_63 : decode cX0_bear 63 = .ok (.getfield 9, 3) := by decide +kernel
theorem dX0_bear_66 : decode cX0_bear 66 = .ok (.iload_n 1, 1) := by decide +kernel
theorem dX0_bear_67 : decode cX0_bear 67 = .ok (.iaload, 1) := by decide +kernel
theorem dX0_bear_68 : decode cX0_bear 68 = .ok (.ifCond .ge 23, 3) := by decide +kernel
theorem dX0_bear_71 : decode cX0_bear 71 = .ok (.aload_n 0, 1) := by decide +kernel
theorem dX0_bear_72 : decode cX0_bear 72 = .ok (.getfield 42, 3) := by decide +kernel
theorem dX0_bear_75 : decode cX0_bear 75 = .ok (.iload_n 2, 1) := by decide +kernel
theorem dX0_bear_76 : decode cX0_bear 76 = .ok (.invokevirtual 73, 3) := by decide +kernel
theorem dX0_bear_79 : decode cX0_bear 79 = .ok (.ifCond .eq 12, 3) := by decide +kernel
theorem dX0_bear_91 : decode cX0_bear 91 = .ok (.return_, 1) := by decide +kernel
theorem dX0_fallenTo_0 : decode cX0_fallenTo 0 = .ok (.iconst 0, 1) := by decide +kernel
theorem dX0_fallenTo_1 : decode cX0_fallenTo 1 = .ok (.istore_n 2, 1) := by decide +kernel
theorem dX0_fallenTo_2 : decode cX0_fallenTo 2 = .ok (.iload_n 2, 1) := by decide +kernel
theorem dX0_fallenTo_3 : decode cX0_fallenTo 3 = .ok (.aload_n 0, 1) := by decide +kernel
theorem dX0_fallenTo_4 : decode cX0_fallenTo 4 = .ok (.getfield 46, 3) := by decide +kernel
theorem dX0_fallenTo_7 : decode cX0_fallenTo 7 = .ok (.getfield 50, 3) := by decide +kernel
theorem dX0_fallenTo_10 : decode cX0_fallenTo 10 = .ok (.if_icmp .ge 38, 3) := by decide +kernel
theorem dX0_fallenTo_48 : decode cX0_fallenTo 48 = .ok (.iconst (-1), 1) := by decide +kernel
theorem dX0_fallenTo_49 : decode cX0_fallenTo 49 = .ok (.ireturn, 1) := by decide +kernel
theorem dX0_init_0 : decode cX0_init 0 = .ok (.aload_n 0, 1) := by decide +kernel
theorem dX0_init_1 : decode cX0_init 1 = .ok (.invokespecial 3, 3) := by decide +kernel
theorem dX0_init_4 : decode cX0_init 4 = .ok (.aload_n 0, 1) := by decide +kernel
theorem dX0_init_5 : decode cX0_init 5 = .ok (.bipush 40, 2) := by decide +kernel
theorem dX0_init_7 : decode cX0_init 7 = .ok (.newarray .int, 2) := by decide +kernel
theorem dX0_init_9 : decode cX0_init 9 = .ok (.putfield 9, 3) := by decide +kernel
theorem dX0_init_12 : decode cX0_init 12 = .ok (.aload_n 0, 1) := by decide +kernel
theorem dX0_init_13 : decode cX0_init 13 = .ok (.bipush 40, 2) := by decide +kernel
theorem dX0_init_15 : decode cX0_init 15 = .ok (.newarray .int, 2) := by decide +kernel
theorem dX0_init_17 : decode cX0_init 17 = .ok (.putfield 15, 3) := by decide +kernel
theorem dX0_init_20 : decode cX0_init 20 = .ok (.aload_n 0, 1) := by decide +kernel
theorem dX0_init_21 : decode cX0_init 21 = .ok (.bipush 40, 2) := by decide +kernel
theorem dX0_init_23 : decode cX0_init 23 = .ok (.bipush 40, 2) := by decide +kernel
theorem dX0_init_25 : decode cX0_init 25 = .ok (.multianewarray 18 2, 4) := by decide +kernel
theorem dX0_init_29 : decode cX0_init 29 = .ok (.putfield 20, 3) := by decide +kernel
theorem dX0_init_32 : decode cX0_init 32 = .ok (.aload_n 0, 1) := by decide +kernel
theorem dX0_init_33 : decode cX0_init 33 = .ok (.bipush 40, 2) := by decide +kernel
theorem dX0_init_35 : decode cX0_init 35 = .ok (.newarray .int, 2) := by decide +kernel
theorem dX0_init_37 : decode cX0_init 37 = .ok (.putfield 23, 3) := by decide +kernel
theorem dX0_init_40 : decode cX0_init 40 = .ok (.aload_n 0, 1) := by decide +kernel
theorem dX0_init_41 : decode cX0_init 41 = .ok (.bipush 40, 2) := by decide +kernel
theorem dX0_init_43 : decode cX0_init 43 = .ok (.newarray .boolean, 2) := by decide +kernel
theorem dX0_init_45 : decode cX0_init 45 = .ok (.putfield 26, 3) := by decide +kernel
theorem dX0_init_48 : decode cX0_init 48 = .ok (.aload_n 0, 1) := by decide +kernel
theorem dX0_init_49 : decode cX0_init 49 = .ok (.bipush 40, 2) := by decide +kernel
theorem dX0_init_51 : decode cX0_init 51 = .ok (.newarray .boolean, 2) := by decide +kernel
theorem dX0_init_53 : decode cX0_init 53 = .ok (.putfield 30, 3) := by decide +kernel
theorem dX0_init_56 : decode cX0_init 56 = .ok (.aload_n 0, 1) := by decide +kernel
theorem dX0_init_57 : decode cX0_init 57 = .ok (.bipush 24, 2) := by decide +kernel
theorem dX0_init_59 : decode cX0_init 59 = .ok (.newarray .int, 2) := by decide +kernel
theorem dX0_init_61 : decode cX0_init 61 = .ok (.putfield 33, 3) := by decide +kernel
theorem dX0_init_64 : decode cX0_init 64 = .ok (.aload_n 0, 1) := by decide +kernel
theorem dX0_init_65 : decode cX0_init 65 = .ok (.bipush 24, 2) := by decide +kernel
theorem dX0_init_67 : decode cX0_init 67 = .ok (.newarray .int, 2) := by decide +kernel
theorem dX0_init_69 : decode cX0_init 69 = .ok (.putfield 36, 3) := by decide +kernel
theorem dX0_init_72 : decode cX0_init 72 = .ok (.aload_n 0, 1) := by decide +kernel
theorem dX0_init_73 : decode cX0_init 73 = .ok (.bipush 24, 2) := by decide +kernel
theorem dX0_init_75 : decode cX0_init 75 = .ok (.newarray .int, 2) := by decide +kernel
theorem dX0_init_77 : decode cX0_init 77 = .ok (.putfield 39, 3) := by decide +kernel
theorem dX0_init_80 : decode cX0_init 80 = .ok (.aload_n 0, 1) := by decide +kernel
theorem dX0_init_81 : decode cX0_init 81 = .ok (.aload_n 1, 1) := by decide +kernel
theorem dX0_init_82 : decode cX0_init 82 = .ok (.putfield 42, 3) := by decide +kernel
theorem dX0_init_85 : decode cX0_init 85 = .ok (.aload_n 0, 1) := by decide +kernel
theorem dX0_init_86 : decode cX0_init 86 = .ok (.aload_n 2, 1) := by decide +kernel
theorem dX0_init_87 : decode cX0_init 87 = .ok (.putfield 46, 3) := by decide +kernel
theorem dX0_init_90 : decode cX0_init 90 = .ok (.return_, 1) := by decide +kernel
theorem dX0_settle_0 : decode cX0_settle 0 = .ok (.iconst 0, 1) := by decide +kernel
theorem dX0_settle_1 : decode cX0_settle 1 = .ok (.istore_n 1, 1) := by decide +kernel
theorem dX0_settle_2 : decode cX0_settle 2 = .ok (.iload_n 1, 1) := by decide +kernel
theorem dX0_settle_3 : decode cX0_settle 3 = .ok (.aload_n 0, 1) := by decide +kernel
theorem dX0_settle_4 : decode cX0_settle 4 = .ok (.getfield 46, 3) := by decide +kernel
theorem dX0_settle_7 : decode cX0_settle 7 = .ok (.getfield 50, 3) := by decide +kernel
theorem dX0_settle_10 : decode cX0_settle 10 = .ok (.if_icmp .ge 20, 3) := by decide +kernel
theorem dX0_settle_30 : decode cX0_settle 30 = .ok (.iconst 0, 1) := by decide +kernel
theorem dX0_settle_31 : decode cX0_settle 31 = .ok (.istore_n 1, 1) := by decide +kernel
theorem dX0_settle_32 : decode cX0_settle 32 = .ok (.iload_n 1, 1) := by decide +kernel
theorem dX0_settle_33 : decode cX0_settle 33 = .ok (.aload_n 0, 1) := by decide +kernel
theorem dX0_settle_34 : decode cX0_settle 34 = .ok (.getfield 42, 3) := by decide +kernel
theorem dX0_settle_37 : decode cX0_settle 37 = .ok (.getfield 60, 3) := by decide +kernel
theorem dX0_settle_40 : decode cX0_settle 40 = .ok (.if_icmp .ge 75, 3) := by decide +kernel
theorem dX0_settle_43 : decode cX0_settle 43 = .ok (.iload_n 1, 1) := by decide +kernel
theorem dX0_settle_44 : decode cX0_settle 44 = .ok (.bipush 40, 2) := by decide +kernel
theorem dX0_settle_46 : decode cX0_settle 46 = .ok (.if_icmp .ge 69, 3) := by decide +kernel
theorem dX0_settle_49 : decode cX0_settle 49 = .ok (.aload_n 0, 1) := by decide +kernel
theorem dX0_settle_50 : decode cX0_settle 50 = .ok (.getfield 42, 3) := by decide +kernel
theorem dX0_settle_53 : decode cX0_settle 53 = .ok (.iload_n 1, 1) := by decide +kernel
theorem dX0_settle_54 : decode cX0_settle 54 = .ok (.invokevirtual 63, 3) := by decide +kernel
theorem dX0_settle_57 : decode cX0_settle 57 = .ok (.ifCond .eq 11, 3) := by decide +kernel
theorem dX0_settle_60 : decode cX0_settle 60 = .ok (.aload_n 0, 1) := by decide +kernel
theorem dX0_settle_61 : decode cX0_settle 61 = .ok (.iload_n 1, 1) := by decide +kernel
theorem dX0_settle_62 : decode cX0_settle 62 = .ok (.invokevirtual 67, 3) := by decide +kernel
theorem dX0_settle_65 : decode cX0_settle 65 = .ok (.goto 44, 3) := by decide +kernel
theorem dX0_settle_109 : decode cX0_settle 109 = .ok (.iinc 1 1, 3) := by decide +kernel
theorem dX0_settle_112 : decode cX0_settle 112 = .ok (.goto (-80), 3) := by decide +kernel
theorem dX0_settle_115 : decode cX0_settle 115 = .ok (.return_, 1) := by decide +kernel
theorem dX10_init_0 : decode cX10_init 0 = .ok (.aload_n 0, 1) := by decide +kernel
theorem dX10_init_1 : decode cX10_init 1 = .ok (.invokespecial 3, 3) := by decide +kernel
theorem dX10_init_4 : decode cX10_init 4 = .ok (.aload_n 0, 1) := by decide +kernel
theorem dX10_init_5 : decode cX10_init 5 = .ok (.iconst 5, 1) := by decide +kernel
theorem dX10_init_6 : decode cX10_init 6 = .ok (.anewarray 9, 3) := by decide +kernel
theorem dX10_init_9 : decode cX10_init 9 = .ok (.putfield 11, 3) := by decide +kernel
theorem dX10_init_12 : decode cX10_init 12 = .ok (.aload_n 0, 1) := by decide +kernel
theorem dX10_init_13 : decode cX10_init 13 = .ok (.iconst 5, 1) := by decide +kernel
theorem dX10_init_14 : decode cX10_init 14 = .ok (.newarray .int, 2) := by decide +kernel
theorem dX10_init_16 : decode cX10_init 16 = .ok (.putfield 17, 3) := by decide +kernel
theorem dX10_init_19 : decode cX10_init 19 = .ok (.aload_n 0, 1) := by decide +kernel
theorem dX10_init_20 : decode cX10_init 20 = .ok (.iconst 5, 1) := by decide +kernel
theorem dX10_init_21 : decode cX10_init 21 = .ok (.newarray .int, 2) := by decide +kernel
theorem dX10_init_23 : decode cX10_init 23 = .ok (.putfield 21, 3) := by decide +kernel
theorem dX10_init_26 : decode cX10_init 26 = .ok (.aload_n 0, 1) := by decide +kernel
theorem dX10_init_27 : decode cX10_init 27 = .ok (.bipush 24, 2) := by decide +kernel
theorem dX10_init_29 : decode cX10_init 29 = .ok (.newarray .int, 2) := by decide +kernel
theorem dX10_init_31 : decode cX10_init 31 = .ok (.putfield 24, 3) := by decide +kernel
theorem dX10_init_34 : decode cX10_init 34 = .ok (.aload_n 0, 1) := by decide +kernel
theorem dX10_init_35 : decode cX10_init 35 = .ok (.bipush 24, 2) := by decide +kernel
theorem dX10_init_37 : decode cX10_init 37 = .ok (.newarray .int, 2) := by decide +kernel
theorem dX10_init_39 : decode cX10_init 39 = .ok (.putfield 27, 3) := by decide +kernel
theorem dX10_init_42 : decode cX10_init 42 = .ok (.aload_n 0, 1) := by decide +kernel
theorem dX10_init_43 : decode cX10_init 43 = .ok (.new 30, 3) := by decide +kernel
theorem dX10_init_46 : decode cX10_init 46 = .ok (.dup, 1) := by decide +kernel
theorem dX10_init_47 : decode cX10_init 47 = .ok (.invokespecial 32, 3) := by decide +kernel
theorem dX10_init_50 : decode cX10_init 50 = .ok (.putfield 33, 3) := by decide +kernel
theorem dX10_init_53 : decode cX10_init 53 = .ok (.aload_n 0, 1) := by decide +kernel
theorem dX10_init_54 : decode cX10_init 54 = .ok (.new 9, 3) := by decide +kernel
theorem dX10_init_57 : decode cX10_init 57 = .ok (.dup, 1) := by decide +kernel
theorem dX10_init_58 : decode cX10_init 58 = .ok (.invokespecial 37, 3) := by decide +kernel
theorem dX10_init_61 : decode cX10_init 61 = .ok (.putfield 38, 3) := by decide +kernel
theorem dX10_init_64 : decode cX10_init 64 = .ok (.aload_n 0, 1) := by decide +kernel
theorem dX10_init_65 : decode cX10_init 65 = .ok (.new 42, 3) := by decide +kernel
theorem dX10_init_68 : decode cX10_init 68 = .ok (.dup, 1) := by decide +kernel
theorem dX10_init_69 : decode cX10_init 69 = .ok (.invokespecial 44, 3) := by decide +kernel
theorem dX10_init_72 : decode cX10_init 72 = .ok (.putfield 45, 3) := by decide +kernel
theorem dX10_init_75 : decode cX10_init 75 = .ok (.aload_n 0, 1) := by decide +kernel
theorem dX10_init_76 : decode cX10_init 76 = .ok (.aload_n 1, 1) := by decide +kernel
theorem dX10_init_77 : decode cX10_init 77 = .ok (.putfield 49, 3) := by decide +kernel
theorem dX10_init_80 : decode cX10_init 80 = .ok (.iconst 0, 1) := by decide +kernel
theorem dX10_init_81 : decode cX10_init 81 = .ok (.istore_n 2, 1) := by decide +kernel
theorem dX10_init_82 : decode cX10_init 82 = .ok (.iload_n 2, 1) := by decide +kernel
theorem dX10_init_83 : decode cX10_init 83 = .ok (.iconst 4, 1) := by decide +kernel
theorem dX10_init_84 : decode cX10_init 84 = .ok (.if_icmp .gt 22, 3) := by decide +kernel
theorem dX10_init_87 : decode cX10_init 87 = .ok (.aload_n 0, 1) := by decide +kernel
theorem dX10_init_88 : decode cX10_init 88 = .ok (.getfield 11, 3) := by decide +kernel
theorem dX10_init_91 : decode cX10_init 91 = .ok (.iload_n 2, 1) := by decide +kernel
theorem dX10_init_92 : decode cX10_init 92 = .ok (.new 9, 3) := by decide +kernel
theorem dX10_init_95 : decode cX10_init 95 = .ok (.dup, 1) := by decide +kernel
theorem dX10_init_96 : decode cX10_init 96 = .ok (.invokespecial 37, 3) := by decide +kernel
theorem dX10_init_99 : decode cX10_init 99 = .ok (.aastore, 1) := by decide +kernel
theorem dX10_init_100 : decode cX10_init 100 = .ok (.iinc 2 1, 3) := by decide +kernel
theorem dX10_init_103 : decode cX10_init 103 = .ok (.goto (-21), 3) := by decide +kernel
theorem dX10_init_106 : decode cX10_init 106 = .ok (.return_, 1) := by decide +kernel
theorem dX11_abate_0 : decode cX11_abate 0 = .ok (.aload_n 0, 1) := by decide +kernel
theorem dX11_abate_1 : decode cX11_abate 1 = .ok (.iload_n 1, 1) := by decide +kernel
theorem dX11_abate_2 : decode cX11_abate 2 = .ok (.invokevirtual 212, 3) := by decide +kernel
theorem dX11_allPoints_0 : decode cX11_allPoints 0 = .ok (.aload_n 0, 1) := by decide +kernel
theorem dX11_allPoints_1 : decode cX11_allPoints 1 = .ok (.getfield 52, 3) := by decide +kernel
theorem dX11_allPoints_4 : decode cX11_allPoints 4 = .ok (.invokevirtual 442, 3) := by decide +kernel
theorem dX11_allPoints_7 : decode cX11_allPoints 7 = .ok (.lreturn, 1) := by decide +kernel
theorem dX11_appeal_0 : decode cX11_appeal 0 = .ok (.aload_n 0, 1) := by decide +kernel
theorem dX11_appeal_1 : decode cX11_appeal 1 = .ok (.iload_n 1, 1) := by decide +kernel
theorem dX11_appeal_2 : decode cX11_appeal 2 = .ok (.invokevirtual 377, 3) := by decide +kernel
theorem dX11_areSoughtBack_0 : decode cX11_areSoughtBack 0 = .ok (.iconst 0, 1) := by decide +kernel
theorem dX11_areSoughtBack_1 : decode cX11_areSoughtBack 1 = .ok (.istore_n 1, 1) := by decide +kernel
theorem dX11_areSoughtBack_2 : decode cX11_areSoughtBack 2 = .ok (.iload_n 1, 1) := by decide +kernel
theorem dX11_areSoughtBack_3 : decode cX11_areSoughtBack 3 = .ok (.aload_n 0, 1) := by decide +kernel
theorem dX11_areSoughtBack_4 : decode cX11_areSoughtBack 4 = .ok (.getfield 52, 3) := by decide +kernel
theorem dX11_areSoughtBack_7 : decode cX11_areSoughtBack 7 = .ok (.getfield 441, 3) := by decide +kernel
theorem dX11_areSoughtBack_10 : decode cX11_areSoughtBack 10 = .ok (.if_icmp .ge 45, 3) := by decide +kernel
theorem dX11_areSoughtBack_55 : decode cX11_areSoughtBack 55 = .ok (.iconst 1, 1) := by decide +kernel
theorem dX11_areSoughtBack_56 : decode cX11_areSoughtBack 56 = .ok (.ireturn, 1) := by decide +kernel
theorem dX11_areToldBack_0 : decode cX11_areToldBack 0 = .ok (.iconst 0, 1) := by decide +kernel
theorem dX11_areToldBack_1 : decode cX11_areToldBack 1 = .ok (.istore_n 1, 1) := by decide +kernel
theorem dX11_areToldBack_2 : decode cX11_areToldBack 2 = .ok (.iload_n 1, 1) := by decide +kernel
theorem dX11_areToldBack_3 : decode cX11_areToldBack 3 = .ok (.aload_n 0, 1) := by decide +kernel
theorem dX11_areToldBack_4 : decode cX11_areToldBack 4 = .ok (.getfield 52, 3) := by decide +kernel
theorem dX11_areToldBack_7 : decode cX11_areToldBack 7 = .ok (.getfield 441, 3) := by decide +kernel
theorem dX11_areToldBack_10 : decode cX11_areToldBack 10 = .ok (.if_icmp .ge 53, 3) := by decide +kernel
theorem dX11_areToldBack_63 : decode cX11_areToldBack 63 = .ok (.iconst 1, 1) := by decide +kernel
theorem dX11_areToldBack_64 : decode cX11_areToldBack 64 = .ok (.ireturn, 1) := by decide +kernel
theorem dX11_armigerShare_0 : decode cX11_armigerShare 0 = .ok (.aload_n 0, 1) := by decide +kernel
theorem dX11_armigerShare_1 : decode cX11_armigerShare 1 = .ok (.getfield 45, 3) := by decide +kernel
theorem dX11_armigerShare_4 : decode cX11_armigerShare 4 = .ok (.invokevirtual 446, 3) := by decide +kernel
theorem dX11_armigerShare_7 : decode cX11_armigerShare 7 = .ok (.istore_n 1, 1) := by decide +kernel
theorem dX11_armigerShare_8 : decode cX11_armigerShare 8 = .ok (.iload_n 1, 1) := by decide +kernel
theorem dX11_armigerShare_9 : decode cX11_armigerShare 9 = .ok (.ifCond .ne 14, 3) := by decide +kernel
theorem dX11_armigerShare_12 : decode cX11_armigerShare 12 = .ok (.new 449, 3) := by decide +kernel
theorem dX11_armigerShare_15 : decode cX11_armigerShare 15 = .ok (.dup, 1) := by decide +kernel
theorem dX11_armigerShare_16 : decode cX11_armigerShare 16 = .ok (.ldc_w 451, 3) := by decide +kernel
theorem dX11_armigerShare_19 : decode cX11_armigerShare 19 = .ok (.invokespecial 453, 3) := by decide +kernel
theorem dX11_armigerShare_22 : decode cX11_armigerShare 22 = .ok (.athrow, 1) := by decide +kernel
theorem dX11_arms_0 : decode cX11_arms 0 = .ok (.aload_n 0, 1) := by decide +kernel
theorem dX11_arms_1 : decode cX11_arms 1 = .ok (.getfield 52, 3) := by decide +kernel
theorem dX11_arms_4 : decode cX11_arms 4 = .ok (.getfield 441, 3) := by decide +kernel
theorem dX11_arms_7 : decode cX11_arms 7 = .ok (.ireturn, 1) := by decide +kernel
theorem dX11_assume_0 : decode cX11_assume 0 = .ok (.aload_n 0, 1) := by decide +kernel
theorem dX11_assume_1 : decode cX11_assume 1 = .ok (.iload_n 1, 1) := by decide +kernel
theorem dX11_assume_2 : decode cX11_assume 2 = .ok (.invokevirtual 212, 3) := by decide +kernel
theorem dX11_augment_0 : decode cX11_augment 0 = .ok (.aload_n 0, 1) := by decide +kernel
theorem dX11_augment_1 : decode cX11_augment 1 = .ok (.iload_n 1, 1) := by decide +kernel
theorem dX11_augment_2 : decode cX11_augment 2 = .ok (.invokevirtual 290, 3) := by decide +kernel
theorem dX11_bearers_0 : decode cX11_bearers 0 = .ok (.aload_n 0, 1) := by decide +kernel
theorem dX11_bearers_1 : decode cX11_bearers 1 = .ok (.iload_n 1, 1) := by decide +kernel
theorem dX11_bearers_2 : decode cX11_bearers 2 = .ok (.invokevirtual 290, 3) := by decide +kernel
theorem dX11_birth_0 : decode cX11_birth 0 = .ok (.iload_n 1, 1) := by decide +kernel
theorem dX11_birth_1 : decode cX11_birth 1 = .ok (.iconst (-1), 1) := by decide +kernel
theorem dX11_birth_2 : decode cX11_birth 2 = .ok (.if_icmp .eq 8, 3) := by decide +kernel
theorem dX11_birth_5 : decode cX11_birth 5 = .ok (.aload_n 0, 1) := by decide +kernel
theorem dX11_birth_6 : decode cX11_birth 6 = .ok (.iload_n 1, 1) := by decide +kernel
theorem dX11_birth_7 : decode cX11_birth 7 = .ok (.invokevirtual 212, 3) := by decide +kernel
theorem dX11_birth_10 : decode cX11_birth 10 = .ok (.iload_n 2, 1) := by decide +kernel
theorem dX11_birth_11 : decode cX11_birth 11 = .ok (.iconst (-1), 1) := by decide +kernel
theorem dX11_birth_12 : decode cX11_birth 12 = .ok (.if_icmp .eq 8, 3) := by decide +kernel
theorem dX11_birth_15 : decode cX11_birth 15 = .ok (.aload_n 0, 1) := by decide +kernel
theorem dX11_birth_16 : decode cX11_birth 16 = .ok (.iload_n 2, 1) := by decide +kernel
theorem dX11_birth_17 : decode cX11_birth 17 = .ok (.invokevirtual 212, 3) := by decide +kernel
theorem dX11_birth_20 : decode cX11_birth 20 = .ok (.iload_n 1, 1) := by decide +kernel
theorem dX11_birth_21 : decode cX11_birth 21 = .ok (.iconst (-1), 1) := by decide +kernel
theorem dX11_birth_22 : decode cX11_birth 22 = .ok (.if_icmp .eq 14, 3) := by decide +kernel
theorem dX11_birth_36 : decode cX11_birth 36 = .ok (.iload_n 2, 1) := by decide +kernel
theorem dX11_birth_37 : decode cX11_birth 37 = .ok (.iconst (-1), 1) := by decide +kernel
theorem dX11_birth_38 : decode cX11_birth 38 = .ok (.if_icmp .eq 24, 3) := by decide +kernel
theorem dX11_birth_62 : decode cX11_birth 62 = .ok (.aload_n 0, 1) := by decide +kernel
theorem dX11_birth_63 : decode cX11_birth 63 = .ok (.getfield 45, 3) := by decide +kernel
theorem dX11_birth_66 : decode cX11_birth 66 = .ok (.getfield 224, 3) := by decide +kernel
theorem dX11_birth_69 : decode cX11_birth 69 = .ok (.bipush 40, 2) := by decide +kernel
theorem dX11_birth_71 : decode cX11_birth 71 = .ok (.if_icmp .lt 13, 3) := by decide +kernel
theorem dX11_birth_84 : decode cX11_birth 84 = .ok (.aload_n 0, 1) := by decide +kernel
theorem dX11_birth_85 : decode cX11_birth 85 = .ok (.getfield 45, 3) := by decide +kernel
theorem dX11_birth_88 : decode cX11_birth 88 = .ok (.iload_n 1, 1) := by decide +kernel
theorem dX11_birth_89 : decode cX11_birth 89 = .ok (.iload_n 2, 1) := by decide +kernel
theorem dX11_birth_90 : decode cX11_birth 90 = .ok (.iload_n 3, 1) := by decide +kernel
theorem dX11_birth_91 : decode cX11_birth 91 = .ok (.invokevirtual 227, 3) := by decide +kernel
theorem dX11_birth_94 : decode cX11_birth 94 = .ok (.istore 4, 2) := by decide +kernel
theorem dX11_birth_96 : decode cX11_birth 96 = .ok (.aload_n 0, 1) := by decide +kernel
theorem dX11_birth_97 : decode cX11_birth 97 = .ok (.invokevirtual 230, 3) := by decide +kernel
theorem dX11_birth_100 : decode cX11_birth 100 = .ok (.iload 4, 2) := by decide +kernel
theorem dX11_birth_102 : decode cX11_birth 102 = .ok (.ireturn, 1) := by decide +kernel
theorem dX11_borne_0 : decode cX11_borne 0 = .ok (.aload_n 0, 1) := by decide +kernel
theorem dX11_borne_1 : decode cX11_borne 1 = .ok (.iload_n 1, 1) := by decide +kernel
theorem dX11_borne_2 : decode cX11_borne 2 = .ok (.invokevirtual 212, 3) := by decide +kernel
theorem dX11_breaks_0 : decode cX11_breaks 0 = .ok (.aload_n 0, 1) := by decide +kernel
theorem dX11_breaks_1 : decode cX11_breaks 1 = .ok (.invokevirtual 128, 3) := by decide +kernel
theorem dX11_call_0 : decode cX11_call 0 = .ok (.aload_n 0, 1) := by decide +kernel
theorem dX11_call_1 : decode cX11_call 1 = .ok (.iload_n 1, 1) := by decide +kernel
theorem dX11_call_2 : decode cX11_call 2 = .ok (.invokevirtual 290, 3) := by decide +kernel
theorem dX11_cameBy_0 : decode cX11_cameBy 0 = .ok (.aload_n 0, 1) := by decide +kernel
theorem dX11_cameBy_1 : decode cX11_cameBy 1 = .ok (.iload_n 1, 1) := by decide +kernel
theorem dX11_cameBy_2 : decode cX11_cameBy 2 = .ok (.invokevirtual 290, 3) := by decide +kernel
theorem dX11_conflicts_0 : decode cX11_conflicts 0 = .ok (.aload_n 0, 1) := by decide +kernel
theorem dX11_conflicts_1 : decode cX11_conflicts 1 = .ok (.iload_n 1, 1) := by decide +kernel
theorem dX11_conflicts_2 : decode cX11_conflicts 2 = .ok (.invokevirtual 212, 3) := by decide +kernel
theorem dX11_crest_0 : decode cX11_crest 0 = .ok (.aload_n 0, 1) := by decide +kernel
theorem dX11_crest_1 : decode cX11_crest 1 = .ok (.iload_n 1, 1) := by decide +kernel
theorem dX11_crest_2 : decode cX11_crest 2 = .ok (.invokevirtual 212, 3) := by decide +kernel
theorem dX11_death_0 : decode cX11_death 0 = .ok (.aload_n 0, 1) := by decide +kernel
theorem dX11_death_1 : decode cX11_death 1 = .ok (.iload_n 1, 1) := by decide +kernel
theorem dX11_death_2 : decode cX11_death 2 = .ok (.invokevirtual 212, 3) := by decide +kernel
theorem dX11_difference_0 : decode cX11_difference 0 = .ok (.aload_n 0, 1) := by decide +kernel
theorem dX11_difference_1 : decode cX11_difference 1 = .ok (.iload_n 1, 1) := by decide +kernel
theorem dX11_difference_2 : decode cX11_difference 2 = .ok (.invokevirtual 212, 3) := by decide +kernel
theorem dX11_differences_0 : decode cX11_differences 0 = .ok (.aload_n 0, 1) := by decide +kernel
theorem dX11_differences_1 : decode cX11_differences 1 = .ok (.iload_n 1, 1) := by decide +kernel
theorem dX11_differences_2 : decode cX11_differences 2 = .ok (.invokevirtual 212, 3) := by decide +kernel
theorem dX11_disclaimed_0 : decode cX11_disclaimed 0 = .ok (.aload_n 0, 1) := by decide +kernel
theorem dX11_disclaimed_1 : decode cX11_disclaimed 1 = .ok (.getfield 88, 3) := by decide +kernel
theorem dX11_disclaimed_4 : decode cX11_disclaimed 4 = .ok (.getfield 363, 3) := by decide +kernel
theorem dX11_disclaimed_7 : decode cX11_disclaimed 7 = .ok (.ireturn, 1) := by decide +kernel
theorem dX11_distance_0 : decode cX11_distance 0 = .ok (.aload_n 0, 1) := by decide +kernel
theorem dX11_distance_1 : decode cX11_distance 1 = .ok (.iload_n 1, 1) := by decide +kernel
theorem dX11_distance_2 : decode cX11_distance 2 = .ok (.invokevirtual 290, 3) := by decide +kernel
theorem dX11_drawn_0 : decode cX11_drawn 0 = .ok (.aload_n 0, 1) := by decide +kernel
theorem dX11_drawn_1 : decode cX11_drawn 1 = .ok (.invokevirtual 128, 3) := by decide +kernel
theorem dX11_emptyRow_0 : decode cX11_emptyRow 0 = .ok (.aload_n 0, 1) := by decide +kernel
theorem dX11_emptyRow_1 : decode cX11_emptyRow 1 = .ok (.getfield 19, 3) := by decide +kernel
theorem dX11_emptyRow_4 : decode cX11_emptyRow 4 = .ok (.invokevirtual 482, 3) := by decide +kernel
theorem dX11_emptyRow_7 : decode cX11_emptyRow 7 = .ok (.aload_n 0, 1) := by decide +kernel
theorem dX11_emptyRow_8 : decode cX11_emptyRow 8 = .ok (.getfield 19, 3) := by decide +kernel
theorem dX11_emptyRow_11 : decode cX11_emptyRow 11 = .ok (.invokevirtual 92, 3) := by decide +kernel
theorem dX11_emptyRow_14 : decode cX11_emptyRow 14 = .ok (.aload_n 0, 1) := by decide +kernel
theorem dX11_emptyRow_15 : decode cX11_emptyRow 15 = .ok (.invokevirtual 115, 3) := by decide +kernel
theorem dX11_emptyRow_18 : decode cX11_emptyRow 18 = .ok (.return_, 1) := by decide +kernel
theorem dX11_erase_0 : decode cX11_erase 0 = .ok (.aload_n 0, 1) := by decide +kernel
theorem dX11_erase_1 : decode cX11_erase 1 = .ok (.getfield 19, 3) := by decide +kernel
theorem dX11_erase_4 : decode cX11_erase 4 = .ok (.getfield 102, 3) := by decide +kernel
theorem dX11_erase_7 : decode cX11_erase 7 = .ok (.istore_n 1, 1) := by decide +kernel
theorem dX11_erase_8 : decode cX11_erase 8 = .ok (.aload_n 0, 1) := by decide +kernel
theorem dX11_erase_9 : decode cX11_erase 9 = .ok (.invokevirtual 118, 3) := by decide +kernel
theorem dX11_erase_12 : decode cX11_erase 12 = .ok (.iload_n 1, 1) := by decide +kernel
theorem dX11_erase_13 : decode cX11_erase 13 = .ok (.ireturn, 1) := by decide +kernel
theorem dX11_fewest_0 : decode cX11_fewest 0 = .ok (.aload_n 0, 1) := by decide +kernel
theorem dX11_fewest_1 : decode cX11_fewest 1 = .ok (.invokevirtual 128, 3) := by decide +kernel
theorem dX11_fewestAt_0 : decode cX11_fewestAt 0 = .ok (.aload_n 0, 1) := by decide +kernel
theorem dX11_fewestAt_1 : decode cX11_fewestAt 1 = .ok (.invokevirtual 128, 3) := by decide +kernel
theorem dX11_forgetRow_0 : decode cX11_forgetRow 0 = .ok (.aload_n 0, 1) := by decide +kernel
theorem dX11_forgetRow_1 : decode cX11_forgetRow 1 = .ok (.iconst 0, 1) := by decide +kernel
theorem dX11_forgetRow_2 : decode cX11_forgetRow 2 = .ok (.putfield 475, 3) := by decide +kernel
theorem dX11_forgetRow_5 : decode cX11_forgetRow 5 = .ok (.aload_n 0, 1) := by decide +kernel
theorem dX11_forgetRow_6 : decode cX11_forgetRow 6 = .ok (.iconst 0, 1) := by decide +kernel
theorem dX11_forgetRow_7 : decode cX11_forgetRow 7 = .ok (.putfield 479, 3) := by decide +kernel
theorem dX11_forgetRow_10 : decode cX11_forgetRow 10 = .ok (.return_, 1) := by decide +kernel
theorem dX11_grant_0 : decode cX11_grant 0 = .ok (.aload_n 0, 1) := by decide +kernel
theorem dX11_grant_1 : decode cX11_grant 1 = .ok (.iload_n 1, 1) := by decide +kernel
theorem dX11_grant_2 : decode cX11_grant 2 = .ok (.invokevirtual 212, 3) := by decide +kernel
theorem dX11_init_0 : decode cX11_init 0 = .ok (.aload_n 0, 1) := by decide +kernel
theorem dX11_init_1 : decode cX11_init 1 = .ok (.invokespecial 1, 3) := by decide +kernel
theorem dX11_init_4 : decode cX11_init 4 = .ok (.aload_n 0, 1) := by decide +kernel
theorem dX11_init_5 : decode cX11_init 5 = .ok (.new 7, 3) := by decide +kernel
theorem dX11_init_8 : decode cX11_init 8 = .ok (.dup, 1) := by decide +kernel
theorem dX11_init_9 : decode cX11_init 9 = .ok (.invokespecial 9, 3) := by decide +kernel
theorem dX11_init_12 : decode cX11_init 12 = .ok (.putfield 10, 3) := by decide +kernel
theorem dX11_init_15 : decode cX11_init 15 = .ok (.aload_n 0, 1) := by decide +kernel
theorem dX11_init_16 : decode cX11_init 16 = .ok (.new 16, 3) := by decide +kernel
theorem dX11_init_19 : decode cX11_init 19 = .ok (.dup, 1) := by decide +kernel
theorem dX11_init_20 : decode cX11_init 20 = .ok (.invokespecial 18, 3) := by decide +kernel
theorem dX11_init_23 : decode cX11_init 23 = .ok (.putfield 19, 3) := by decide +kernel
theorem dX11_init_26 : decode cX11_init 26 = .ok (.aload_n 0, 1) := by decide +kernel
theorem dX11_init_27 : decode cX11_init 27 = .ok (.new 23, 3) := by decide +kernel
theorem dX11_init_30 : decode cX11_init 30 = .ok (.dup, 1) := by decide +kernel
theorem dX11_init_31 : decode cX11_init 31 = .ok (.invokespecial 25, 3) := by decide +kernel
theorem dX11_init_34 : decode cX11_init 34 = .ok (.putfield 26, 3) := by decide +kernel
theorem dX11_init_37 : decode cX11_init 37 = .ok (.aload_n 0, 1) := by decide +kernel
theorem dX11_init_38 : decode cX11_init 38 = .ok (.new 23, 3) := by decide +kernel
theorem dX11_init_41 : decode cX11_init 41 = .ok (.dup, 1) := by decide +kernel
theorem dX11_init_42 : decode cX11_init 42 = .ok (.invokespecial 25, 3) := by decide +kernel
theorem dX11_init_45 : decode cX11_init 45 = .ok (.putfield 30, 3) := by decide +kernel
theorem dX11_init_48 : decode cX11_init 48 = .ok (.aload_n 0, 1) := by decide +kernel
theorem dX11_init_49 : decode cX11_init 49 = .ok (.new 33, 3) := by decide +kernel
theorem dX11_init_52 : decode cX11_init 52 = .ok (.dup, 1) := by decide +kernel
theorem dX11_init_53 : decode cX11_init 53 = .ok (.aload_n 0, 1) := by decide +kernel
theorem dX11_init_54 : decode cX11_init 54 = .ok (.getfield 10, 3) := by decide +kernel
theorem dX11_init_57 : decode cX11_init 57 = .ok (.invokespecial 35, 3) := by decide +kernel
theorem dX11_init_60 : decode cX11_init 60 = .ok (.putfield 38, 3) := by decide +kernel
theorem dX11_init_63 : decode cX11_init 63 = .ok (.aload_n 0, 1) := by decide +kernel
theorem dX11_init_64 : decode cX11_init 64 = .ok (.new 42, 3) := by decide +kernel
theorem dX11_init_67 : decode cX11_init 67 = .ok (.dup, 1) := by decide +kernel
theorem dX11_init_68 : decode cX11_init 68 = .ok (.invokespecial 44, 3) := by decide +kernel
theorem dX11_init_71 : decode cX11_init 71 = .ok (.putfield 45, 3) := by decide +kernel
theorem dX11_init_74 : decode cX11_init 74 = .ok (.aload_n 0, 1) := by decide +kernel
theorem dX11_init_75 : decode cX11_init 75 = .ok (.new 49, 3) := by decide +kernel
theorem dX11_init_78 : decode cX11_init 78 = .ok (.dup, 1) := by decide +kernel
theorem dX11_init_79 : decode cX11_init 79 = .ok (.aload_n 0, 1) := by decide +kernel
theorem dX11_init_80 : decode cX11_init 80 = .ok (.getfield 10, 3) := by decide +kernel
theorem dX11_init_83 : decode cX11_init 83 = .ok (.invokespecial 51, 3) := by decide +kernel
theorem dX11_init_86 : decode cX11_init 86 = .ok (.putfield 52, 3) := by decide +kernel
theorem dX11_init_89 : decode cX11_init 89 = .ok (.aload_n 0, 1) := by decide +kernel
theorem dX11_init_90 : decode cX11_init 90 = .ok (.new 56, 3) := by decide +kernel
theorem dX11_init_93 : decode cX11_init 93 = .ok (.dup, 1) := by decide +kernel
theorem dX11_init_94 : decode cX11_init 94 = .ok (.aload_n 0, 1) := by decide +kernel
theorem dX11_init_95 : decode cX11_init 95 = .ok (.getfield 45, 3) := by decide +kernel
theorem dX11_init_98 : decode cX11_init 98 = .ok (.aload_n 0, 1) := by decide +kernel
theorem dX11_init_99 : decode cX11_init 99 = .ok (.getfield 52, 3) := by decide +kernel
theorem dX11_init_102 : decode cX11_init 102 = .ok (.invokespecial 58, 3) := by decide +kernel
theorem dX11_init_105 : decode cX11_init 105 = .ok (.putfield 61, 3) := by decide +kernel
theorem dX11_init_108 : decode cX11_init 108 = .ok (.aload_n 0, 1) := by decide +kernel
theorem dX11_init_109 : decode cX11_init 109 = .ok (.new 65, 3) := by decide +kernel
theorem dX11_init_112 : decode cX11_init 112 = .ok (.dup, 1) := by decide +kernel
theorem dX11_init_113 : decode cX11_init 113 = .ok (.aload_n 0, 1) := by decide +kernel
theorem dX11_init_114 : decode cX11_init 114 = .ok (.getfield 45, 3) := by decide +kernel
theorem dX11_init_117 : decode cX11_init 117 = .ok (.aload_n 0, 1) := by decide +kernel
theorem dX11_init_118 : decode cX11_init 118 = .ok (.getfield 61, 3) := by decide +kernel
theorem dX11_init_121 : decode cX11_init 121 = .ok (.invokespecial 67, 3) := by decide +kernel
theorem dX11_init_124 : decode cX11_init 124 = .ok (.putfield 70, 3) := by decide +kernel
theorem dX11_init_127 : decode cX11_init 127 = .ok (.aload_n 0, 1) := by decide +kernel
theorem dX11_init_128 : decode cX11_init 128 = .ok (.new 74, 3) := by decide +kernel
theorem dX11_init_131 : decode cX11_init 131 = .ok (.dup, 1) := by decide +kernel
theorem dX11_init_132 : decode cX11_init 132 = .ok (.aload_n 0, 1) := by decide +kernel
theorem dX11_init_133 : decode cX11_init 133 = .ok (.getfield 45, 3) := by decide +kernel
theorem dX11_init_136 : decode cX11_init 136 = .ok (.aload_n 0, 1) := by decide +kernel
theorem dX11_init_137 : decode cX11_init 137 = .ok (.getfield 52, 3) := by decide +kernel
theorem dX11_init_140 : decode cX11_init 140 = .ok (.aload_n 0, 1) := by decide +kernel
theorem dX11_init_141 : decode cX11_init 141 = .ok (.getfield 61, 3) := by decide +kernel
theorem dX11_init_144 : decode cX11_init 144 = .ok (.aload_n 0, 1) := by decide +kernel
theorem dX11_init_145 : decode cX11_init 145 = .ok (.getfield 70, 3) := by decide +kernel
theorem dX11_init_148 : decode cX11_init 148 = .ok (.aload_n 0, 1) := by decide +kernel
theorem dX11_init_149 : decode cX11_init 149 = .ok (.getfield 10, 3) := by decide +kernel
theorem dX11_init_152 : decode cX11_init 152 = .ok (.invokespecial 76, 3) := by decide +kernel
theorem dX11_init_155 : decode cX11_init 155 = .ok (.putfield 79, 3) := by decide +kernel
theorem dX11_init_158 : decode cX11_init 158 = .ok (.aload_n 0, 1) := by decide +kernel
theorem dX11_init_159 : decode cX11_init 159 = .ok (.new 83, 3) := by decide +kernel
theorem dX11_init_162 : decode cX11_init 162 = .ok (.dup, 1) := by decide +kernel
theorem dX11_init_163 : decode cX11_init 163 = .ok (.aload_n 0, 1) := by decide +kernel
theorem dX11_init_164 : decode cX11_init 164 = .ok (.getfield 52, 3) := by decide +kernel
theorem dX11_init_167 : decode cX11_init 167 = .ok (.aload_n 0, 1) := by decide +kernel
theorem dX11_init_168 : decode cX11_init 168 = .ok (.getfield 61, 3) := by decide +kernel
theorem dX11_init_171 : decode cX11_init 171 = .ok (.invokespecial 85, 3) := by decide +kernel
theorem dX11_init_174 : decode cX11_init 174 = .ok (.putfield 88, 3) := by decide +kernel
theorem dX11_init_177 : decode cX11_init 177 = .ok (.aload_n 0, 1) := by decide +kernel
theorem dX11_init_178 : decode cX11_init 178 = .ok (.getfield 19, 3) := by decide +kernel
theorem dX11_init_181 : decode cX11_init 181 = .ok (.invokevirtual 92, 3) := by decide +kernel
theorem dX11_init_184 : decode cX11_init 184 = .ok (.return_, 1) := by decide +kernel
theorem dX11_isExtinct_0 : decode cX11_isExtinct 0 = .ok (.aload_n 0, 1) := by decide +kernel
theorem dX11_isExtinct_1 : decode cX11_isExtinct 1 = .ok (.iload_n 1, 1) := by decide +kernel
theorem dX11_isExtinct_2 : decode cX11_isExtinct 2 = .ok (.invokevirtual 290, 3) := by decide +kernel
theorem dX11_isHeiress_0 : decode cX11_isHeiress 0 = .ok (.aload_n 0, 1) := by decide +kernel
theorem dX11_isHeiress_1 : decode cX11_isHeiress 1 = .ok (.iload_n 1, 1) := by decide +kernel
theorem dX11_isHeiress_2 : decode cX11_isHeiress 2 = .ok (.invokevirtual 212, 3) := by decide +kernel
theorem dX11_isInAbeyance_0 : decode cX11_isInAbeyance 0 = .ok (.aload_n 0, 1) := by decide +kernel
theorem dX11_isInAbeyance_1 : decode cX11_isInAbeyance 1 = .ok (.iload_n 1, 1) := by decide +kernel
theorem dX11_isInAbeyance_2 : decode cX11_isInAbeyance 2 = .ok (.invokevirtual 290, 3) := by decide +kernel
theorem dX11_isSound_0 : decode cX11_isSound 0 = .ok (.aload_n 0, 1) := by decide +kernel
theorem dX11_isSound_1 : decode cX11_isSound 1 = .ok (.invokevirtual 460, 3) := by decide +kernel
theorem dX11_isSound_4 : decode cX11_isSound 4 = .ok (.ifCond .eq 34, 3) := by decide +kernel
theorem dX11_isSound_7 : decode cX11_isSound 7 = .ok (.aload_n 0, 1) := by decide +kernel
theorem dX11_isSound_8 : decode cX11_isSound 8 = .ok (.invokevirtual 464, 3) := by decide +kernel
theorem dX11_isSound_11 : decode cX11_isSound 11 = .ok (.ifCond .eq 27, 3) := by decide +kernel
theorem dX11_isSound_14 : decode cX11_isSound 14 = .ok (.aload_n 0, 1) := by decide +kernel
theorem dX11_isSound_15 : decode cX11_isSound 15 = .ok (.getfield 79, 3) := by decide +kernel
theorem dX11_isSound_18 : decode cX11_isSound 18 = .ok (.invokevirtual 467, 3) := by decide +kernel
theorem dX11_isSound_21 : decode cX11_isSound 21 = .ok (.ifCond .eq 17, 3) := by decide +kernel
theorem dX11_isSound_24 : decode cX11_isSound 24 = .ok (.aload_n 0, 1) := by decide +kernel
theorem dX11_isSound_25 : decode cX11_isSound 25 = .ok (.getfield 61, 3) := by decide +kernel
theorem dX11_isSound_28 : decode cX11_isSound 28 = .ok (.invokevirtual 470, 3) := by decide +kernel
theorem dX11_isSound_31 : decode cX11_isSound 31 = .ok (.ifCond .eq 7, 3) := by decide +kernel
theorem dX11_isSound_34 : decode cX11_isSound 34 = .ok (.iconst 1, 1) := by decide +kernel
theorem dX11_isSound_35 : decode cX11_isSound 35 = .ok (.goto 4, 3) := by decide +kernel
theorem dX11_isSound_39 : decode cX11_isSound 39 = .ok (.ireturn, 1) := by decide +kernel
theorem dX11_judged_0 : decode cX11_judged 0 = .ok (.aload_n 0, 1) := by decide +kernel
theorem dX11_judged_1 : decode cX11_judged 1 = .ok (.iload_n 1, 1) := by decide +kernel
theorem dX11_judged_2 : decode cX11_judged 2 = .ok (.invokevirtual 377, 3) := by decide +kernel
theorem dX11_lineOf_0 : decode cX11_lineOf 0 = .ok (.aload_n 0, 1) := by decide +kernel
theorem dX11_lineOf_1 : decode cX11_lineOf 1 = .ok (.iload_n 1, 1) := by decide +kernel
theorem dX11_lineOf_2 : decode cX11_lineOf 2 = .ok (.invokevirtual 212, 3) := by decide +kernel
theorem dX11_lives_0 : decode cX11_lives 0 = .ok (.aload_n 0, 1) := by decide +kernel
theorem dX11_lives_1 : decode cX11_lives 1 = .ok (.iload_n 1, 1) := by decide +kernel
theorem dX11_lives_2 : decode cX11_lives 2 = .ok (.invokevirtual 212, 3) := by decide +kernel
theorem dX11_losses_0 : decode cX11_losses 0 = .ok (.aload_n 0, 1) := by decide +kernel
theorem dX11_losses_1 : decode cX11_losses 1 = .ok (.iload_n 1, 1) := by decide +kernel
theorem dX11_losses_2 : decode cX11_losses 2 = .ok (.invokevirtual 196, 3) := by decide +kernel
theorem dX11_losses_5 : decode cX11_losses 5 = .ok (.aload_n 0, 1) := by decide +kernel
theorem dX11_losses_6 : decode cX11_losses 6 = .ok (.invokevirtual 128, 3) := by decide +kernel
theorem dX11_marry_0 : decode cX11_marry 0 = .ok (.aload_n 0, 1) := by decide +kernel
theorem dX11_marry_1 : decode cX11_marry 1 = .ok (.iload_n 1, 1) := by decide +kernel
theorem dX11_marry_2 : decode cX11_marry 2 = .ok (.invokevirtual 212, 3) := by decide +kernel
theorem dX11_meanWords_0 : decode cX11_meanWords 0 = .ok (.aload_n 0, 1) := by decide +kernel
theorem dX11_meanWords_1 : decode cX11_meanWords 1 = .ok (.getfield 52, 3) := by decide +kernel
theorem dX11_meanWords_4 : decode cX11_meanWords 4 = .ok (.getfield 441, 3) := by decide +kernel
theorem dX11_meanWords_7 : decode cX11_meanWords 7 = .ok (.ifCond .ne 14, 3) := by decide +kernel
theorem dX11_meanWords_10 : decode cX11_meanWords 10 = .ok (.new 449, 3) := by decide +kernel
theorem dX11_meanWords_13 : decode cX11_meanWords 13 = .ok (.dup, 1) := by decide +kernel
theorem dX11_meanWords_14 : decode cX11_meanWords 14 = .ok (.ldc_w 355, 3) := by decide +kernel
theorem dX11_meanWords_17 : decode cX11_meanWords 17 = .ok (.invokespecial 453, 3) := by decide +kernel
theorem dX11_meanWords_20 : decode cX11_meanWords 20 = .ok (.athrow, 1) := by decide +kernel
theorem dX11_meant_0 : decode cX11_meant 0 = .ok (.aload_n 0, 1) := by decide +kernel
theorem dX11_meant_1 : decode cX11_meant 1 = .ok (.invokevirtual 128, 3) := by decide +kernel
theorem dX11_nearest_0 : decode cX11_nearest 0 = .ok (.aload_n 0, 1) := by decide +kernel
theorem dX11_nearest_1 : decode cX11_nearest 1 = .ok (.invokevirtual 128, 3) := by decide +kernel
theorem dX11_needArms_0 : decode cX11_needArms 0 = .ok (.iload_n 1, 1) := by decide +kernel
theorem dX11_needArms_1 : decode cX11_needArms 1 = .ok (.ifCond .lt 14, 3) := by decide +kernel
theorem dX11_needArms_4 : decode cX11_needArms 4 = .ok (.iload_n 1, 1) := by decide +kernel
theorem dX11_needArms_5 : decode cX11_needArms 5 = .ok (.aload_n 0, 1) := by decide +kernel
theorem dX11_needArms_6 : decode cX11_needArms 6 = .ok (.getfield 52, 3) := by decide +kernel
theorem dX11_needArms_9 : decode cX11_needArms 9 = .ok (.getfield 441, 3) := by decide +kernel
theorem dX11_needArms_12 : decode cX11_needArms 12 = .ok (.if_icmp .lt 14, 3) := by decide +kernel
theorem dX11_needArms_15 : decode cX11_needArms 15 = .ok (.new 524, 3) := by decide +kernel
theorem dX11_needArms_18 : decode cX11_needArms 18 = .ok (.dup, 1) := by decide +kernel
theorem dX11_needArms_19 : decode cX11_needArms 19 = .ok (.ldc_w 531, 3) := by decide +kernel
theorem dX11_needArms_22 : decode cX11_needArms 22 = .ok (.invokespecial 528, 3) := by decide +kernel
theorem dX11_needArms_25 : decode cX11_needArms 25 = .ok (.athrow, 1) := by decide +kernel
theorem dX11_needBlazon_0 : decode cX11_needBlazon 0 = .ok (.aload_n 0, 1) := by decide +kernel
theorem dX11_needBlazon_1 : decode cX11_needBlazon 1 = .ok (.getfield 19, 3) := by decide +kernel
theorem dX11_needBlazon_4 : decode cX11_needBlazon 4 = .ok (.getfield 121, 3) := by decide +kernel
theorem dX11_needBlazon_7 : decode cX11_needBlazon 7 = .ok (.ifCond .lt 14, 3) := by decide +kernel
theorem dX11_needBlazon_10 : decode cX11_needBlazon 10 = .ok (.new 219, 3) := by decide +kernel
theorem dX11_needBlazon_13 : decode cX11_needBlazon 13 = .ok (.dup, 1) := by decide +kernel
theorem dX11_needBlazon_14 : decode cX11_needBlazon 14 = .ok (.ldc_w 546, 3) := by decide +kernel
theorem dX11_needBlazon_17 : decode cX11_needBlazon 17 = .ok (.invokespecial 223, 3) := by decide +kernel
theorem dX11_needBlazon_20 : decode cX11_needBlazon 20 = .ok (.athrow, 1) := by decide +kernel
theorem dX11_needJudgment_0 : decode cX11_needJudgment 0 = .ok (.iload_n 1, 1) := by decide +kernel
theorem dX11_needJudgment_1 : decode cX11_needJudgment 1 = .ok (.ifCond .lt 14, 3) := by decide +kernel
theorem dX11_needJudgment_4 : decode cX11_needJudgment 4 = .ok (.iload_n 1, 1) := by decide +kernel
theorem dX11_needJudgment_5 : decode cX11_needJudgment 5 = .ok (.aload_n 0, 1) := by decide +kernel
theorem dX11_needJudgment_6 : decode cX11_needJudgment 6 = .ok (.getfield 88, 3) := by decide +kernel
theorem dX11_needJudgment_9 : decode cX11_needJudgment 9 = .ok (.getfield 533, 3) := by decide +kernel
theorem dX11_needJudgment_12 : decode cX11_needJudgment 12 = .ok (.if_icmp .lt 14, 3) := by decide +kernel
theorem dX11_needJudgment_15 : decode cX11_needJudgment 15 = .ok (.new 524, 3) := by decide +kernel
theorem dX11_needJudgment_18 : decode cX11_needJudgment 18 = .ok (.dup, 1) := by decide +kernel
theorem dX11_needJudgment_19 : decode cX11_needJudgment 19 = .ok (.ldc_w 534, 3) := by decide +kernel
theorem dX11_needJudgment_22 : decode cX11_needJudgment 22 = .ok (.invokespecial 528, 3) := by decide +kernel
theorem dX11_needJudgment_25 : decode cX11_needJudgment 25 = .ok (.athrow, 1) := by decide +kernel
theorem dX11_needLand_0 : decode cX11_needLand 0 = .ok (.iload_n 1, 1) := by decide +kernel
theorem dX11_needLand_1 : decode cX11_needLand 1 = .ok (.ifCond .lt 8, 3) := by decide +kernel
theorem dX11_needLand_4 : decode cX11_needLand 4 = .ok (.iload_n 1, 1) := by decide +kernel
theorem dX11_needLand_5 : decode cX11_needLand 5 = .ok (.iconst 3, 1) := by decide +kernel
theorem dX11_needLand_6 : decode cX11_needLand 6 = .ok (.if_icmp .le 14, 3) := by decide +kernel
theorem dX11_needLand_9 : decode cX11_needLand 9 = .ok (.new 95, 3) := by decide +kernel
theorem dX11_needLand_12 : decode cX11_needLand 12 = .ok (.dup, 1) := by decide +kernel
theorem dX11_needLand_13 : decode cX11_needLand 13 = .ok (.ldc_w 536, 3) := by decide +kernel
theorem dX11_needLand_16 : decode cX11_needLand 16 = .ok (.invokespecial 99, 3) := by decide +kernel
theorem dX11_needLand_19 : decode cX11_needLand 19 = .ok (.athrow, 1) := by decide +kernel
theorem dX11_needLand_20 : decode cX11_needLand 20 = .ok (.return_, 1) := by decide +kernel
theorem dX11_needPerson_0 : decode cX11_needPerson 0 = .ok (.iload_n 1, 1) := by decide +kernel
theorem dX11_needPerson_1 : decode cX11_needPerson 1 = .ok (.ifCond .lt 14, 3) := by decide +kernel
theorem dX11_needPerson_4 : decode cX11_needPerson 4 = .ok (.iload_n 1, 1) := by decide +kernel
theorem dX11_needPerson_5 : decode cX11_needPerson 5 = .ok (.aload_n 0, 1) := by decide +kernel
theorem dX11_needPerson_6 : decode cX11_needPerson 6 = .ok (.getfield 45, 3) := by decide +kernel
theorem dX11_needPerson_9 : decode cX11_needPerson 9 = .ok (.getfield 224, 3) := by decide +kernel
theorem dX11_needPerson_12 : decode cX11_needPerson 12 = .ok (.if_icmp .lt 14, 3) := by decide +kernel
theorem dX11_needPerson_15 : decode cX11_needPerson 15 = .ok (.new 524, 3) := by decide +kernel
theorem dX11_needPerson_18 : decode cX11_needPerson 18 = .ok (.dup, 1) := by decide +kernel
theorem dX11_needPerson_19 : decode cX11_needPerson 19 = .ok (.ldc_w 529, 3) := by decide +kernel
theorem dX11_needPerson_22 : decode cX11_needPerson 22 = .ok (.invokespecial 528, 3) := by decide +kernel
theorem dX11_needPerson_25 : decode cX11_needPerson 25 = .ok (.athrow, 1) := by decide +kernel
theorem dX11_needPoint_0 : decode cX11_needPoint 0 = .ok (.iload_n 1, 1) := by decide +kernel
theorem dX11_needPoint_1 : decode cX11_needPoint 1 = .ok (.ifCond .lt 19, 3) := by decide +kernel
theorem dX11_needPoint_4 : decode cX11_needPoint 4 = .ok (.iload_n 1, 1) := by decide +kernel
theorem dX11_needPoint_5 : decode cX11_needPoint 5 = .ok (.bipush 16, 2) := by decide +kernel
theorem dX11_needPoint_7 : decode cX11_needPoint 7 = .ok (.if_icmp .ge 13, 3) := by decide +kernel
theorem dX11_needPoint_10 : decode cX11_needPoint 10 = .ok (.iload_n 2, 1) := by decide +kernel
theorem dX11_needPoint_11 : decode cX11_needPoint 11 = .ok (.ifCond .lt 9, 3) := by decide +kernel
theorem dX11_needPoint_14 : decode cX11_needPoint 14 = .ok (.iload_n 2, 1) := by decide +kernel
theorem dX11_needPoint_15 : decode cX11_needPoint 15 = .ok (.bipush 16, 2) := by decide +kernel
theorem dX11_needPoint_17 : decode cX11_needPoint 17 = .ok (.if_icmp .lt 14, 3) := by decide +kernel
theorem dX11_needPoint_20 : decode cX11_needPoint 20 = .ok (.new 524, 3) := by decide +kernel
theorem dX11_needPoint_23 : decode cX11_needPoint 23 = .ok (.dup, 1) := by decide +kernel
theorem dX11_needPoint_24 : decode cX11_needPoint 24 = .ok (.ldc_w 526, 3) := by decide +kernel
theorem dX11_needPoint_27 : decode cX11_needPoint 27 = .ok (.invokespecial 528, 3) := by decide +kernel
theorem dX11_needPoint_30 : decode cX11_needPoint 30 = .ok (.athrow, 1) := by decide +kernel
theorem dX11_needPoint_31 : decode cX11_needPoint 31 = .ok (.return_, 1) := by decide +kernel
theorem dX11_needShape_0 : decode cX11_needShape 0 = .ok (.iload_n 1, 1) := by decide +kernel
theorem dX11_needShape_1 : decode cX11_needShape 1 = .ok (.ifCond .lt 8, 3) := by decide +kernel
theorem dX11_needShape_4 : decode cX11_needShape 4 = .ok (.iload_n 1, 1) := by decide +kernel
theorem dX11_needShape_5 : decode cX11_needShape 5 = .ok (.iconst 3, 1) := by decide +kernel
theorem dX11_needShape_6 : decode cX11_needShape 6 = .ok (.if_icmp .le 14, 3) := by decide +kernel
theorem dX11_needShape_9 : decode cX11_needShape 9 = .ok (.new 95, 3) := by decide +kernel
theorem dX11_needShape_12 : decode cX11_needShape 12 = .ok (.dup, 1) := by decide +kernel
theorem dX11_needShape_13 : decode cX11_needShape 13 = .ok (.ldc_w 540, 3) := by decide +kernel
theorem dX11_needShape_16 : decode cX11_needShape 16 = .ok (.invokespecial 99, 3) := by decide +kernel
theorem dX11_needShape_19 : decode cX11_needShape 19 = .ok (.athrow, 1) := by decide +kernel
theorem dX11_needShape_20 : decode cX11_needShape 20 = .ok (.aload_n 0, 1) := by decide +kernel
theorem dX11_needShape_21 : decode cX11_needShape 21 = .ok (.iload_n 2, 1) := by decide +kernel
theorem dX11_needShape_22 : decode cX11_needShape 22 = .ok (.invokevirtual 425, 3) := by decide +kernel
theorem dX11_needShape_25 : decode cX11_needShape 25 = .ok (.return_, 1) := by decide +kernel
theorem dX11_needTincture_0 : decode cX11_needTincture 0 = .ok (.iload_n 1, 1) := by decide +kernel
theorem dX11_needTincture_1 : decode cX11_needTincture 1 = .ok (.iconst 1, 1) := by decide +kernel
theorem dX11_needTincture_2 : decode cX11_needTincture 2 = .ok (.if_icmp .lt 9, 3) := by decide +kernel
theorem dX11_needTincture_5 : decode cX11_needTincture 5 = .ok (.iload_n 1, 1) := by decide +kernel
theorem dX11_needTincture_6 : decode cX11_needTincture 6 = .ok (.bipush 8, 2) := by decide +kernel
theorem dX11_needTincture_8 : decode cX11_needTincture 8 = .ok (.if_icmp .le 14, 3) := by decide +kernel
theorem dX11_needTincture_11 : decode cX11_needTincture 11 = .ok (.new 95, 3) := by decide +kernel
theorem dX11_needTincture_14 : decode cX11_needTincture 14 = .ok (.dup, 1) := by decide +kernel
theorem dX11_needTincture_15 : decode cX11_needTincture 15 = .ok (.ldc_w 542, 3) := by decide +kernel
theorem dX11_needTincture_18 : decode cX11_needTincture 18 = .ok (.invokespecial 99, 3) := by decide +kernel
theorem dX11_needTincture_21 : decode cX11_needTincture 21 = .ok (.athrow, 1) := by decide +kernel
theorem dX11_needTincture_22 : decode cX11_needTincture 22 = .ok (.return_, 1) := by decide +kernel
theorem dX11_needTradition_0 : decode cX11_needTradition 0 = .ok (.iload_n 1, 1) := by decide +kernel
theorem dX11_needTradition_1 : decode cX11_needTradition 1 = .ok (.ifCond .lt 8, 3) := by decide +kernel
theorem dX11_needTradition_4 : decode cX11_needTradition 4 = .ok (.iload_n 1, 1) := by decide +kernel
theorem dX11_needTradition_5 : decode cX11_needTradition 5 = .ok (.iconst 3, 1) := by decide +kernel
theorem dX11_needTradition_6 : decode cX11_needTradition 6 = .ok (.if_icmp .le 14, 3) := by decide +kernel
theorem dX11_needTradition_9 : decode cX11_needTradition 9 = .ok (.new 95, 3) := by decide +kernel
theorem dX11_needTradition_12 : decode cX11_needTradition 12 = .ok (.dup, 1) := by decide +kernel
theorem dX11_needTradition_13 : decode cX11_needTradition 13 = .ok (.ldc_w 538, 3) := by decide +kernel
theorem dX11_needTradition_16 : decode cX11_needTradition 16 = .ok (.invokespecial 99, 3) := by decide +kernel
theorem dX11_needTradition_19 : decode cX11_needTradition 19 = .ok (.athrow, 1) := by decide +kernel
theorem dX11_needTradition_20 : decode cX11_needTradition 20 = .ok (.return_, 1) := by decide +kernel
theorem dX11_ofArms_0 : decode cX11_ofArms 0 = .ok (.aload_n 0, 1) := by decide +kernel
theorem dX11_ofArms_1 : decode cX11_ofArms 1 = .ok (.iload_n 1, 1) := by decide +kernel
theorem dX11_ofArms_2 : decode cX11_ofArms 2 = .ok (.invokevirtual 290, 3) := by decide +kernel
theorem dX11_ofShield_0 : decode cX11_ofShield 0 = .ok (.aload_n 0, 1) := by decide +kernel
theorem dX11_ofShield_1 : decode cX11_ofShield 1 = .ok (.iload_n 1, 1) := by decide +kernel
theorem dX11_ofShield_2 : decode cX11_ofShield 2 = .ok (.invokevirtual 212, 3) := by decide +kernel
theorem dX11_pass_0 : decode cX11_pass 0 = .ok (.iload_n 1, 1) := by decide +kernel
theorem dX11_pass_1 : decode cX11_pass 1 = .ok (.iconst 1, 1) := by decide +kernel
theorem dX11_pass_2 : decode cX11_pass 2 = .ok (.if_icmp .lt 9, 3) := by decide +kernel
theorem dX11_pass_5 : decode cX11_pass 5 = .ok (.iload_n 1, 1) := by decide +kernel
theorem dX11_pass_6 : decode cX11_pass 6 = .ok (.bipush 100, 2) := by decide +kernel
theorem dX11_pass_8 : decode cX11_pass 8 = .ok (.if_icmp .le 13, 3) := by decide +kernel
theorem dX11_pass_11 : decode cX11_pass 11 = .ok (.new 95, 3) := by decide +kernel
theorem dX11_pass_14 : decode cX11_pass 14 = .ok (.dup, 1) := by decide +kernel
theorem dX11_pass_15 : decode cX11_pass 15 = .ok (.ldc 205, 2) := by decide +kernel
theorem dX11_pass_17 : decode cX11_pass 17 = .ok (.invokespecial 99, 3) := by decide +kernel
theorem dX11_pass_20 : decode cX11_pass 20 = .ok (.athrow, 1) := by decide +kernel
theorem dX11_pass_21 : decode cX11_pass 21 = .ok (.aload_n 0, 1) := by decide +kernel
theorem dX11_pass_22 : decode cX11_pass 22 = .ok (.getfield 207, 3) := by decide +kernel
theorem dX11_pass_25 : decode cX11_pass 25 = .ok (.iload_n 1, 1) := by decide +kernel
theorem dX11_pass_26 : decode cX11_pass 26 = .ok (.iadd, 1) := by decide +kernel
theorem dX11_pass_27 : decode cX11_pass 27 = .ok (.sipush 5000, 3) := by decide +kernel
theorem dX11_pass_30 : decode cX11_pass 30 = .ok (.if_icmp .le 13, 3) := by decide +kernel
theorem dX11_pass_43 : decode cX11_pass 43 = .ok (.aload_n 0, 1) := by decide +kernel
theorem dX11_pass_44 : decode cX11_pass 44 = .ok (.dup, 1) := by decide +kernel
theorem dX11_pass_45 : decode cX11_pass 45 = .ok (.getfield 207, 3) := by decide +kernel
theorem dX11_pass_48 : decode cX11_pass 48 = .ok (.iload_n 1, 1) := by decide +kernel
theorem dX11_pass_49 : decode cX11_pass 49 = .ok (.iadd, 1) := by decide +kernel
theorem dX11_pass_50 : decode cX11_pass 50 = .ok (.putfield 207, 3) := by decide +kernel
theorem dX11_pass_53 : decode cX11_pass 53 = .ok (.aload_n 0, 1) := by decide +kernel
theorem dX11_pass_54 : decode cX11_pass 54 = .ok (.getfield 207, 3) := by decide +kernel
theorem dX11_pass_57 : decode cX11_pass 57 = .ok (.ireturn, 1) := by decide +kernel
theorem dX11_persons_0 : decode cX11_persons 0 = .ok (.aload_n 0, 1) := by decide +kernel
theorem dX11_persons_1 : decode cX11_persons 1 = .ok (.getfield 45, 3) := by decide +kernel
theorem dX11_persons_4 : decode cX11_persons 4 = .ok (.getfield 224, 3) := by decide +kernel
theorem dX11_persons_7 : decode cX11_persons 7 = .ok (.ireturn, 1) := by decide +kernel
theorem dX11_point_0 : decode cX11_point 0 = .ok (.aload_n 0, 1) := by decide +kernel
theorem dX11_point_1 : decode cX11_point 1 = .ok (.iload_n 1, 1) := by decide +kernel
theorem dX11_point_2 : decode cX11_point 2 = .ok (.iload_n 2, 1) := by decide +kernel
theorem dX11_point_3 : decode cX11_point 3 = .ok (.invokevirtual 124, 3) := by decide +kernel
theorem dX11_point_6 : decode cX11_point 6 = .ok (.aload_n 0, 1) := by decide +kernel
theorem dX11_point_7 : decode cX11_point 7 = .ok (.invokevirtual 128, 3) := by decide +kernel
theorem dX11_points_0 : decode cX11_points 0 = .ok (.aload_n 0, 1) := by decide +kernel
theorem dX11_points_1 : decode cX11_points 1 = .ok (.iload_n 1, 1) := by decide +kernel
theorem dX11_points_2 : decode cX11_points 2 = .ok (.iload_n 2, 1) := by decide +kernel
theorem dX11_points_3 : decode cX11_points 3 = .ok (.invokevirtual 138, 3) := by decide +kernel
theorem dX11_points_6 : decode cX11_points 6 = .ok (.aload_n 0, 1) := by decide +kernel
theorem dX11_points_7 : decode cX11_points 7 = .ok (.invokevirtual 128, 3) := by decide +kernel
theorem dX11_precedent_0 : decode cX11_precedent 0 = .ok (.aload_n 0, 1) := by decide +kernel
theorem dX11_precedent_1 : decode cX11_precedent 1 = .ok (.iload_n 1, 1) := by decide +kernel
theorem dX11_precedent_2 : decode cX11_precedent 2 = .ok (.invokevirtual 266, 3) := by decide +kernel
theorem dX11_precedent_5 : decode cX11_precedent 5 = .ok (.iload_n 2, 1) := by decide +kernel
theorem dX11_precedent_6 : decode cX11_precedent 6 = .ok (.ifCond .lt 8, 3) := by decide +kernel
theorem dX11_precedent_9 : decode cX11_precedent 9 = .ok (.iload_n 2, 1) := by decide +kernel
theorem dX11_precedent_10 : decode cX11_precedent 10 = .ok (.iconst 2, 1) := by decide +kernel
theorem dX11_precedent_11 : decode cX11_precedent 11 = .ok (.if_icmp .le 14, 3) := by decide +kernel
theorem dX11_precedent_14 : decode cX11_precedent 14 = .ok (.new 95, 3) := by decide +kernel
theorem dX11_precedent_17 : decode cX11_precedent 17 = .ok (.dup, 1) := by decide +kernel
theorem dX11_precedent_18 : decode cX11_precedent 18 = .ok (.ldc_w 384, 3) := by decide +kernel
theorem dX11_precedent_21 : decode cX11_precedent 21 = .ok (.invokespecial 99, 3) := by decide +kernel
theorem dX11_precedent_24 : decode cX11_precedent 24 = .ok (.athrow, 1) := by decide +kernel
theorem dX11_precedent_25 : decode cX11_precedent 25 = .ok (.aload_n 0, 1) := by decide +kernel
theorem dX11_precedent_26 : decode cX11_precedent 26 = .ok (.getfield 88, 3) := by decide +kernel
theorem dX11_precedent_29 : decode cX11_precedent 29 = .ok (.iload_n 1, 1) := by decide +kernel
theorem dX11_precedent_30 : decode cX11_precedent 30 = .ok (.iload_n 2, 1) := by decide +kernel
theorem dX11_precedent_31 : decode cX11_precedent 31 = .ok (.invokevirtual 386, 3) := by decide +kernel
theorem dX11_precedent_34 : decode cX11_precedent 34 = .ok (.istore_n 3, 1) := by decide +kernel
theorem dX11_precedent_35 : decode cX11_precedent 35 = .ok (.iload_n 3, 1) := by decide +kernel
theorem dX11_precedent_36 : decode cX11_precedent 36 = .ok (.ifCond .ge 14, 3) := by decide +kernel
theorem dX11_precedent_39 : decode cX11_precedent 39 = .ok (.new 156, 3) := by decide +kernel
theorem dX11_precedent_42 : decode cX11_precedent 42 = .ok (.dup, 1) := by decide +kernel
theorem dX11_precedent_43 : decode cX11_precedent 43 = .ok (.ldc_w 389, 3) := by decide +kernel
theorem dX11_precedent_46 : decode cX11_precedent 46 = .ok (.invokespecial 160, 3) := by decide +kernel
theorem dX11_precedent_49 : decode cX11_precedent 49 = .ok (.athrow, 1) := by decide +kernel
theorem dX11_quarter_0 : decode cX11_quarter 0 = .ok (.aload_n 0, 1) := by decide +kernel
theorem dX11_quarter_1 : decode cX11_quarter 1 = .ok (.iload_n 1, 1) := by decide +kernel
theorem dX11_quarter_2 : decode cX11_quarter 2 = .ok (.invokevirtual 212, 3) := by decide +kernel
theorem dX11_quarterBy_0 : decode cX11_quarterBy 0 = .ok (.aload_n 0, 1) := by decide +kernel
theorem dX11_quarterBy_1 : decode cX11_quarterBy 1 = .ok (.iload_n 1, 1) := by decide +kernel
theorem dX11_quarterBy_2 : decode cX11_quarterBy 2 = .ok (.invokevirtual 212, 3) := by decide +kernel
theorem dX11_quarters_0 : decode cX11_quarters 0 = .ok (.aload_n 0, 1) := by decide +kernel
theorem dX11_quarters_1 : decode cX11_quarters 1 = .ok (.iload_n 1, 1) := by decide +kernel
theorem dX11_quarters_2 : decode cX11_quarters 2 = .ok (.invokevirtual 212, 3) := by decide +kernel
theorem dX11_setCrest_0 : decode cX11_setCrest 0 = .ok (.aload_n 0, 1) := by decide +kernel
theorem dX11_setCrest_1 : decode cX11_setCrest 1 = .ok (.iload_n 1, 1) := by decide +kernel
theorem dX11_setCrest_2 : decode cX11_setCrest 2 = .ok (.invokevirtual 212, 3) := by decide +kernel
theorem dX11_setRank_0 : decode cX11_setRank 0 = .ok (.aload_n 0, 1) := by decide +kernel
theorem dX11_setRank_1 : decode cX11_setRank 1 = .ok (.iload_n 1, 1) := by decide +kernel
theorem dX11_setRank_2 : decode cX11_setRank 2 = .ok (.invokevirtual 212, 3) := by decide +kernel
theorem dX11_setSupporters_0 : decode cX11_setSupporters 0 = .ok (.aload_n 0, 1) := by decide +kernel
theorem dX11_setSupporters_1 : decode cX11_setSupporters 1 = .ok (.iload_n 1, 1) := by decide +kernel
theorem dX11_setSupporters_2 : decode cX11_setSupporters 2 = .ok (.invokevirtual 212, 3) := by decide +kernel
theorem dX11_settle_0 : decode cX11_settle 0 = .ok (.aload_n 0, 1) := by decide +kernel
theorem dX11_settle_1 : decode cX11_settle 1 = .ok (.getfield 61, 3) := by decide +kernel
theorem dX11_settle_4 : decode cX11_settle 4 = .ok (.invokevirtual 473, 3) := by decide +kernel
theorem dX11_settle_7 : decode cX11_settle 7 = .ok (.aload_n 0, 1) := by decide +kernel
theorem dX11_settle_8 : decode cX11_settle 8 = .ok (.getfield 79, 3) := by decide +kernel
theorem dX11_settle_11 : decode cX11_settle 11 = .ok (.invokevirtual 474, 3) := by decide +kernel
theorem dX11_settle_14 : decode cX11_settle 14 = .ok (.return_, 1) := by decide +kernel
theorem dX11_shield_0 : decode cX11_shield 0 = .ok (.aload_n 0, 1) := by decide +kernel
theorem dX11_shield_1 : decode cX11_shield 1 = .ok (.iload_n 1, 1) := by decide +kernel
theorem dX11_shield_2 : decode cX11_shield 2 = .ok (.invokevirtual 212, 3) := by decide +kernel
theorem dX11_spouse_0 : decode cX11_spouse 0 = .ok (.aload_n 0, 1) := by decide +kernel
theorem dX11_spouse_1 : decode cX11_spouse 1 = .ok (.iload_n 1, 1) := by decide +kernel
theorem dX11_spouse_2 : decode cX11_spouse 2 = .ok (.invokevirtual 212, 3) := by decide +kernel
theorem dX11_stands_0 : decode cX11_stands 0 = .ok (.aload_n 0, 1) := by decide +kernel
theorem dX11_stands_1 : decode cX11_stands 1 = .ok (.iload_n 1, 1) := by decide +kernel
theorem dX11_stands_2 : decode cX11_stands 2 = .ok (.invokevirtual 377, 3) := by decide +kernel
theorem dX11_sue_0 : decode cX11_sue 0 = .ok (.aload_n 0, 1) := by decide +kernel
theorem dX11_sue_1 : decode cX11_sue 1 = .ok (.iload_n 1, 1) := by decide +kernel
theorem dX11_sue_2 : decode cX11_sue 2 = .ok (.invokevirtual 212, 3) := by decide +kernel
theorem dX11_supporter_0 : decode cX11_supporter 0 = .ok (.aload_n 0, 1) := by decide +kernel
theorem dX11_supporter_1 : decode cX11_supporter 1 = .ok (.iload_n 1, 1) := by decide +kernel
theorem dX11_supporter_2 : decode cX11_supporter 2 = .ok (.invokevirtual 212, 3) := by decide +kernel
theorem dX11_translated_0 : decode cX11_translated 0 = .ok (.aload_n 0, 1) := by decide +kernel
theorem dX11_translated_1 : decode cX11_translated 1 = .ok (.iload_n 1, 1) := by decide +kernel
theorem dX11_translated_2 : decode cX11_translated 2 = .ok (.invokevirtual 196, 3) := by decide +kernel
theorem dX11_translated_5 : decode cX11_translated 5 = .ok (.aload_n 0, 1) := by decide +kernel
theorem dX11_translated_6 : decode cX11_translated 6 = .ok (.invokevirtual 128, 3) := by decide +kernel
theorem dX11_type_0 : decode cX11_type 0 = .ok (.iload_n 1, 1) := by decide +kernel
theorem dX11_type_1 : decode cX11_type 1 = .ok (.ifCond .lt 9, 3) := by decide +kernel
theorem dX11_type_4 : decode cX11_type 4 = .ok (.iload_n 1, 1) := by decide +kernel
theorem dX11_type_5 : decode cX11_type 5 = .ok (.bipush 99, 2) := by decide +kernel
theorem dX11_type_7 : decode cX11_type 7 = .ok (.if_icmp .le 13, 3) := by decide +kernel
theorem dX11_type_10 : decode cX11_type 10 = .ok (.new 95, 3) := by decide +kernel
theorem dX11_type_13 : decode cX11_type 13 = .ok (.dup, 1) := by decide +kernel
theorem dX11_type_14 : decode cX11_type 14 = .ok (.ldc 97, 2) := by decide +kernel
theorem dX11_type_16 : decode cX11_type 16 = .ok (.invokespecial 99, 3) := by decide +kernel
theorem dX11_type_19 : decode cX11_type 19 = .ok (.athrow, 1) := by decide +kernel
theorem dX11_type_20 : decode cX11_type 20 = .ok (.aload_n 0, 1) := by decide +kernel
theorem dX11_type_21 : decode cX11_type 21 = .ok (.getfield 19, 3) := by decide +kernel
theorem dX11_type_24 : decode cX11_type 24 = .ok (.getfield 102, 3) := by decide +kernel
theorem dX11_type_27 : decode cX11_type 27 = .ok (.bipush 24, 2) := by decide +kernel
theorem dX11_type_29 : decode cX11_type 29 = .ok (.if_icmp .lt 13, 3) := by decide +kernel
theorem dX11_type_42 : decode cX11_type 42 = .ok (.aload_n 0, 1) := by decide +kernel
theorem dX11_type_43 : decode cX11_type 43 = .ok (.getfield 19, 3) := by decide +kernel
theorem dX11_type_46 : decode cX11_type 46 = .ok (.iload_n 1, 1) := by decide +kernel
theorem dX11_type_47 : decode cX11_type 47 = .ok (.invokevirtual 111, 3) := by decide +kernel
theorem dX11_type_50 : decode cX11_type 50 = .ok (.aload_n 0, 1) := by decide +kernel
theorem dX11_type_51 : decode cX11_type 51 = .ok (.getfield 19, 3) := by decide +kernel
theorem dX11_type_54 : decode cX11_type 54 = .ok (.invokevirtual 92, 3) := by decide +kernel
theorem dX11_type_57 : decode cX11_type 57 = .ok (.aload_n 0, 1) := by decide +kernel
theorem dX11_type_58 : decode cX11_type 58 = .ok (.invokevirtual 115, 3) := by decide +kernel
theorem dX11_type_61 : decode cX11_type 61 = .ok (.aload_n 0, 1) := by decide +kernel
theorem dX11_type_62 : decode cX11_type 62 = .ok (.getfield 19, 3) := by decide +kernel
theorem dX11_type_65 : decode cX11_type 65 = .ok (.getfield 102, 3) := by decide +kernel
theorem dX11_type_68 : decode cX11_type 68 = .ok (.ireturn, 1) := by decide +kernel
theorem dX11_visit_0 : decode cX11_visit 0 = .ok (.aload_n 0, 1) := by decide +kernel
theorem dX11_visit_1 : decode cX11_visit 1 = .ok (.iload_n 1, 1) := by decide +kernel
theorem dX11_visit_2 : decode cX11_visit 2 = .ok (.invokevirtual 266, 3) := by decide +kernel
theorem dX11_visit_5 : decode cX11_visit 5 = .ok (.aload_n 0, 1) := by decide +kernel
theorem dX11_visit_6 : decode cX11_visit 6 = .ok (.getfield 88, 3) := by decide +kernel
theorem dX11_visit_9 : decode cX11_visit 9 = .ok (.iload_n 1, 1) := by decide +kernel
theorem dX11_visit_10 : decode cX11_visit 10 = .ok (.aload_n 0, 1) := by decide +kernel
theorem dX11_visit_11 : decode cX11_visit 11 = .ok (.getfield 207, 3) := by decide +kernel
theorem dX11_visit_14 : decode cX11_visit 14 = .ok (.invokevirtual 360, 3) := by decide +kernel
theorem dX11_visit_17 : decode cX11_visit 17 = .ok (.istore_n 2, 1) := by decide +kernel
theorem dX11_visit_18 : decode cX11_visit 18 = .ok (.aload_n 0, 1) := by decide +kernel
theorem dX11_visit_19 : decode cX11_visit 19 = .ok (.invokevirtual 230, 3) := by decide +kernel
theorem dX11_visit_22 : decode cX11_visit 22 = .ok (.iload_n 2, 1) := by decide +kernel
theorem dX11_visit_23 : decode cX11_visit 23 = .ok (.ireturn, 1) := by decide +kernel
theorem dX11_withWord_0 : decode cX11_withWord 0 = .ok (.aload_n 0, 1) := by decide +kernel
theorem dX11_withWord_1 : decode cX11_withWord 1 = .ok (.getfield 52, 3) := by decide +kernel
theorem dX11_withWord_4 : decode cX11_withWord 4 = .ok (.iload_n 1, 1) := by decide +kernel
theorem dX11_withWord_5 : decode cX11_withWord 5 = .ok (.invokevirtual 357, 3) := by decide +kernel
theorem dX11_withWord_8 : decode cX11_withWord 8 = .ok (.ireturn, 1) := by decide +kernel
theorem dX11_wrongAt_0 : decode cX11_wrongAt 0 = .ok (.aload_n 0, 1) := by decide +kernel
theorem dX11_wrongAt_1 : decode cX11_wrongAt 1 = .ok (.getfield 19, 3) := by decide +kernel
theorem dX11_wrongAt_4 : decode cX11_wrongAt 4 = .ok (.getfield 121, 3) := by decide +kernel
theorem dX11_wrongAt_7 : decode cX11_wrongAt 7 = .ok (.ireturn, 1) := by decide +kernel
theorem dX11_year_0 : decode cX11_year 0 = .ok (.aload_n 0, 1) := by decide +kernel
theorem dX11_year_1 : decode cX11_year 1 = .ok (.getfield 207, 3) := by decide +kernel
theorem dX11_year_4 : decode cX11_year 4 = .ok (.ireturn, 1) := by decide +kernel
theorem dX11_yearOf_0 : decode cX11_yearOf 0 = .ok (.aload_n 0, 1) := by decide +kernel
theorem dX11_yearOf_1 : decode cX11_yearOf 1 = .ok (.iload_n 1, 1) := by decide +kernel
theorem dX11_yearOf_2 : decode cX11_yearOf 2 = .ok (.invokevirtual 290, 3) := by decide +kernel
theorem dX14_init_0 : decode cX14_init 0 = .ok (.aload_n 0, 1) := by decide +kernel
theorem dX14_init_1 : decode cX14_init 1 = .ok (.invokespecial 1, 3) := by decide +kernel
theorem dX14_init_4 : decode cX14_init 4 = .ok (.aload_n 0, 1) := by decide +kernel
theorem dX14_init_5 : decode cX14_init 5 = .ok (.bipush 48, 2) := by decide +kernel
theorem dX14_init_7 : decode cX14_init 7 = .ok (.anewarray 7, 3) := by decide +kernel
theorem dX14_init_10 : decode cX14_init 10 = .ok (.putfield 9, 3) := by decide +kernel
theorem dX14_init_13 : decode cX14_init 13 = .ok (.return_, 1) := by decide +kernel
theorem dX17_init_0 : decode cX17_init 0 = .ok (.aload_n 0, 1) := by decide +kernel
theorem dX17_init_1 : decode cX17_init 1 = .ok (.invokespecial 1, 3) := by decide +kernel
theorem dX17_init_4 : decode cX17_init 4 = .ok (.aload_n 0, 1) := by decide +kernel
theorem dX17_init_5 : decode cX17_init 5 = .ok (.iconst 1, 1) := by decide +kernel
theorem dX17_init_6 : decode cX17_init 6 = .ok (.putfield 7, 3) := by decide +kernel
theorem dX17_init_9 : decode cX17_init 9 = .ok (.aload_n 0, 1) := by decide +kernel
theorem dX17_init_10 : decode cX17_init 10 = .ok (.iconst (-1), 1) := by decide +kernel
theorem dX17_init_11 : decode cX17_init 11 = .ok (.putfield 13, 3) := by decide +kernel
theorem dX17_init_14 : decode cX17_init 14 = .ok (.aload_n 0, 1) := by decide +kernel
theorem dX17_init_15 : decode cX17_init 15 = .ok (.iload_n 1, 1) := by decide +kernel
theorem dX17_init_16 : decode cX17_init 16 = .ok (.putfield 17, 3) := by decide +kernel
theorem dX17_init_19 : decode cX17_init 19 = .ok (.aload_n 0, 1) := by decide +kernel
theorem dX17_init_20 : decode cX17_init 20 = .ok (.iload_n 2, 1) := by decide +kernel
theorem dX17_init_21 : decode cX17_init 21 = .ok (.putfield 20, 3) := by decide +kernel
theorem dX17_init_24 : decode cX17_init 24 = .ok (.aload_n 0, 1) := by decide +kernel
theorem dX17_init_25 : decode cX17_init 25 = .ok (.iload_n 3, 1) := by decide +kernel
theorem dX17_init_26 : decode cX17_init 26 = .ok (.putfield 23, 3) := by decide +kernel
theorem dX17_init_29 : decode cX17_init 29 = .ok (.aload_n 0, 1) := by decide +kernel
theorem dX17_init_30 : decode cX17_init 30 = .ok (.iload 4, 2) := by decide +kernel
theorem dX17_init_32 : decode cX17_init 32 = .ok (.putfield 26, 3) := by decide +kernel
theorem dX17_init_35 : decode cX17_init 35 = .ok (.return_, 1) := by decide +kernel
theorem dX18_abate_0 : decode cX18_abate 0 = .ok (.aload_n 0, 1) := by decide +kernel
theorem dX18_abate_1 : decode cX18_abate 1 = .ok (.iload_n 1, 1) := by decide +kernel
theorem dX18_abate_2 : decode cX18_abate 2 = .ok (.invokevirtual 337, 3) := by decide +kernel
theorem dX18_abate_5 : decode cX18_abate 5 = .ok (.ifCond .eq 5, 3) := by decide +kernel
theorem dX18_abate_8 : decode cX18_abate 8 = .ok (.iconst 0, 1) := by decide +kernel
theorem dX18_abate_9 : decode cX18_abate 9 = .ok (.ireturn, 1) := by decide +kernel
theorem dX18_allPoints_0 : decode cX18_allPoints 0 = .ok (.aload_n 0, 1) := by decide +kernel
theorem dX18_allPoints_1 : decode cX18_allPoints 1 = .ok (.iconst 0, 1) := by decide +kernel
theorem dX18_allPoints_2 : decode cX18_allPoints 2 = .ok (.putfield 73, 3) := by decide +kernel
theorem dX18_allPoints_5 : decode cX18_allPoints 5 = .ok (.lconst 0, 1) := by decide +kernel
theorem dX18_allPoints_6 : decode cX18_allPoints 6 = .ok (.lstore_n 1, 1) := by decide +kernel
theorem dX18_allPoints_7 : decode cX18_allPoints 7 = .ok (.iconst 0, 1) := by decide +kernel
theorem dX18_allPoints_8 : decode cX18_allPoints 8 = .ok (.istore_n 3, 1) := by decide +kernel
theorem dX18_allPoints_9 : decode cX18_allPoints 9 = .ok (.iload_n 3, 1) := by decide +kernel
theorem dX18_allPoints_10 : decode cX18_allPoints 10 = .ok (.aload_n 0, 1) := by decide +kernel
theorem dX18_allPoints_11 : decode cX18_allPoints 11 = .ok (.getfield 20, 3) := by decide +kernel
theorem dX18_allPoints_14 : decode cX18_allPoints 14 = .ok (.invokevirtual 288, 3) := by decide +kernel
theorem dX18_allPoints_17 : decode cX18_allPoints 17 = .ok (.if_icmp .ge 70, 3) := by decide +kernel
theorem dX18_allPoints_87 : decode cX18_allPoints 87 = .ok (.lload_n 1, 1) := by decide +kernel
theorem dX18_allPoints_88 : decode cX18_allPoints 88 = .ok (.lreturn, 1) := by decide +kernel
theorem dX18_appeal_0 : decode cX18_appeal 0 = .ok (.aload_n 0, 1) := by decide +kernel
theorem dX18_appeal_1 : decode cX18_appeal 1 = .ok (.iload_n 1, 1) := by decide +kernel
theorem dX18_appeal_2 : decode cX18_appeal 2 = .ok (.invokevirtual 536, 3) := by decide +kernel
theorem dX18_appeal_5 : decode cX18_appeal 5 = .ok (.ifCond .eq 5, 3) := by decide +kernel
theorem dX18_appeal_8 : decode cX18_appeal 8 = .ok (.iconst 0, 1) := by decide +kernel
theorem dX18_appeal_9 : decode cX18_appeal 9 = .ok (.ireturn, 1) := by decide +kernel
theorem dX18_armigerShare_0 : decode cX18_armigerShare 0 = .ok (.iconst 0, 1) := by decide +kernel
theorem dX18_armigerShare_1 : decode cX18_armigerShare 1 = .ok (.istore_n 1, 1) := by decide +kernel
theorem dX18_armigerShare_2 : decode cX18_armigerShare 2 = .ok (.iconst 0, 1) := by decide +kernel
theorem dX18_armigerShare_3 : decode cX18_armigerShare 3 = .ok (.istore_n 2, 1) := by decide +kernel
theorem dX18_armigerShare_4 : decode cX18_armigerShare 4 = .ok (.aload_n 0, 1) := by decide +kernel
theorem dX18_armigerShare_5 : decode cX18_armigerShare 5 = .ok (.getfield 16, 3) := by decide +kernel
theorem dX18_armigerShare_8 : decode cX18_armigerShare 8 = .ok (.invokevirtual 313, 3) := by decide +kernel
theorem dX18_armigerShare_11 : decode cX18_armigerShare 11 = .ok (.astore_n 3, 1) := by decide +kernel
theorem dX18_armigerShare_12 : decode cX18_armigerShare 12 = .ok (.aload_n 3, 1) := by decide +kernel
theorem dX18_armigerShare_13 : decode cX18_armigerShare 13 = .ok (.invokeinterface 317 1, 5) := by decide +kernel
theorem dX18_armigerShare_18 : decode cX18_armigerShare 18 = .ok (.ifCond .eq 58, 3) := by decide +kernel
theorem dX18_armigerShare_76 : decode cX18_armigerShare 76 = .ok (.aload_n 0, 1) := by decide +kernel
theorem dX18_armigerShare_77 : decode cX18_armigerShare 77 = .ok (.iload_n 1, 1) := by decide +kernel
theorem dX18_armigerShare_78 : decode cX18_armigerShare 78 = .ok (.ifCond .ne 7, 3) := by decide +kernel
theorem dX18_armigerShare_81 : decode cX18_armigerShare 81 = .ok (.iconst 1, 1) := by decide +kernel
theorem dX18_armigerShare_82 : decode cX18_armigerShare 82 = .ok (.goto 4, 3) := by decide +kernel
theorem dX18_armigerShare_86 : decode cX18_armigerShare 86 = .ok (.invokevirtual 84, 3) := by decide +kernel
theorem dX18_armigerShare_89 : decode cX18_armigerShare 89 = .ok (.ifCond .eq 7, 3) := by decide +kernel
theorem dX18_armigerShare_92 : decode cX18_armigerShare 92 = .ok (.fconst 0, 1) := by decide +kernel
theorem dX18_armigerShare_93 : decode cX18_armigerShare 93 = .ok (.goto 8, 3) := by decide +kernel
theorem dX18_armigerShare_101 : decode cX18_armigerShare 101 = .ok (.freturn, 1) := by decide +kernel
theorem dX18_arms_0 : decode cX18_arms 0 = .ok (.aload_n 0, 1) := by decide +kernel
theorem dX18_arms_1 : decode cX18_arms 1 = .ok (.iconst 0, 1) := by decide +kernel
theorem dX18_arms_2 : decode cX18_arms 2 = .ok (.putfield 73, 3) := by decide +kernel
theorem dX18_arms_5 : decode cX18_arms 5 = .ok (.aload_n 0, 1) := by decide +kernel
theorem dX18_arms_6 : decode cX18_arms 6 = .ok (.getfield 20, 3) := by decide +kernel
theorem dX18_arms_9 : decode cX18_arms 9 = .ok (.invokevirtual 288, 3) := by decide +kernel
theorem dX18_arms_12 : decode cX18_arms 12 = .ok (.ireturn, 1) := by decide +kernel
theorem dX18_assume_0 : decode cX18_assume 0 = .ok (.aload_n 0, 1) := by decide +kernel
theorem dX18_assume_1 : decode cX18_assume 1 = .ok (.iload_n 1, 1) := by decide +kernel
theorem dX18_assume_2 : decode cX18_assume 2 = .ok (.invokevirtual 337, 3) := by decide +kernel
theorem dX18_assume_5 : decode cX18_assume 5 = .ok (.ifCond .ne 24, 3) := by decide +kernel
theorem dX18_assume_29 : decode cX18_assume 29 = .ok (.iconst 0, 1) := by decide +kernel
theorem dX18_assume_30 : decode cX18_assume 30 = .ok (.ireturn, 1) := by decide +kernel
theorem dX18_augment_0 : decode cX18_augment 0 = .ok (.iload_n 2, 1) := by decide +kernel
theorem dX18_augment_1 : decode cX18_augment 1 = .ok (.iconst 1, 1) := by decide +kernel
theorem dX18_augment_2 : decode cX18_augment 2 = .ok (.bipush 8, 2) := by decide +kernel
theorem dX18_augment_4 : decode cX18_augment 4 = .ok (.invokestatic 77, 3) := by decide +kernel
theorem dX18_augment_7 : decode cX18_augment 7 = .ok (.ifCond .eq 29, 3) := by decide +kernel
theorem dX18_augment_10 : decode cX18_augment 10 = .ok (.iload_n 3, 1) := by decide +kernel
theorem dX18_augment_11 : decode cX18_augment 11 = .ok (.bipush 51, 2) := by decide +kernel
theorem dX18_augment_13 : decode cX18_augment 13 = .ok (.bipush 58, 2) := by decide +kernel
theorem dX18_augment_15 : decode cX18_augment 15 = .ok (.invokestatic 77, 3) := by decide +kernel
theorem dX18_augment_18 : decode cX18_augment 18 = .ok (.ifCond .eq 18, 3) := by decide +kernel
theorem dX18_augment_21 : decode cX18_augment 21 = .ok (.iload 4, 2) := by decide +kernel
theorem dX18_augment_23 : decode cX18_augment 23 = .ok (.iconst 1, 1) := by decide +kernel
theorem dX18_augment_24 : decode cX18_augment 24 = .ok (.bipush 8, 2) := by decide +kernel
theorem dX18_augment_26 : decode cX18_augment 26 = .ok (.invokestatic 77, 3) := by decide +kernel
theorem dX18_augment_29 : decode cX18_augment 29 = .ok (.ifCond .eq 7, 3) := by decide +kernel
theorem dX18_augment_32 : decode cX18_augment 32 = .ok (.iconst 1, 1) := by decide +kernel
theorem dX18_augment_33 : decode cX18_augment 33 = .ok (.goto 4, 3) := by decide +kernel
theorem dX18_augment_36 : decode cX18_augment 36 = .ok (.iconst 0, 1) := by decide +kernel
theorem dX18_augment_37 : decode cX18_augment 37 = .ok (.istore 5, 2) := by decide +kernel
theorem dX18_augment_39 : decode cX18_augment 39 = .ok (.aload_n 0, 1) := by decide +kernel
theorem dX18_augment_40 : decode cX18_augment 40 = .ok (.iload_n 1, 1) := by decide +kernel
theorem dX18_augment_41 : decode cX18_augment 41 = .ok (.invokevirtual 446, 3) := by decide +kernel
theorem dX18_augment_44 : decode cX18_augment 44 = .ok (.ifCond .ne 32, 3) := by decide +kernel
theorem dX18_augment_76 : decode cX18_augment 76 = .ok (.iconst 0, 1) := by decide +kernel
theorem dX18_augment_77 : decode cX18_augment 77 = .ok (.ireturn, 1) := by decide +kernel
theorem dX18_bearers_0 : decode cX18_bearers 0 = .ok (.aload_n 0, 1) := by decide +kernel
theorem dX18_bearers_1 : decode cX18_bearers 1 = .ok (.iload_n 1, 1) := by decide +kernel
theorem dX18_bearers_2 : decode cX18_bearers 2 = .ok (.invokevirtual 446, 3) := by decide +kernel
theorem dX18_bearers_5 : decode cX18_bearers 5 = .ok (.ifCond .eq 7, 3) := by decide +kernel
theorem dX18_bearers_8 : decode cX18_bearers 8 = .ok (.iconst 0, 1) := by decide +kernel
theorem dX18_bearers_9 : decode cX18_bearers 9 = .ok (.goto 8, 3) := by decide +kernel
theorem dX18_bearers_17 : decode cX18_bearers 17 = .ok (.ireturn, 1) := by decide +kernel
theorem dX18_birth_0 : decode cX18_birth 0 = .ok (.iload_n 1, 1) := by decide +kernel
theorem dX18_birth_1 : decode cX18_birth 1 = .ok (.iconst (-1), 1) := by decide +kernel
theorem dX18_birth_2 : decode cX18_birth 2 = .ok (.if_icmp .eq 11, 3) := by decide +kernel
theorem dX18_birth_5 : decode cX18_birth 5 = .ok (.aload_n 0, 1) := by decide +kernel
theorem dX18_birth_6 : decode cX18_birth 6 = .ok (.iload_n 1, 1) := by decide +kernel
theorem dX18_birth_7 : decode cX18_birth 7 = .ok (.invokevirtual 291, 3) := by decide +kernel
theorem dX18_birth_10 : decode cX18_birth 10 = .ok (.ifCond .eq 20, 3) := by decide +kernel
theorem dX18_birth_13 : decode cX18_birth 13 = .ok (.iload_n 2, 1) := by decide +kernel
theorem dX18_birth_14 : decode cX18_birth 14 = .ok (.iconst (-1), 1) := by decide +kernel
theorem dX18_birth_15 : decode cX18_birth 15 = .ok (.if_icmp .eq 11, 3) := by decide +kernel
theorem dX18_birth_18 : decode cX18_birth 18 = .ok (.aload_n 0, 1) := by decide +kernel
theorem dX18_birth_19 : decode cX18_birth 19 = .ok (.iload_n 2, 1) := by decide +kernel
theorem dX18_birth_20 : decode cX18_birth 20 = .ok (.invokevirtual 291, 3) := by decide +kernel
theorem dX18_birth_23 : decode cX18_birth 23 = .ok (.ifCond .eq 7, 3) := by decide +kernel
theorem dX18_birth_26 : decode cX18_birth 26 = .ok (.iconst 1, 1) := by decide +kernel
theorem dX18_birth_27 : decode cX18_birth 27 = .ok (.goto 4, 3) := by decide +kernel
theorem dX18_birth_30 : decode cX18_birth 30 = .ok (.iconst 0, 1) := by decide +kernel
theorem dX18_birth_31 : decode cX18_birth 31 = .ok (.istore 4, 2) := by decide +kernel
theorem dX18_birth_33 : decode cX18_birth 33 = .ok (.aload_n 0, 1) := by decide +kernel
theorem dX18_birth_34 : decode cX18_birth 34 = .ok (.iload 4, 2) := by decide +kernel
theorem dX18_birth_36 : decode cX18_birth 36 = .ok (.ifCond .eq 7, 3) := by decide +kernel
theorem dX18_birth_39 : decode cX18_birth 39 = .ok (.iconst 0, 1) := by decide +kernel
theorem dX18_birth_40 : decode cX18_birth 40 = .ok (.goto 4, 3) := by decide +kernel
theorem dX18_birth_43 : decode cX18_birth 43 = .ok (.iconst 1, 1) := by decide +kernel
theorem dX18_birth_44 : decode cX18_birth 44 = .ok (.invokevirtual 84, 3) := by decide +kernel
theorem dX18_birth_47 : decode cX18_birth 47 = .ok (.ifCond .eq 5, 3) := by decide +kernel
theorem dX18_birth_50 : decode cX18_birth 50 = .ok (.iconst 0, 1) := by decide +kernel
theorem dX18_birth_51 : decode cX18_birth 51 = .ok (.ireturn, 1) := by decide +kernel
theorem dX18_birth_52 : decode cX18_birth 52 = .ok (.iload_n 1, 1) := by decide +kernel
theorem dX18_birth_53 : decode cX18_birth 53 = .ok (.ifCond .lt 20, 3) := by decide +kernel
theorem dX18_birth_73 : decode cX18_birth 73 = .ok (.iload_n 2, 1) := by decide +kernel
theorem dX18_birth_74 : decode cX18_birth 74 = .ok (.ifCond .lt 20, 3) := by decide +kernel
theorem dX18_birth_94 : decode cX18_birth 94 = .ok (.iconst 1, 1) := by decide +kernel
theorem dX18_birth_95 : decode cX18_birth 95 = .ok (.goto 4, 3) := by decide +kernel
theorem dX18_birth_99 : decode cX18_birth 99 = .ok (.istore 5, 2) := by decide +kernel
theorem dX18_birth_101 : decode cX18_birth 101 = .ok (.aload_n 0, 1) := by decide +kernel
theorem dX18_birth_102 : decode cX18_birth 102 = .ok (.iload 5, 2) := by decide +kernel
theorem dX18_birth_104 : decode cX18_birth 104 = .ok (.ifCond .ne 7, 3) := by decide +kernel
theorem dX18_birth_111 : decode cX18_birth 111 = .ok (.aload_n 0, 1) := by decide +kernel
theorem dX18_birth_112 : decode cX18_birth 112 = .ok (.getfield 16, 3) := by decide +kernel
theorem dX18_birth_115 : decode cX18_birth 115 = .ok (.invokevirtual 288, 3) := by decide +kernel
theorem dX18_birth_118 : decode cX18_birth 118 = .ok (.bipush 40, 2) := by decide +kernel
theorem dX18_birth_120 : decode cX18_birth 120 = .ok (.if_icmp .ne 7, 3) := by decide +kernel
theorem dX18_birth_127 : decode cX18_birth 127 = .ok (.iconst 0, 1) := by decide +kernel
theorem dX18_birth_128 : decode cX18_birth 128 = .ok (.invokevirtual 84, 3) := by decide +kernel
theorem dX18_birth_131 : decode cX18_birth 131 = .ok (.ifCond .eq 5, 3) := by decide +kernel
theorem dX18_birth_136 : decode cX18_birth 136 = .ok (.aload_n 0, 1) := by decide +kernel
theorem dX18_birth_137 : decode cX18_birth 137 = .ok (.getfield 16, 3) := by decide +kernel
theorem dX18_birth_140 : decode cX18_birth 140 = .ok (.new 298, 3) := by decide +kernel
theorem dX18_birth_143 : decode cX18_birth 143 = .ok (.dup, 1) := by decide +kernel
theorem dX18_birth_144 : decode cX18_birth 144 = .ok (.aload_n 0, 1) := by decide +kernel
theorem dX18_birth_145 : decode cX18_birth 145 = .ok (.getfield 16, 3) := by decide +kernel
theorem dX18_birth_148 : decode cX18_birth 148 = .ok (.invokevirtual 288, 3) := by decide +kernel
theorem dX18_birth_151 : decode cX18_birth 151 = .ok (.iload_n 1, 1) := by decide +kernel
theorem dX18_birth_152 : decode cX18_birth 152 = .ok (.iload_n 2, 1) := by decide +kernel
theorem dX18_birth_153 : decode cX18_birth 153 = .ok (.iload_n 3, 1) := by decide +kernel
theorem dX18_birth_154 : decode cX18_birth 154 = .ok (.invokespecial 303, 3) := by decide +kernel
theorem dX18_birth_157 : decode cX18_birth 157 = .ok (.invokevirtual 306, 3) := by decide +kernel
theorem dX18_birth_160 : decode cX18_birth 160 = .ok (.istore 6, 2) := by decide +kernel
theorem dX18_birth_162 : decode cX18_birth 162 = .ok (.aload_n 0, 1) := by decide +kernel
theorem dX18_birth_163 : decode cX18_birth 163 = .ok (.getfield 16, 3) := by decide +kernel
theorem dX18_birth_166 : decode cX18_birth 166 = .ok (.invokevirtual 288, 3) := by decide +kernel
theorem dX18_birth_169 : decode cX18_birth 169 = .ok (.iconst 1, 1) := by decide +kernel
theorem dX18_birth_170 : decode cX18_birth 170 = .ok (.isub, 1) := by decide +kernel
theorem dX18_birth_171 : decode cX18_birth 171 = .ok (.ireturn, 1) := by decide +kernel
theorem dX18_borne_0 : decode cX18_borne 0 = .ok (.aload_n 0, 1) := by decide +kernel
theorem dX18_borne_1 : decode cX18_borne 1 = .ok (.iload_n 1, 1) := by decide +kernel
theorem dX18_borne_2 : decode cX18_borne 2 = .ok (.invokevirtual 337, 3) := by decide +kernel
theorem dX18_borne_5 : decode cX18_borne 5 = .ok (.ifCond .eq 5, 3) := by decide +kernel
theorem dX18_borne_8 : decode cX18_borne 8 = .ok (.iconst 0, 1) := by decide +kernel
theorem dX18_borne_9 : decode cX18_borne 9 = .ok (.ireturn, 1) := by decide +kernel
theorem dX18_breaks_0 : decode cX18_breaks 0 = .ok (.aload_n 0, 1) := by decide +kernel
theorem dX18_breaks_1 : decode cX18_breaks 1 = .ok (.iconst 1, 1) := by decide +kernel
theorem dX18_breaks_2 : decode cX18_breaks 2 = .ok (.invokevirtual 232, 3) := by decide +kernel
theorem dX18_breaks_5 : decode cX18_breaks 5 = .ok (.ifCond .eq 5, 3) := by decide +kernel
theorem dX18_breaks_8 : decode cX18_breaks 8 = .ok (.iconst 0, 1) := by decide +kernel
theorem dX18_breaks_9 : decode cX18_breaks 9 = .ok (.ireturn, 1) := by decide +kernel
theorem dX18_call_0 : decode cX18_call 0 = .ok (.aload_n 0, 1) := by decide +kernel
theorem dX18_call_1 : decode cX18_call 1 = .ok (.aload_n 0, 1) := by decide +kernel
theorem dX18_call_2 : decode cX18_call 2 = .ok (.iload_n 1, 1) := by decide +kernel
theorem dX18_call_3 : decode cX18_call 3 = .ok (.invokevirtual 443, 3) := by decide +kernel
theorem dX18_call_6 : decode cX18_call 6 = .ok (.ifCond .eq 15, 3) := by decide +kernel
theorem dX18_call_21 : decode cX18_call 21 = .ok (.iconst 1, 1) := by decide +kernel
theorem dX18_call_22 : decode cX18_call 22 = .ok (.invokevirtual 84, 3) := by decide +kernel
theorem dX18_call_25 : decode cX18_call 25 = .ok (.ifCond .eq 5, 3) := by decide +kernel
theorem dX18_call_28 : decode cX18_call 28 = .ok (.iconst 0, 1) := by decide +kernel
theorem dX18_call_29 : decode cX18_call 29 = .ok (.ireturn, 1) := by decide +kernel
theorem dX18_cameBy_0 : decode cX18_cameBy 0 = .ok (.aload_n 0, 1) := by decide +kernel
theorem dX18_cameBy_1 : decode cX18_cameBy 1 = .ok (.iload_n 1, 1) := by decide +kernel
theorem dX18_cameBy_2 : decode cX18_cameBy 2 = .ok (.invokevirtual 446, 3) := by decide +kernel
theorem dX18_cameBy_5 : decode cX18_cameBy 5 = .ok (.ifCond .eq 7, 3) := by decide +kernel
theorem dX18_cameBy_8 : decode cX18_cameBy 8 = .ok (.iconst 0, 1) := by decide +kernel
theorem dX18_cameBy_9 : decode cX18_cameBy 9 = .ok (.goto 17, 3) := by decide +kernel
theorem dX18_cameBy_26 : decode cX18_cameBy 26 = .ok (.ireturn, 1) := by decide +kernel
theorem dX18_conflicts_0 : decode cX18_conflicts 0 = .ok (.aload_n 0, 1) := by decide +kernel
theorem dX18_conflicts_1 : decode cX18_conflicts 1 = .ok (.iload_n 1, 1) := by decide +kernel
theorem dX18_conflicts_2 : decode cX18_conflicts 2 = .ok (.invokevirtual 337, 3) := by decide +kernel
theorem dX18_conflicts_5 : decode cX18_conflicts 5 = .ok (.ifCond .ne 32, 3) := by decide +kernel
theorem dX18_conflicts_37 : decode cX18_conflicts 37 = .ok (.iconst 0, 1) := by decide +kernel
theorem dX18_conflicts_38 : decode cX18_conflicts 38 = .ok (.ireturn, 1) := by decide +kernel
theorem dX18_crest_0 : decode cX18_crest 0 = .ok (.aload_n 0, 1) := by decide +kernel
theorem dX18_crest_1 : decode cX18_crest 1 = .ok (.iload_n 1, 1) := by decide +kernel
theorem dX18_crest_2 : decode cX18_crest 2 = .ok (.invokevirtual 337, 3) := by decide +kernel
theorem dX18_crest_5 : decode cX18_crest 5 = .ok (.ifCond .eq 5, 3) := by decide +kernel
theorem dX18_crest_8 : decode cX18_crest 8 = .ok (.iconst 0, 1) := by decide +kernel
theorem dX18_crest_9 : decode cX18_crest 9 = .ok (.ireturn, 1) := by decide +kernel
theorem dX18_death_0 : decode cX18_death 0 = .ok (.aload_n 0, 1) := by decide +kernel
theorem dX18_death_1 : decode cX18_death 1 = .ok (.iload_n 1, 1) := by decide +kernel
theorem dX18_death_2 : decode cX18_death 2 = .ok (.invokevirtual 337, 3) := by decide +kernel
theorem dX18_death_5 : decode cX18_death 5 = .ok (.ifCond .ne 32, 3) := by decide +kernel
theorem dX18_death_37 : decode cX18_death 37 = .ok (.iconst 0, 1) := by decide +kernel
theorem dX18_death_38 : decode cX18_death 38 = .ok (.ireturn, 1) := by decide +kernel
theorem dX18_difference_0 : decode cX18_difference 0 = .ok (.aload_n 0, 1) := by decide +kernel
theorem dX18_difference_1 : decode cX18_difference 1 = .ok (.iload_n 1, 1) := by decide +kernel
theorem dX18_difference_2 : decode cX18_difference 2 = .ok (.invokevirtual 337, 3) := by decide +kernel
theorem dX18_difference_5 : decode cX18_difference 5 = .ok (.ifCond .eq 5, 3) := by decide +kernel
theorem dX18_difference_8 : decode cX18_difference 8 = .ok (.iconst 0, 1) := by decide +kernel
theorem dX18_difference_9 : decode cX18_difference 9 = .ok (.ireturn, 1) := by decide +kernel
theorem dX18_differences_0 : decode cX18_differences 0 = .ok (.aload_n 0, 1) := by decide +kernel
theorem dX18_differences_1 : decode cX18_differences 1 = .ok (.iload_n 1, 1) := by decide +kernel
theorem dX18_differences_2 : decode cX18_differences 2 = .ok (.invokevirtual 337, 3) := by decide +kernel
theorem dX18_differences_5 : decode cX18_differences 5 = .ok (.ifCond .eq 5, 3) := by decide +kernel
theorem dX18_differences_8 : decode cX18_differences 8 = .ok (.iconst 0, 1) := by decide +kernel
theorem dX18_differences_9 : decode cX18_differences 9 = .ok (.ireturn, 1) := by decide +kernel
theorem dX18_disclaimed_0 : decode cX18_disclaimed 0 = .ok (.aload_n 0, 1) := by decide +kernel
theorem dX18_disclaimed_1 : decode cX18_disclaimed 1 = .ok (.iconst 0, 1) := by decide +kernel
theorem dX18_disclaimed_2 : decode cX18_disclaimed 2 = .ok (.putfield 73, 3) := by decide +kernel
theorem dX18_disclaimed_5 : decode cX18_disclaimed 5 = .ok (.aload_n 0, 1) := by decide +kernel
theorem dX18_disclaimed_6 : decode cX18_disclaimed 6 = .ok (.getfield 505, 3) := by decide +kernel
theorem dX18_disclaimed_9 : decode cX18_disclaimed 9 = .ok (.ireturn, 1) := by decide +kernel
theorem dX18_distance_0 : decode cX18_distance 0 = .ok (.aload_n 0, 1) := by decide +kernel
theorem dX18_distance_1 : decode cX18_distance 1 = .ok (.aload_n 0, 1) := by decide +kernel
theorem dX18_distance_2 : decode cX18_distance 2 = .ok (.iload_n 1, 1) := by decide +kernel
theorem dX18_distance_3 : decode cX18_distance 3 = .ok (.invokevirtual 443, 3) := by decide +kernel
theorem dX18_distance_6 : decode cX18_distance 6 = .ok (.ifCond .eq 15, 3) := by decide +kernel
theorem dX18_distance_21 : decode cX18_distance 21 = .ok (.iconst 1, 1) := by decide +kernel
theorem dX18_distance_22 : decode cX18_distance 22 = .ok (.invokevirtual 84, 3) := by decide +kernel
theorem dX18_distance_25 : decode cX18_distance 25 = .ok (.ifCond .eq 7, 3) := by decide +kernel
theorem dX18_distance_28 : decode cX18_distance 28 = .ok (.iconst 0, 1) := by decide +kernel
theorem dX18_distance_29 : decode cX18_distance 29 = .ok (.goto 9, 3) := by decide +kernel
theorem dX18_distance_38 : decode cX18_distance 38 = .ok (.ireturn, 1) := by decide +kernel
theorem dX18_drawn_0 : decode cX18_drawn 0 = .ok (.aload_n 0, 1) := by decide +kernel
theorem dX18_drawn_1 : decode cX18_drawn 1 = .ok (.iconst 1, 1) := by decide +kernel
theorem dX18_drawn_2 : decode cX18_drawn 2 = .ok (.invokevirtual 232, 3) := by decide +kernel
theorem dX18_drawn_5 : decode cX18_drawn 5 = .ok (.ifCond .eq 5, 3) := by decide +kernel
theorem dX18_drawn_8 : decode cX18_drawn 8 = .ok (.iconst 0, 1) := by decide +kernel
theorem dX18_drawn_9 : decode cX18_drawn 9 = .ok (.ireturn, 1) := by decide +kernel
theorem dX18_erase_0 : decode cX18_erase 0 = .ok (.aload_n 0, 1) := by decide +kernel
theorem dX18_erase_1 : decode cX18_erase 1 = .ok (.iconst 0, 1) := by decide +kernel
theorem dX18_erase_2 : decode cX18_erase 2 = .ok (.putfield 73, 3) := by decide +kernel
theorem dX18_erase_5 : decode cX18_erase 5 = .ok (.aload_n 0, 1) := by decide +kernel
theorem dX18_erase_6 : decode cX18_erase 6 = .ok (.getfield 81, 3) := by decide +kernel
theorem dX18_erase_9 : decode cX18_erase 9 = .ok (.istore_n 1, 1) := by decide +kernel
theorem dX18_erase_10 : decode cX18_erase 10 = .ok (.aload_n 0, 1) := by decide +kernel
theorem dX18_erase_11 : decode cX18_erase 11 = .ok (.iconst 0, 1) := by decide +kernel
theorem dX18_erase_12 : decode cX18_erase 12 = .ok (.putfield 81, 3) := by decide +kernel
theorem dX18_erase_15 : decode cX18_erase 15 = .ok (.iload_n 1, 1) := by decide +kernel
theorem dX18_erase_16 : decode cX18_erase 16 = .ok (.ireturn, 1) := by decide +kernel
theorem dX18_fails_0 : decode cX18_fails 0 = .ok (.aload_n 0, 1) := by decide +kernel
theorem dX18_fails_1 : decode cX18_fails 1 = .ok (.iload_n 1, 1) := by decide +kernel
theorem dX18_fails_2 : decode cX18_fails 2 = .ok (.putfield 73, 3) := by decide +kernel
theorem dX18_fails_5 : decode cX18_fails 5 = .ok (.iload_n 1, 1) := by decide +kernel
theorem dX18_fails_6 : decode cX18_fails 6 = .ok (.ifCond .le 7, 3) := by decide +kernel
theorem dX18_fails_9 : decode cX18_fails 9 = .ok (.iconst 1, 1) := by decide +kernel
theorem dX18_fails_10 : decode cX18_fails 10 = .ok (.goto 4, 3) := by decide +kernel
theorem dX18_fails_13 : decode cX18_fails 13 = .ok (.iconst 0, 1) := by decide +kernel
theorem dX18_fails_14 : decode cX18_fails 14 = .ok (.ireturn, 1) := by decide +kernel
theorem dX18_failsArms_0 : decode cX18_failsArms 0 = .ok (.aload_n 0, 1) := by decide +kernel
theorem dX18_failsArms_1 : decode cX18_failsArms 1 = .ok (.aload_n 0, 1) := by decide +kernel
theorem dX18_failsArms_2 : decode cX18_failsArms 2 = .ok (.iload_n 1, 1) := by decide +kernel
theorem dX18_failsArms_3 : decode cX18_failsArms 3 = .ok (.invokevirtual 443, 3) := by decide +kernel
theorem dX18_failsArms_6 : decode cX18_failsArms 6 = .ok (.ifCond .eq 7, 3) := by decide +kernel
theorem dX18_failsArms_13 : decode cX18_failsArms 13 = .ok (.iconst 1, 1) := by decide +kernel
theorem dX18_failsArms_14 : decode cX18_failsArms 14 = .ok (.invokevirtual 84, 3) := by decide +kernel
theorem dX18_failsArms_17 : decode cX18_failsArms 17 = .ok (.ireturn, 1) := by decide +kernel
theorem dX18_failsJudgment_0 : decode cX18_failsJudgment 0 = .ok (.aload_n 0, 1) := by decide +kernel
theorem dX18_failsJudgment_1 : decode cX18_failsJudgment 1 = .ok (.iload_n 1, 1) := by decide +kernel
theorem dX18_failsJudgment_2 : decode cX18_failsJudgment 2 = .ok (.iconst 0, 1) := by decide +kernel
theorem dX18_failsJudgment_3 : decode cX18_failsJudgment 3 = .ok (.aload_n 0, 1) := by decide +kernel
theorem dX18_failsJudgment_4 : decode cX18_failsJudgment 4 = .ok (.getfield 23, 3) := by decide +kernel
theorem dX18_failsJudgment_7 : decode cX18_failsJudgment 7 = .ok (.invokevirtual 288, 3) := by decide +kernel
theorem dX18_failsJudgment_10 : decode cX18_failsJudgment 10 = .ok (.iconst 1, 1) := by decide +kernel
theorem dX18_failsJudgment_11 : decode cX18_failsJudgment 11 = .ok (.isub, 1) := by decide +kernel
theorem dX18_failsJudgment_12 : decode cX18_failsJudgment 12 = .ok (.invokestatic 77, 3) := by decide +kernel
theorem dX18_failsJudgment_15 : decode cX18_failsJudgment 15 = .ok (.ifCond .eq 7, 3) := by decide +kernel
theorem dX18_failsJudgment_22 : decode cX18_failsJudgment 22 = .ok (.iconst 1, 1) := by decide +kernel
theorem dX18_failsJudgment_23 : decode cX18_failsJudgment 23 = .ok (.invokevirtual 84, 3) := by decide +kernel
theorem dX18_failsJudgment_26 : decode cX18_failsJudgment 26 = .ok (.ireturn, 1) := by decide +kernel
theorem dX18_failsPerson_0 : decode cX18_failsPerson 0 = .ok (.aload_n 0, 1) := by decide +kernel
theorem dX18_failsPerson_1 : decode cX18_failsPerson 1 = .ok (.aload_n 0, 1) := by decide +kernel
theorem dX18_failsPerson_2 : decode cX18_failsPerson 2 = .ok (.iload_n 1, 1) := by decide +kernel
theorem dX18_failsPerson_3 : decode cX18_failsPerson 3 = .ok (.invokevirtual 291, 3) := by decide +kernel
theorem dX18_failsPerson_6 : decode cX18_failsPerson 6 = .ok (.ifCond .eq 7, 3) := by decide +kernel
theorem dX18_failsPerson_13 : decode cX18_failsPerson 13 = .ok (.iconst 1, 1) := by decide +kernel
theorem dX18_failsPerson_14 : decode cX18_failsPerson 14 = .ok (.invokevirtual 84, 3) := by decide +kernel
theorem dX18_failsPerson_17 : decode cX18_failsPerson 17 = .ok (.ireturn, 1) := by decide +kernel
theorem dX18_failsQuarter_0 : decode cX18_failsQuarter 0 = .ok (.aload_n 0, 1) := by decide +kernel
theorem dX18_failsQuarter_1 : decode cX18_failsQuarter 1 = .ok (.iload_n 1, 1) := by decide +kernel
theorem dX18_failsQuarter_2 : decode cX18_failsQuarter 2 = .ok (.invokevirtual 337, 3) := by decide +kernel
theorem dX18_failsQuarter_5 : decode cX18_failsQuarter 5 = .ok (.ifCond .eq 5, 3) := by decide +kernel
theorem dX18_failsQuarter_8 : decode cX18_failsQuarter 8 = .ok (.iconst 1, 1) := by decide +kernel
theorem dX18_failsQuarter_9 : decode cX18_failsQuarter 9 = .ok (.ireturn, 1) := by decide +kernel
theorem dX18_failsRow_0 : decode cX18_failsRow 0 = .ok (.aload_n 0, 1) := by decide +kernel
theorem dX18_failsRow_1 : decode cX18_failsRow 1 = .ok (.invokevirtual 176, 3) := by decide +kernel
theorem dX18_failsRow_4 : decode cX18_failsRow 4 = .ok (.aload_n 0, 1) := by decide +kernel
theorem dX18_failsRow_5 : decode cX18_failsRow 5 = .ok (.aload_n 0, 1) := by decide +kernel
theorem dX18_failsRow_6 : decode cX18_failsRow 6 = .ok (.getfield 91, 3) := by decide +kernel
theorem dX18_failsRow_9 : decode cX18_failsRow 9 = .ok (.ifCond .lt 7, 3) := by decide +kernel
theorem dX18_failsRow_12 : decode cX18_failsRow 12 = .ok (.iload_n 1, 1) := by decide +kernel
theorem dX18_failsRow_13 : decode cX18_failsRow 13 = .ok (.goto 4, 3) := by decide +kernel
theorem dX18_failsRow_17 : decode cX18_failsRow 17 = .ok (.invokevirtual 84, 3) := by decide +kernel
theorem dX18_failsRow_20 : decode cX18_failsRow 20 = .ok (.ireturn, 1) := by decide +kernel
theorem dX18_fewest_0 : decode cX18_fewest 0 = .ok (.aload_n 0, 1) := by decide +kernel
theorem dX18_fewest_1 : decode cX18_fewest 1 = .ok (.iconst 1, 1) := by decide +kernel
theorem dX18_fewest_2 : decode cX18_fewest 2 = .ok (.invokevirtual 232, 3) := by decide +kernel
theorem dX18_fewest_5 : decode cX18_fewest 5 = .ok (.ifCond .eq 5, 3) := by decide +kernel
theorem dX18_fewest_8 : decode cX18_fewest 8 = .ok (.iconst 0, 1) := by decide +kernel
theorem dX18_fewest_9 : decode cX18_fewest 9 = .ok (.ireturn, 1) := by decide +kernel
theorem dX18_fewestAt_0 : decode cX18_fewestAt 0 = .ok (.aload_n 0, 1) := by decide +kernel
theorem dX18_fewestAt_1 : decode cX18_fewestAt 1 = .ok (.iconst 1, 1) := by decide +kernel
theorem dX18_fewestAt_2 : decode cX18_fewestAt 2 = .ok (.invokevirtual 232, 3) := by decide +kernel
theorem dX18_fewestAt_5 : decode cX18_fewestAt 5 = .ok (.ifCond .eq 5, 3) := by decide +kernel
theorem dX18_fewestAt_8 : decode cX18_fewestAt 8 = .ok (.iconst 0, 1) := by decide +kernel
theorem dX18_fewestAt_9 : decode cX18_fewestAt 9 = .ok (.ireturn, 1) := by decide +kernel
theorem dX18_grant_0 : decode cX18_grant 0 = .ok (.aload_n 0, 1) := by decide +kernel
theorem dX18_grant_1 : decode cX18_grant 1 = .ok (.iload_n 1, 1) := by decide +kernel
theorem dX18_grant_2 : decode cX18_grant 2 = .ok (.invokevirtual 337, 3) := by decide +kernel
theorem dX18_grant_5 : decode cX18_grant 5 = .ok (.ifCond .ne 24, 3) := by decide +kernel
theorem dX18_grant_29 : decode cX18_grant 29 = .ok (.iconst 0, 1) := by decide +kernel
theorem dX18_grant_30 : decode cX18_grant 30 = .ok (.ireturn, 1) := by decide +kernel
theorem dX18_in_0 : decode cX18_in 0 = .ok (.iload_n 0, 1) := by decide +kernel
theorem dX18_in_1 : decode cX18_in 1 = .ok (.iload_n 1, 1) := by decide +kernel
theorem dX18_in_2 : decode cX18_in 2 = .ok (.if_icmp .lt 12, 3) := by decide +kernel
theorem dX18_in_5 : decode cX18_in 5 = .ok (.iload_n 0, 1) := by decide +kernel
theorem dX18_in_6 : decode cX18_in 6 = .ok (.iload_n 2, 1) := by decide +kernel
theorem dX18_in_7 : decode cX18_in 7 = .ok (.if_icmp .gt 7, 3) := by decide +kernel
theorem dX18_in_10 : decode cX18_in 10 = .ok (.iconst 1, 1) := by decide +kernel
theorem dX18_in_11 : decode cX18_in 11 = .ok (.goto 4, 3) := by decide +kernel
theorem dX18_in_14 : decode cX18_in 14 = .ok (.iconst 0, 1) := by decide +kernel
theorem dX18_in_15 : decode cX18_in 15 = .ok (.ireturn, 1) := by decide +kernel
theorem dX18_init_0 : decode cX18_init 0 = .ok (.aload_n 0, 1) := by decide +kernel
theorem dX18_init_1 : decode cX18_init 1 = .ok (.invokespecial 1, 3) := by decide +kernel
theorem dX18_init_4 : decode cX18_init 4 = .ok (.aload_n 0, 1) := by decide +kernel
theorem dX18_init_5 : decode cX18_init 5 = .ok (.bipush 24, 2) := by decide +kernel
theorem dX18_init_7 : decode cX18_init 7 = .ok (.newarray .int, 2) := by decide +kernel
theorem dX18_init_9 : decode cX18_init 9 = .ok (.putfield 9, 3) := by decide +kernel
theorem dX18_init_12 : decode cX18_init 12 = .ok (.aload_n 0, 1) := by decide +kernel
theorem dX18_init_13 : decode cX18_init 13 = .ok (.new 13, 3) := by decide +kernel
theorem dX18_init_16 : decode cX18_init 16 = .ok (.dup, 1) := by decide +kernel
theorem dX18_init_17 : decode cX18_init 17 = .ok (.invokespecial 15, 3) := by decide +kernel
theorem dX18_init_20 : decode cX18_init 20 = .ok (.putfield 16, 3) := by decide +kernel
theorem dX18_init_23 : decode cX18_init 23 = .ok (.aload_n 0, 1) := by decide +kernel
theorem dX18_init_24 : decode cX18_init 24 = .ok (.new 13, 3) := by decide +kernel
theorem dX18_init_27 : decode cX18_init 27 = .ok (.dup, 1) := by decide +kernel
theorem dX18_init_28 : decode cX18_init 28 = .ok (.invokespecial 15, 3) := by decide +kernel
theorem dX18_init_31 : decode cX18_init 31 = .ok (.putfield 20, 3) := by decide +kernel
theorem dX18_init_34 : decode cX18_init 34 = .ok (.aload_n 0, 1) := by decide +kernel
theorem dX18_init_35 : decode cX18_init 35 = .ok (.new 13, 3) := by decide +kernel
theorem dX18_init_38 : decode cX18_init 38 = .ok (.dup, 1) := by decide +kernel
theorem dX18_init_39 : decode cX18_init 39 = .ok (.invokespecial 15, 3) := by decide +kernel
theorem dX18_init_42 : decode cX18_init 42 = .ok (.putfield 23, 3) := by decide +kernel
theorem dX18_init_45 : decode cX18_init 45 = .ok (.aload_n 0, 1) := by decide +kernel
theorem dX18_init_46 : decode cX18_init 46 = .ok (.new 26, 3) := by decide +kernel
theorem dX18_init_49 : decode cX18_init 49 = .ok (.dup, 1) := by decide +kernel
theorem dX18_init_50 : decode cX18_init 50 = .ok (.invokespecial 28, 3) := by decide +kernel
theorem dX18_init_53 : decode cX18_init 53 = .ok (.putfield 29, 3) := by decide +kernel
theorem dX18_init_56 : decode cX18_init 56 = .ok (.aload_n 0, 1) := by decide +kernel
theorem dX18_init_57 : decode cX18_init 57 = .ok (.bipush 24, 2) := by decide +kernel
theorem dX18_init_59 : decode cX18_init 59 = .ok (.newarray .int, 2) := by decide +kernel
theorem dX18_init_61 : decode cX18_init 61 = .ok (.putfield 33, 3) := by decide +kernel
theorem dX18_init_64 : decode cX18_init 64 = .ok (.aload_n 0, 1) := by decide +kernel
theorem dX18_init_65 : decode cX18_init 65 = .ok (.sipush 256, 3) := by decide +kernel
theorem dX18_init_68 : decode cX18_init 68 = .ok (.newarray .boolean, 2) := by decide +kernel
theorem dX18_init_70 : decode cX18_init 70 = .ok (.putfield 36, 3) := by decide +kernel
theorem dX18_init_73 : decode cX18_init 73 = .ok (.aload_n 0, 1) := by decide +kernel
theorem dX18_init_74 : decode cX18_init 74 = .ok (.sipush 256, 3) := by decide +kernel
theorem dX18_init_77 : decode cX18_init 77 = .ok (.newarray .int, 2) := by decide +kernel
