theorem dJxa1e45_init_da8c8_0 : decode cJxa1e45_init_da8c8 0 = .ok (.aload_n 0, 1) := by decide +kernel
theorem dJxa1e45_init_da8c8_1 : decode cJxa1e45_init_da8c8 1 = .ok (.invokespecial 1, 3) := by decide +kernel
theorem dJxa1e45_init_da8c8_4 : decode cJxa1e45_init_da8c8 4 = .ok (.return_, 1) := by decide +kernel
theorem dJxc12de_init_da8c8_0 : decode cJxc12de_init_da8c8 0 = .ok (.aload_n 0, 1) := by decide +kernel
theorem dJxc12de_init_da8c8_1 : decode cJxc12de_init_da8c8 1 = .ok (.invokespecial 1, 3) := by decide +kernel
theorem dJxc12de_init_da8c8_4 : decode cJxc12de_init_da8c8 4 = .ok (.aload_n 0, 1) := by decide +kernel
theorem dJxc12de_init_da8c8_5 : decode cJxc12de_init_da8c8 5 = .ok (.iconst 0, 1) := by decide +kernel
theorem dJxc12de_init_da8c8_6 : decode cJxc12de_init_da8c8 6 = .ok (.putfield 7, 3) := by decide +kernel
theorem dJxc12de_init_da8c8_9 : decode cJxc12de_init_da8c8 9 = .ok (.return_, 1) := by decide +kernel
theorem dJx4a65c_init_da8c8_0 : decode cJx4a65c_init_da8c8 0 = .ok (.aload_n 0, 1) := by decide +kernel
theorem dJx4a65c_init_da8c8_1 : decode cJx4a65c_init_da8c8 1 = .ok (.invokespecial 1, 3) := by decide +kernel
theorem dJx4a65c_init_da8c8_4 : decode cJx4a65c_init_da8c8 4 = .ok (.aload_n 0, 1) := by decide +kernel
theorem dJx4a65c_init_da8c8_5 : decode cJx4a65c_init_da8c8 5 = .ok (.getstatic 39, 3) := by decide +kernel
theorem dJx4a65c_init_da8c8_8 : decode cJx4a65c_init_da8c8 8 = .ok (.putfield 9, 3) := by decide +kernel
theorem dJx4a65c_init_da8c8_11 : decode cJx4a65c_init_da8c8 11 = .ok (.return_, 1) := by decide +kernel
theorem dJx4a65c_size_8abf5_0 : decode cJx4a65c_size_8abf5 0 = .ok (.aload_n 0, 1) := by decide +kernel
theorem dJx4a65c_size_8abf5_1 : decode cJx4a65c_size_8abf5 1 = .ok (.getfield 48, 3) := by decide +kernel
theorem dJx4a65c_size_8abf5_4 : decode cJx4a65c_size_8abf5 4 = .ok (.ireturn, 1) := by decide +kernel
theorem dJx4a65c_isEmpty_aae02_0 : decode cJx4a65c_isEmpty_aae02 0 = .ok (.aload_n 0, 1) := by decide +kernel
theorem dJx4a65c_isEmpty_aae02_1 : decode cJx4a65c_isEmpty_aae02 1 = .ok (.getfield 48, 3) := by decide +kernel
theorem dJx4a65c_isEmpty_aae02_4 : decode cJx4a65c_isEmpty_aae02 4 = .ok (.ifCond .ne 7, 3) := by decide +kernel
theorem dJx4a65c_isEmpty_aae02_7 : decode cJx4a65c_isEmpty_aae02 7 = .ok (.iconst 1, 1) := by decide +kernel
theorem dJx4a65c_isEmpty_aae02_8 : decode cJx4a65c_isEmpty_aae02 8 = .ok (.goto 4, 3) := by decide +kernel
theorem dJx4a65c_isEmpty_aae02_12 : decode cJx4a65c_isEmpty_aae02 12 = .ok (.ireturn, 1) := by decide +kernel
theorem dJx35411_init_45d68_0 : decode cJx35411_init_45d68 0 = .ok (.aload_n 0, 1) := by decide +kernel
theorem dJx35411_init_45d68_1 : decode cJx35411_init_45d68 1 = .ok (.aload_n 1, 1) := by decide +kernel
theorem dJx35411_init_45d68_2 : decode cJx35411_init_45d68 2 = .ok (.putfield 1, 3) := by decide +kernel
theorem dJx35411_init_45d68_5 : decode cJx35411_init_45d68 5 = .ok (.aload_n 0, 1) := by decide +kernel
theorem dJx35411_init_45d68_6 : decode cJx35411_init_45d68 6 = .ok (.invokespecial 7, 3) := by decide +kernel
theorem dJx35411_init_45d68_9 : decode cJx35411_init_45d68 9 = .ok (.aload_n 0, 1) := by decide +kernel
theorem dJx35411_init_45d68_10 : decode cJx35411_init_45d68 10 = .ok (.iconst (-1), 1) := by decide +kernel
theorem dJx35411_init_45d68_11 : decode cJx35411_init_45d68 11 = .ok (.putfield 13, 3) := by decide +kernel
theorem dJx35411_init_45d68_14 : decode cJx35411_init_45d68 14 = .ok (.aload_n 0, 1) := by decide +kernel
theorem dJx35411_init_45d68_15 : decode cJx35411_init_45d68 15 = .ok (.aload_n 0, 1) := by decide +kernel
theorem dJx35411_init_45d68_16 : decode cJx35411_init_45d68 16 = .ok (.getfield 1, 3) := by decide +kernel
theorem dJx35411_init_45d68_19 : decode cJx35411_init_45d68 19 = .ok (.getfield 17, 3) := by decide +kernel
theorem dJx35411_init_45d68_22 : decode cJx35411_init_45d68 22 = .ok (.putfield 22, 3) := by decide +kernel
theorem dJx35411_init_45d68_25 : decode cJx35411_init_45d68 25 = .ok (.return_, 1) := by decide +kernel
theorem dJx4a65c_iterator_32c93_0 : decode cJx4a65c_iterator_32c93 0 = .ok (.new 267, 3) := by decide +kernel
theorem dJx4a65c_iterator_32c93_3 : decode cJx4a65c_iterator_32c93 3 = .ok (.dup, 1) := by decide +kernel
theorem dJx4a65c_iterator_32c93_4 : decode cJx4a65c_iterator_32c93 4 = .ok (.aload_n 0, 1) := by decide +kernel
theorem dJx4a65c_iterator_32c93_5 : decode cJx4a65c_iterator_32c93 5 = .ok (.invokespecial 269, 3) := by decide +kernel
theorem dJx4a65c_iterator_32c93_8 : decode cJx4a65c_iterator_32c93 8 = .ok (.areturn, 1) := by decide +kernel
theorem dJx35411_hasNext_aae02_0 : decode cJx35411_hasNext_aae02 0 = .ok (.aload_n 0, 1) := by decide +kernel
theorem dJx35411_hasNext_aae02_1 : decode cJx35411_hasNext_aae02 1 = .ok (.getfield 25, 3) := by decide +kernel
theorem dJx35411_hasNext_aae02_4 : decode cJx35411_hasNext_aae02 4 = .ok (.aload_n 0, 1) := by decide +kernel
theorem dJx35411_hasNext_aae02_5 : decode cJx35411_hasNext_aae02 5 = .ok (.getfield 1, 3) := by decide +kernel
theorem dJx35411_hasNext_aae02_8 : decode cJx35411_hasNext_aae02 8 = .ok (.getfield 28, 3) := by decide +kernel
theorem dJx35411_hasNext_aae02_11 : decode cJx35411_hasNext_aae02 11 = .ok (.if_icmp .eq 7, 3) := by decide +kernel
theorem dJx35411_hasNext_aae02_18 : decode cJx35411_hasNext_aae02 18 = .ok (.iconst 0, 1) := by decide +kernel
theorem dJx35411_hasNext_aae02_19 : decode cJx35411_hasNext_aae02 19 = .ok (.ireturn, 1) := by decide +kernel
theorem dJx4a65c_grow_92f84_0 : decode cJx4a65c_grow_92f84 0 = .ok (.aload_n 0, 1) := by decide +kernel
theorem dJx4a65c_grow_92f84_1 : decode cJx4a65c_grow_92f84 1 = .ok (.getfield 9, 3) := by decide +kernel
theorem dJx4a65c_grow_92f84_4 : decode cJx4a65c_grow_92f84 4 = .ok (.arraylength, 1) := by decide +kernel
theorem dJx4a65c_grow_92f84_5 : decode cJx4a65c_grow_92f84 5 = .ok (.istore_n 2, 1) := by decide +kernel
theorem dJx4a65c_grow_92f84_6 : decode cJx4a65c_grow_92f84 6 = .ok (.iload_n 2, 1) := by decide +kernel
theorem dJx4a65c_grow_92f84_7 : decode cJx4a65c_grow_92f84 7 = .ok (.ifCond .gt 13, 3) := by decide +kernel
theorem dJx4a65c_grow_92f84_10 : decode cJx4a65c_grow_92f84 10 = .ok (.aload_n 0, 1) := by decide +kernel
theorem dJx4a65c_grow_92f84_11 : decode cJx4a65c_grow_92f84 11 = .ok (.getfield 9, 3) := by decide +kernel
theorem dJx4a65c_grow_92f84_14 : decode cJx4a65c_grow_92f84 14 = .ok (.getstatic 39, 3) := by decide +kernel
theorem dJx4a65c_grow_92f84_17 : decode cJx4a65c_grow_92f84 17 = .ok (.if_acmp .eq 28, 3) := by decide +kernel
theorem dJx4a65c_grow_92f84_45 : decode cJx4a65c_grow_92f84 45 = .ok (.aload_n 0, 1) := by decide +kernel
theorem dJx4a65c_grow_92f84_46 : decode cJx4a65c_grow_92f84 46 = .ok (.bipush 10, 2) := by decide +kernel
theorem dJx4a65c_grow_92f84_48 : decode cJx4a65c_grow_92f84 48 = .ok (.iload_n 1, 1) := by decide +kernel
theorem dJx4a65c_grow_92f84_49 : decode cJx4a65c_grow_92f84 49 = .ok (.invokestatic 79, 3) := by decide +kernel
theorem dJx4a65c_grow_92f84_52 : decode cJx4a65c_grow_92f84 52 = .ok (.anewarray 7, 3) := by decide +kernel
theorem dJx4a65c_grow_92f84_55 : decode cJx4a65c_grow_92f84 55 = .ok (.dup_x1, 1) := by decide +kernel
theorem dJx4a65c_grow_92f84_56 : decode cJx4a65c_grow_92f84 56 = .ok (.putfield 9, 3) := by decide +kernel
theorem dJx4a65c_grow_92f84_59 : decode cJx4a65c_grow_92f84 59 = .ok (.areturn, 1) := by decide +kernel
theorem dJx4a65c_grow_d5877_0 : decode cJx4a65c_grow_d5877 0 = .ok (.aload_n 0, 1) := by decide +kernel
theorem dJx4a65c_grow_d5877_1 : decode cJx4a65c_grow_d5877 1 = .ok (.aload_n 0, 1) := by decide +kernel
theorem dJx4a65c_grow_d5877_2 : decode cJx4a65c_grow_d5877 2 = .ok (.getfield 48, 3) := by decide +kernel
theorem dJx4a65c_grow_d5877_5 : decode cJx4a65c_grow_d5877 5 = .ok (.iconst 1, 1) := by decide +kernel
theorem dJx4a65c_grow_d5877_6 : decode cJx4a65c_grow_d5877 6 = .ok (.iadd, 1) := by decide +kernel
theorem dJx4a65c_grow_d5877_7 : decode cJx4a65c_grow_d5877 7 = .ok (.invokevirtual 69, 3) := by decide +kernel
theorem dJx4a65c_grow_d5877_10 : decode cJx4a65c_grow_d5877 10 = .ok (.areturn, 1) := by decide +kernel
theorem dJx4a65c_add_72be8_0 : decode cJx4a65c_add_72be8 0 = .ok (.iload_n 3, 1) := by decide +kernel
theorem dJx4a65c_add_72be8_1 : decode cJx4a65c_add_72be8 1 = .ok (.aload_n 2, 1) := by decide +kernel
theorem dJx4a65c_add_72be8_2 : decode cJx4a65c_add_72be8 2 = .ok (.arraylength, 1) := by decide +kernel
theorem dJx4a65c_add_72be8_3 : decode cJx4a65c_add_72be8 3 = .ok (.if_icmp .ne 8, 3) := by decide +kernel
theorem dJx4a65c_add_72be8_6 : decode cJx4a65c_add_72be8 6 = .ok (.aload_n 0, 1) := by decide +kernel
theorem dJx4a65c_add_72be8_7 : decode cJx4a65c_add_72be8 7 = .ok (.invokevirtual 129, 3) := by decide +kernel
theorem dJx4a65c_add_72be8_10 : decode cJx4a65c_add_72be8 10 = .ok (.astore_n 2, 1) := by decide +kernel
theorem dJx4a65c_add_72be8_11 : decode cJx4a65c_add_72be8 11 = .ok (.aload_n 2, 1) := by decide +kernel
theorem dJx4a65c_add_72be8_12 : decode cJx4a65c_add_72be8 12 = .ok (.iload_n 3, 1) := by decide +kernel
theorem dJx4a65c_add_72be8_13 : decode cJx4a65c_add_72be8 13 = .ok (.aload_n 1, 1) := by decide +kernel
theorem dJx4a65c_add_72be8_14 : decode cJx4a65c_add_72be8 14 = .ok (.aastore, 1) := by decide +kernel
theorem dJx4a65c_add_72be8_15 : decode cJx4a65c_add_72be8 15 = .ok (.aload_n 0, 1) := by decide +kernel
theorem dJx4a65c_add_72be8_16 : decode cJx4a65c_add_72be8 16 = .ok (.iload_n 3, 1) := by decide +kernel
theorem dJx4a65c_add_72be8_17 : decode cJx4a65c_add_72be8 17 = .ok (.iconst 1, 1) := by decide +kernel
theorem dJx4a65c_add_72be8_18 : decode cJx4a65c_add_72be8 18 = .ok (.iadd, 1) := by decide +kernel
theorem dJx4a65c_add_72be8_19 : decode cJx4a65c_add_72be8 19 = .ok (.putfield 48, 3) := by decide +kernel
theorem dJx4a65c_add_72be8_22 : decode cJx4a65c_add_72be8 22 = .ok (.return_, 1) := by decide +kernel
theorem dJx4a65c_add_9ea2d_0 : decode cJx4a65c_add_9ea2d 0 = .ok (.aload_n 0, 1) := by decide +kernel
theorem dJx4a65c_add_9ea2d_1 : decode cJx4a65c_add_9ea2d 1 = .ok (.dup, 1) := by decide +kernel
theorem dJx4a65c_add_9ea2d_2 : decode cJx4a65c_add_9ea2d 2 = .ok (.getfield 63, 3) := by decide +kernel
theorem dJx4a65c_add_9ea2d_5 : decode cJx4a65c_add_9ea2d 5 = .ok (.iconst 1, 1) := by decide +kernel
theorem dJx4a65c_add_9ea2d_6 : decode cJx4a65c_add_9ea2d 6 = .ok (.iadd, 1) := by decide +kernel
theorem dJx4a65c_add_9ea2d_7 : decode cJx4a65c_add_9ea2d 7 = .ok (.putfield 63, 3) := by decide +kernel
theorem dJx4a65c_add_9ea2d_10 : decode cJx4a65c_add_9ea2d 10 = .ok (.aload_n 0, 1) := by decide +kernel
theorem dJx4a65c_add_9ea2d_11 : decode cJx4a65c_add_9ea2d 11 = .ok (.aload_n 1, 1) := by decide +kernel
theorem dJx4a65c_add_9ea2d_12 : decode cJx4a65c_add_9ea2d 12 = .ok (.aload_n 0, 1) := by decide +kernel
theorem dJx4a65c_add_9ea2d_13 : decode cJx4a65c_add_9ea2d 13 = .ok (.getfield 9, 3) := by decide +kernel
theorem dJx4a65c_add_9ea2d_16 : decode cJx4a65c_add_9ea2d 16 = .ok (.aload_n 0, 1) := by decide +kernel
theorem dJx4a65c_add_9ea2d_17 : decode cJx4a65c_add_9ea2d 17 = .ok (.getfield 48, 3) := by decide +kernel
theorem dJx4a65c_add_9ea2d_20 : decode cJx4a65c_add_9ea2d 20 = .ok (.invokevirtual 131, 3) := by decide +kernel
theorem dJx4a65c_add_9ea2d_23 : decode cJx4a65c_add_9ea2d 23 = .ok (.iconst 1, 1) := by decide +kernel
theorem dJx4a65c_add_9ea2d_24 : decode cJx4a65c_add_9ea2d 24 = .ok (.ireturn, 1) := by decide +kernel
theorem dX10_isIn_0 : decode cX10_isIn 0 = .ok (.iload_n 0, 1) := by decide +kernel
theorem dX10_isIn_1 : decode cX10_isIn 1 = .ok (.iload_n 1, 1) := by decide +kernel
theorem dX10_isIn_2 : decode cX10_isIn 2 = .ok (.if_icmp .lt 12, 3) := by decide +kernel
theorem dX10_isIn_14 : decode cX10_isIn 14 = .ok (.iconst 0, 1) := by decide +kernel
theorem dX10_isIn_15 : decode cX10_isIn 15 = .ok (.ireturn, 1) := by decide +kernel
theorem dX10_isIn_5 : decode cX10_isIn 5 = .ok (.iload_n 0, 1) := by decide +kernel
theorem dX10_isIn_6 : decode cX10_isIn 6 = .ok (.iload_n 2, 1) := by decide +kernel
theorem dX10_isIn_7 : decode cX10_isIn 7 = .ok (.if_icmp .gt 7, 3) := by decide +kernel
theorem dX10_isIn_10 : decode cX10_isIn 10 = .ok (.iconst 1, 1) := by decide +kernel
theorem dX10_isIn_11 : decode cX10_isIn 11 = .ok (.goto 4, 3) := by decide +kernel
theorem dX10_isNoA_0 : decode cX10_isNoA 0 = .ok (.iload_n 0, 1) := by decide +kernel
theorem dX10_isNoA_1 : decode cX10_isNoA 1 = .ok (.iconst 0, 1) := by decide +kernel
theorem dX10_isNoA_2 : decode cX10_isNoA 2 = .ok (.iconst 2, 1) := by decide +kernel
theorem dX10_isNoA_3 : decode cX10_isNoA 3 = .ok (.invokestatic 45, 3) := by decide +kernel
theorem dX10_isNoA_6 : decode cX10_isNoA 6 = .ok (.ifCond .ne 7, 3) := by decide +kernel
theorem dX10_isNoA_13 : decode cX10_isNoA 13 = .ok (.iconst 0, 1) := by decide +kernel
theorem dX10_isNoA_14 : decode cX10_isNoA 14 = .ok (.ireturn, 1) := by decide +kernel
theorem dX10_isNoA_9 : decode cX10_isNoA 9 = .ok (.iconst 1, 1) := by decide +kernel
theorem dX10_isNoA_10 : decode cX10_isNoA 10 = .ok (.goto 4, 3) := by decide +kernel
theorem dX10_isNoB_0 : decode cX10_isNoB 0 = .ok (.iload_n 0, 1) := by decide +kernel
theorem dX10_isNoB_1 : decode cX10_isNoB 1 = .ok (.iconst 0, 1) := by decide +kernel
theorem dX10_isNoB_2 : decode cX10_isNoB 2 = .ok (.iconst 1, 1) := by decide +kernel
theorem dX10_isNoB_3 : decode cX10_isNoB 3 = .ok (.invokestatic 45, 3) := by decide +kernel
theorem dX10_isNoB_6 : decode cX10_isNoB 6 = .ok (.ifCond .ne 7, 3) := by decide +kernel
theorem dX10_isNoB_13 : decode cX10_isNoB 13 = .ok (.iconst 0, 1) := by decide +kernel
theorem dX10_isNoB_14 : decode cX10_isNoB 14 = .ok (.ireturn, 1) := by decide +kernel
theorem dX10_isNoB_9 : decode cX10_isNoB 9 = .ok (.iconst 1, 1) := by decide +kernel
theorem dX10_isNoB_10 : decode cX10_isNoB 10 = .ok (.goto 4, 3) := by decide +kernel
theorem dX10_isNoRounds_0 : decode cX10_isNoRounds 0 = .ok (.iload_n 0, 1) := by decide +kernel
theorem dX10_isNoRounds_1 : decode cX10_isNoRounds 1 = .ok (.iconst 0, 1) := by decide +kernel
theorem dX10_isNoRounds_2 : decode cX10_isNoRounds 2 = .ok (.bipush 9, 2) := by decide +kernel
theorem dX10_isNoRounds_4 : decode cX10_isNoRounds 4 = .ok (.invokestatic 45, 3) := by decide +kernel
theorem dX10_isNoRounds_7 : decode cX10_isNoRounds 7 = .ok (.ifCond .ne 7, 3) := by decide +kernel
theorem dX10_isNoRounds_14 : decode cX10_isNoRounds 14 = .ok (.iconst 0, 1) := by decide +kernel
theorem dX10_isNoRounds_15 : decode cX10_isNoRounds 15 = .ok (.ireturn, 1) := by decide +kernel
theorem dX10_isNoRounds_10 : decode cX10_isNoRounds 10 = .ok (.iconst 1, 1) := by decide +kernel
theorem dX10_isNoRounds_11 : decode cX10_isNoRounds 11 = .ok (.goto 4, 3) := by decide +kernel
theorem dX10_refuse_0 : decode cX10_refuse 0 = .ok (.iload_n 1, 1) := by decide +kernel
theorem dX10_refuse_1 : decode cX10_refuse 1 = .ok (.ifCond .eq 15, 3) := by decide +kernel
theorem dX10_refuse_16 : decode cX10_refuse 16 = .ok (.aload_n 0, 1) := by decide +kernel
theorem dX10_refuse_17 : decode cX10_refuse 17 = .ok (.getfield 34, 3) := by decide +kernel
theorem dX10_refuse_20 : decode cX10_refuse 20 = .ok (.ifCond .le 7, 3) := by decide +kernel
theorem dX10_refuse_27 : decode cX10_refuse 27 = .ok (.iconst 0, 1) := by decide +kernel
theorem dX10_refuse_28 : decode cX10_refuse 28 = .ok (.ireturn, 1) := by decide +kernel
theorem dX10_refuse_4 : decode cX10_refuse 4 = .ok (.aload_n 0, 1) := by decide +kernel
theorem dX10_refuse_5 : decode cX10_refuse 5 = .ok (.getfield 34, 3) := by decide +kernel
theorem dX10_refuse_8 : decode cX10_refuse 8 = .ok (.ifCond .ne 8, 3) := by decide +kernel
theorem dX10_refuse_11 : decode cX10_refuse 11 = .ok (.aload_n 0, 1) := by decide +kernel
theorem dX10_refuse_12 : decode cX10_refuse 12 = .ok (.iload_n 2, 1) := by decide +kernel
theorem dX10_refuse_13 : decode cX10_refuse 13 = .ok (.putfield 34, 3) := by decide +kernel
theorem dX10_refuse_23 : decode cX10_refuse 23 = .ok (.iconst 1, 1) := by decide +kernel
theorem dX10_refuse_24 : decode cX10_refuse 24 = .ok (.goto 4, 3) := by decide +kernel
theorem dX10_start_0 : decode cX10_start 0 = .ok (.aload_n 0, 1) := by decide +kernel
theorem dX10_start_1 : decode cX10_start 1 = .ok (.iconst 0, 1) := by decide +kernel
theorem dX10_start_2 : decode cX10_start 2 = .ok (.putfield 34, 3) := by decide +kernel
theorem dX10_start_5 : decode cX10_start 5 = .ok (.aload_n 0, 1) := by decide +kernel
theorem dX10_start_6 : decode cX10_start 6 = .ok (.iload_n 1, 1) := by decide +kernel
theorem dX10_start_7 : decode cX10_start 7 = .ok (.iload_n 2, 1) := by decide +kernel
theorem dX10_start_8 : decode cX10_start 8 = .ok (.invokevirtual 37, 3) := by decide +kernel
theorem dX10_start_11 : decode cX10_start 11 = .ok (.ireturn, 1) := by decide +kernel
theorem dX10_isNoQuestion_0 : decode cX10_isNoQuestion 0 = .ok (.iload_n 1, 1) := by decide +kernel
theorem dX10_isNoQuestion_1 : decode cX10_isNoQuestion 1 = .ok (.iconst 0, 1) := by decide +kernel
theorem dX10_isNoQuestion_2 : decode cX10_isNoQuestion 2 = .ok (.aload_n 0, 1) := by decide +kernel
theorem dX10_isNoQuestion_3 : decode cX10_isNoQuestion 3 = .ok (.getfield 10, 3) := by decide +kernel
theorem dX10_isNoQuestion_6 : decode cX10_isNoQuestion 6 = .ok (.invokevirtual 41, 3) := by decide +kernel
theorem dX10_isNoQuestion_9 : decode cX10_isNoQuestion 9 = .ok (.iconst 1, 1) := by decide +kernel
theorem dX10_isNoQuestion_10 : decode cX10_isNoQuestion 10 = .ok (.isub, 1) := by decide +kernel
theorem dX10_isNoQuestion_11 : decode cX10_isNoQuestion 11 = .ok (.invokestatic 45, 3) := by decide +kernel
theorem dX10_isNoQuestion_14 : decode cX10_isNoQuestion 14 = .ok (.ifCond .ne 7, 3) := by decide +kernel
theorem dX10_isNoQuestion_17 : decode cX10_isNoQuestion 17 = .ok (.iconst 1, 1) := by decide +kernel
theorem dX10_isNoQuestion_18 : decode cX10_isNoQuestion 18 = .ok (.goto 4, 3) := by decide +kernel
theorem dX10_isNoQuestion_22 : decode cX10_isNoQuestion 22 = .ok (.ireturn, 1) := by decide +kernel
theorem dX10_isNoAnswer_0 : decode cX10_isNoAnswer 0 = .ok (.aload_n 0, 1) := by decide +kernel
theorem dX10_isNoAnswer_1 : decode cX10_isNoAnswer 1 = .ok (.iload_n 1, 1) := by decide +kernel
theorem dX10_isNoAnswer_2 : decode cX10_isNoAnswer 2 = .ok (.invokevirtual 49, 3) := by decide +kernel
theorem dX10_isNoAnswer_5 : decode cX10_isNoAnswer 5 = .ok (.ifCond .ne 28, 3) := by decide +kernel
theorem dX10_isNoAnswer_33 : decode cX10_isNoAnswer 33 = .ok (.iconst 1, 1) := by decide +kernel
theorem dX10_isNoAnswer_34 : decode cX10_isNoAnswer 34 = .ok (.goto 4, 3) := by decide +kernel
theorem dX10_isNoAnswer_38 : decode cX10_isNoAnswer 38 = .ok (.ireturn, 1) := by decide +kernel
theorem dX10_isNoPerson_0 : decode cX10_isNoPerson 0 = .ok (.aload_n 0, 1) := by decide +kernel
theorem dX10_isNoPerson_1 : decode cX10_isNoPerson 1 = .ok (.iload_n 1, 1) := by decide +kernel
theorem dX10_isNoPerson_2 : decode cX10_isNoPerson 2 = .ok (.iconst 0, 1) := by decide +kernel
theorem dX10_isNoPerson_3 : decode cX10_isNoPerson 3 = .ok (.aload_n 0, 1) := by decide +kernel
theorem dX10_isNoPerson_4 : decode cX10_isNoPerson 4 = .ok (.getfield 16, 3) := by decide +kernel
theorem dX10_isNoPerson_7 : decode cX10_isNoPerson 7 = .ok (.invokevirtual 41, 3) := by decide +kernel
theorem dX10_isNoPerson_10 : decode cX10_isNoPerson 10 = .ok (.iconst 1, 1) := by decide +kernel
theorem dX10_isNoPerson_11 : decode cX10_isNoPerson 11 = .ok (.isub, 1) := by decide +kernel
theorem dX10_isNoPerson_12 : decode cX10_isNoPerson 12 = .ok (.invokestatic 45, 3) := by decide +kernel
theorem dX10_isNoPerson_15 : decode cX10_isNoPerson 15 = .ok (.ifCond .ne 7, 3) := by decide +kernel
theorem dX10_isNoPerson_18 : decode cX10_isNoPerson 18 = .ok (.iconst 1, 1) := by decide +kernel
theorem dX10_isNoPerson_19 : decode cX10_isNoPerson 19 = .ok (.goto 4, 3) := by decide +kernel
theorem dX10_isNoPerson_23 : decode cX10_isNoPerson 23 = .ok (.iconst 1, 1) := by decide +kernel
theorem dX10_isNoPerson_24 : decode cX10_isNoPerson 24 = .ok (.invokevirtual 63, 3) := by decide +kernel
theorem dX10_isNoPerson_27 : decode cX10_isNoPerson 27 = .ok (.ireturn, 1) := by decide +kernel
theorem dX10_isNoInterview_0 : decode cX10_isNoInterview 0 = .ok (.aload_n 0, 1) := by decide +kernel
theorem dX10_isNoInterview_1 : decode cX10_isNoInterview 1 = .ok (.iload_n 1, 1) := by decide +kernel
theorem dX10_isNoInterview_2 : decode cX10_isNoInterview 2 = .ok (.iconst 0, 1) := by decide +kernel
theorem dX10_isNoInterview_3 : decode cX10_isNoInterview 3 = .ok (.aload_n 0, 1) := by decide +kernel
theorem dX10_isNoInterview_4 : decode cX10_isNoInterview 4 = .ok (.getfield 19, 3) := by decide +kernel
theorem dX10_isNoInterview_7 : decode cX10_isNoInterview 7 = .ok (.invokevirtual 41, 3) := by decide +kernel
theorem dX10_isNoInterview_10 : decode cX10_isNoInterview 10 = .ok (.iconst 1, 1) := by decide +kernel
theorem dX10_isNoInterview_11 : decode cX10_isNoInterview 11 = .ok (.isub, 1) := by decide +kernel
theorem dX10_isNoInterview_12 : decode cX10_isNoInterview 12 = .ok (.invokestatic 45, 3) := by decide +kernel
theorem dX10_isNoInterview_15 : decode cX10_isNoInterview 15 = .ok (.ifCond .ne 7, 3) := by decide +kernel
theorem dX10_isNoInterview_18 : decode cX10_isNoInterview 18 = .ok (.iconst 1, 1) := by decide +kernel
theorem dX10_isNoInterview_19 : decode cX10_isNoInterview 19 = .ok (.goto 4, 3) := by decide +kernel
theorem dX10_isNoInterview_23 : decode cX10_isNoInterview 23 = .ok (.iconst 1, 1) := by decide +kernel
theorem dX10_isNoInterview_24 : decode cX10_isNoInterview 24 = .ok (.invokevirtual 63, 3) := by decide +kernel
theorem dX10_isNoInterview_27 : decode cX10_isNoInterview 27 = .ok (.ireturn, 1) := by decide +kernel
theorem dX10_filled_0 : decode cX10_filled 0 = .ok (.iconst 3, 1) := by decide +kernel
theorem dX10_filled_1 : decode cX10_filled 1 = .ok (.iconst 2, 1) := by decide +kernel
theorem dX10_filled_2 : decode cX10_filled 2 = .ok (.multianewarray 22 2, 4) := by decide +kernel
theorem dX10_filled_6 : decode cX10_filled 6 = .ok (.astore_n 2, 1) := by decide +kernel
theorem dX10_filled_7 : decode cX10_filled 7 = .ok (.aload_n 0, 1) := by decide +kernel
theorem dX10_filled_8 : decode cX10_filled 8 = .ok (.getfield 19, 3) := by decide +kernel
theorem dX10_filled_11 : decode cX10_filled 11 = .ok (.invokevirtual 109, 3) := by decide +kernel
theorem dX10_filled_14 : decode cX10_filled 14 = .ok (.astore_n 3, 1) := by decide +kernel
theorem dX10_filled_15 : decode cX10_filled 15 = .ok (.aload_n 3, 1) := by decide +kernel
theorem dX10_filled_16 : decode cX10_filled 16 = .ok (.invokeinterface 113 1, 5) := by decide +kernel
theorem dX10_filled_21 : decode cX10_filled 21 = .ok (.ifCond .eq 63, 3) := by decide +kernel
theorem dX10_filled_84 : decode cX10_filled 84 = .ok (.aload_n 2, 1) := by decide +kernel
theorem dX10_filled_85 : decode cX10_filled 85 = .ok (.areturn, 1) := by decide +kernel
theorem dX10_sum_0 : decode cX10_sum 0 = .ok (.iconst 0, 1) := by decide +kernel
theorem dX10_sum_1 : decode cX10_sum 1 = .ok (.istore_n 1, 1) := by decide +kernel
theorem dX10_sum_2 : decode cX10_sum 2 = .ok (.aload_n 0, 1) := by decide +kernel
theorem dX10_sum_3 : decode cX10_sum 3 = .ok (.astore_n 2, 1) := by decide +kernel
theorem dX10_sum_4 : decode cX10_sum 4 = .ok (.aload_n 2, 1) := by decide +kernel
theorem dX10_sum_5 : decode cX10_sum 5 = .ok (.arraylength, 1) := by decide +kernel
theorem dX10_sum_6 : decode cX10_sum 6 = .ok (.istore_n 3, 1) := by decide +kernel
theorem dX10_sum_7 : decode cX10_sum 7 = .ok (.iconst 0, 1) := by decide +kernel
theorem dX10_sum_8 : decode cX10_sum 8 = .ok (.istore 4, 2) := by decide +kernel
theorem dX10_sum_10 : decode cX10_sum 10 = .ok (.iload 4, 2) := by decide +kernel
theorem dX10_sum_12 : decode cX10_sum 12 = .ok (.iload_n 3, 1) := by decide +kernel
theorem dX10_sum_13 : decode cX10_sum 13 = .ok (.if_icmp .ge 52, 3) := by decide +kernel
theorem dX10_sum_16 : decode cX10_sum 16 = .ok (.aload_n 2, 1) := by decide +kernel
theorem dX10_sum_17 : decode cX10_sum 17 = .ok (.iload 4, 2) := by decide +kernel
theorem dX10_sum_19 : decode cX10_sum 19 = .ok (.aaload, 1) := by decide +kernel
theorem dX10_sum_20 : decode cX10_sum 20 = .ok (.astore 5, 2) := by decide +kernel
theorem dX10_sum_22 : decode cX10_sum 22 = .ok (.aload 5, 2) := by decide +kernel
theorem dX10_sum_24 : decode cX10_sum 24 = .ok (.astore 6, 2) := by decide +kernel
theorem dX10_sum_26 : decode cX10_sum 26 = .ok (.aload 6, 2) := by decide +kernel
theorem dX10_sum_28 : decode cX10_sum 28 = .ok (.arraylength, 1) := by decide +kernel
theorem dX10_sum_29 : decode cX10_sum 29 = .ok (.istore 7, 2) := by decide +kernel
theorem dX10_sum_31 : decode cX10_sum 31 = .ok (.iconst 0, 1) := by decide +kernel
theorem dX10_sum_32 : decode cX10_sum 32 = .ok (.istore 8, 2) := by decide +kernel
theorem dX10_sum_34 : decode cX10_sum 34 = .ok (.iload 8, 2) := by decide +kernel
theorem dX10_sum_36 : decode cX10_sum 36 = .ok (.iload 7, 2) := by decide +kernel
theorem dX10_sum_38 : decode cX10_sum 38 = .ok (.if_icmp .ge 21, 3) := by decide +kernel
theorem dX10_sum_41 : decode cX10_sum 41 = .ok (.aload 6, 2) := by decide +kernel
theorem dX10_sum_43 : decode cX10_sum 43 = .ok (.iload 8, 2) := by decide +kernel
theorem dX10_sum_45 : decode cX10_sum 45 = .ok (.iaload, 1) := by decide +kernel
theorem dX10_sum_46 : decode cX10_sum 46 = .ok (.istore 9, 2) := by decide +kernel
theorem dX10_sum_48 : decode cX10_sum 48 = .ok (.iload_n 1, 1) := by decide +kernel
theorem dX10_sum_49 : decode cX10_sum 49 = .ok (.iload 9, 2) := by decide +kernel
theorem dX10_sum_51 : decode cX10_sum 51 = .ok (.iadd, 1) := by decide +kernel
theorem dX10_sum_52 : decode cX10_sum 52 = .ok (.istore_n 1, 1) := by decide +kernel
theorem dX10_sum_53 : decode cX10_sum 53 = .ok (.iinc 8 1, 3) := by decide +kernel
theorem dX10_sum_56 : decode cX10_sum 56 = .ok (.goto (-22), 3) := by decide +kernel
theorem dX10_sum_59 : decode cX10_sum 59 = .ok (.iinc 4 1, 3) := by decide +kernel
theorem dX10_sum_62 : decode cX10_sum 62 = .ok (.goto (-52), 3) := by decide +kernel
theorem dX10_sum_65 : decode cX10_sum 65 = .ok (.iload_n 1, 1) := by decide +kernel
theorem dX10_sum_66 : decode cX10_sum 66 = .ok (.ireturn, 1) := by decide +kernel
theorem dX10_isOpen_0 : decode cX10_isOpen 0 = .ok (.aload_n 1, 1) := by decide +kernel
theorem dX10_isOpen_1 : decode cX10_isOpen 1 = .ok (.iload_n 2, 1) := by decide +kernel
theorem dX10_isOpen_2 : decode cX10_isOpen 2 = .ok (.aaload, 1) := by decide +kernel
theorem dX10_isOpen_3 : decode cX10_isOpen 3 = .ok (.iload_n 3, 1) := by decide +kernel
theorem dX10_isOpen_4 : decode cX10_isOpen 4 = .ok (.iaload, 1) := by decide +kernel
theorem dX10_isOpen_5 : decode cX10_isOpen 5 = .ok (.istore 4, 2) := by decide +kernel
theorem dX10_isOpen_7 : decode cX10_isOpen 7 = .ok (.iload 4, 2) := by decide +kernel
theorem dX10_isOpen_9 : decode cX10_isOpen 9 = .ok (.aload_n 0, 1) := by decide +kernel
theorem dX10_isOpen_10 : decode cX10_isOpen 10 = .ok (.getfield 24, 3) := by decide +kernel
theorem dX10_isOpen_13 : decode cX10_isOpen 13 = .ok (.iload_n 2, 1) := by decide +kernel
theorem dX10_isOpen_14 : decode cX10_isOpen 14 = .ok (.aaload, 1) := by decide +kernel
theorem dX10_isOpen_15 : decode cX10_isOpen 15 = .ok (.iload_n 3, 1) := by decide +kernel
theorem dX10_isOpen_16 : decode cX10_isOpen 16 = .ok (.iaload, 1) := by decide +kernel
theorem dX10_isOpen_17 : decode cX10_isOpen 17 = .ok (.if_icmp .lt 35, 3) := by decide +kernel
theorem dX10_isOpen_20 : decode cX10_isOpen 20 = .ok (.iload 4, 2) := by decide +kernel
theorem dX10_isOpen_22 : decode cX10_isOpen 22 = .ok (.aload_n 0, 1) := by decide +kernel
theorem dX10_isOpen_23 : decode cX10_isOpen 23 = .ok (.getfield 24, 3) := by decide +kernel
theorem dX10_isOpen_26 : decode cX10_isOpen 26 = .ok (.iload_n 2, 1) := by decide +kernel
theorem dX10_isOpen_27 : decode cX10_isOpen 27 = .ok (.aaload, 1) := by decide +kernel
theorem dX10_isOpen_28 : decode cX10_isOpen 28 = .ok (.iload_n 3, 1) := by decide +kernel
theorem dX10_isOpen_29 : decode cX10_isOpen 29 = .ok (.iaload, 1) := by decide +kernel
theorem dX10_isOpen_30 : decode cX10_isOpen 30 = .ok (.aload_n 0, 1) := by decide +kernel
theorem dX10_isOpen_31 : decode cX10_isOpen 31 = .ok (.getfield 101, 3) := by decide +kernel
theorem dX10_isOpen_34 : decode cX10_isOpen 34 = .ok (.iadd, 1) := by decide +kernel
theorem dX10_isOpen_35 : decode cX10_isOpen 35 = .ok (.if_icmp .ge 21, 3) := by decide +kernel
theorem dX10_isOpen_56 : decode cX10_isOpen 56 = .ok (.iconst 0, 1) := by decide +kernel
theorem dX10_isOpen_57 : decode cX10_isOpen 57 = .ok (.ireturn, 1) := by decide +kernel
theorem dX10_open_0 : decode cX10_open 0 = .ok (.iconst 0, 1) := by decide +kernel
theorem dX10_open_1 : decode cX10_open 1 = .ok (.istore_n 2, 1) := by decide +kernel
theorem dX10_open_2 : decode cX10_open 2 = .ok (.iconst 0, 1) := by decide +kernel
theorem dX10_open_3 : decode cX10_open 3 = .ok (.istore_n 3, 1) := by decide +kernel
theorem dX10_open_4 : decode cX10_open 4 = .ok (.iload_n 3, 1) := by decide +kernel
theorem dX10_open_5 : decode cX10_open 5 = .ok (.iconst 3, 1) := by decide +kernel
theorem dX10_open_6 : decode cX10_open 6 = .ok (.if_icmp .ge 43, 3) := by decide +kernel
theorem dX10_open_9 : decode cX10_open 9 = .ok (.iconst 0, 1) := by decide +kernel
theorem dX10_open_10 : decode cX10_open 10 = .ok (.istore 4, 2) := by decide +kernel
theorem dX10_open_12 : decode cX10_open 12 = .ok (.iload 4, 2) := by decide +kernel
theorem dX10_open_14 : decode cX10_open 14 = .ok (.iconst 2, 1) := by decide +kernel
theorem dX10_open_15 : decode cX10_open 15 = .ok (.if_icmp .ge 28, 3) := by decide +kernel
theorem dX10_open_18 : decode cX10_open 18 = .ok (.iload_n 2, 1) := by decide +kernel
theorem dX10_open_19 : decode cX10_open 19 = .ok (.aload_n 0, 1) := by decide +kernel
theorem dX10_open_20 : decode cX10_open 20 = .ok (.aload_n 1, 1) := by decide +kernel
theorem dX10_open_21 : decode cX10_open 21 = .ok (.iload_n 3, 1) := by decide +kernel
theorem dX10_open_22 : decode cX10_open 22 = .ok (.iload 4, 2) := by decide +kernel
theorem dX10_open_24 : decode cX10_open 24 = .ok (.invokevirtual 152, 3) := by decide +kernel
theorem dX10_open_27 : decode cX10_open 27 = .ok (.ifCond .eq 7, 3) := by decide +kernel
theorem dX10_open_34 : decode cX10_open 34 = .ok (.iconst 0, 1) := by decide +kernel
theorem dX10_open_35 : decode cX10_open 35 = .ok (.iadd, 1) := by decide +kernel
theorem dX10_open_36 : decode cX10_open 36 = .ok (.istore_n 2, 1) := by decide +kernel
theorem dX10_open_37 : decode cX10_open 37 = .ok (.iinc 4 1, 3) := by decide +kernel
theorem dX10_open_40 : decode cX10_open 40 = .ok (.goto (-28), 3) := by decide +kernel
theorem dX10_open_43 : decode cX10_open 43 = .ok (.iinc 3 1, 3) := by decide +kernel
theorem dX10_open_46 : decode cX10_open 46 = .ok (.goto (-42), 3) := by decide +kernel
theorem dX10_open_49 : decode cX10_open 49 = .ok (.iload_n 2, 1) := by decide +kernel
theorem dX10_open_50 : decode cX10_open 50 = .ok (.ireturn, 1) := by decide +kernel
theorem dX10_in_0 : decode cX10_in 0 = .ok (.iconst 0, 1) := by decide +kernel
theorem dX10_in_1 : decode cX10_in 1 = .ok (.istore_n 2, 1) := by decide +kernel
theorem dX10_in_2 : decode cX10_in 2 = .ok (.aload_n 0, 1) := by decide +kernel
theorem dX10_in_3 : decode cX10_in 3 = .ok (.getfield 19, 3) := by decide +kernel
theorem dX10_in_6 : decode cX10_in 6 = .ok (.invokevirtual 109, 3) := by decide +kernel
theorem dX10_in_9 : decode cX10_in 9 = .ok (.astore_n 3, 1) := by decide +kernel
theorem dX10_in_10 : decode cX10_in 10 = .ok (.aload_n 3, 1) := by decide +kernel
theorem dX10_in_11 : decode cX10_in 11 = .ok (.invokeinterface 113 1, 5) := by decide +kernel
theorem dX10_in_16 : decode cX10_in 16 = .ok (.ifCond .eq 34, 3) := by decide +kernel
theorem dX10_in_50 : decode cX10_in 50 = .ok (.iload_n 2, 1) := by decide +kernel
theorem dX10_in_51 : decode cX10_in 51 = .ok (.ireturn, 1) := by decide +kernel
theorem dX10_dirty_0 : decode cX10_dirty 0 = .ok (.iconst 0, 1) := by decide +kernel
theorem dX10_dirty_1 : decode cX10_dirty 1 = .ok (.istore_n 1, 1) := by decide +kernel
theorem dX10_dirty_2 : decode cX10_dirty 2 = .ok (.aload_n 0, 1) := by decide +kernel
theorem dX10_dirty_3 : decode cX10_dirty 3 = .ok (.getfield 19, 3) := by decide +kernel
theorem dX10_dirty_6 : decode cX10_dirty 6 = .ok (.invokevirtual 109, 3) := by decide +kernel
theorem dX10_dirty_9 : decode cX10_dirty 9 = .ok (.astore_n 2, 1) := by decide +kernel
theorem dX10_dirty_10 : decode cX10_dirty 10 = .ok (.aload_n 2, 1) := by decide +kernel
theorem dX10_dirty_11 : decode cX10_dirty 11 = .ok (.invokeinterface 113 1, 5) := by decide +kernel
theorem dX10_dirty_16 : decode cX10_dirty 16 = .ok (.ifCond .eq 31, 3) := by decide +kernel
theorem dX10_dirty_47 : decode cX10_dirty 47 = .ok (.iload_n 1, 1) := by decide +kernel
theorem dX10_dirty_48 : decode cX10_dirty 48 = .ok (.ireturn, 1) := by decide +kernel
theorem dX10_count_0 : decode cX10_count 0 = .ok (.iconst 0, 1) := by decide +kernel
theorem dX10_count_1 : decode cX10_count 1 = .ok (.istore_n 2, 1) := by decide +kernel
theorem dX10_count_2 : decode cX10_count 2 = .ok (.iconst 0, 1) := by decide +kernel
theorem dX10_count_3 : decode cX10_count 3 = .ok (.istore_n 3, 1) := by decide +kernel
theorem dX10_count_4 : decode cX10_count 4 = .ok (.iconst 0, 1) := by decide +kernel
theorem dX10_count_5 : decode cX10_count 5 = .ok (.istore 4, 2) := by decide +kernel
theorem dX10_count_7 : decode cX10_count 7 = .ok (.iload 4, 2) := by decide +kernel
theorem dX10_count_9 : decode cX10_count 9 = .ok (.aload_n 0, 1) := by decide +kernel
theorem dX10_count_10 : decode cX10_count 10 = .ok (.getfield 16, 3) := by decide +kernel
theorem dX10_count_13 : decode cX10_count 13 = .ok (.invokevirtual 41, 3) := by decide +kernel
theorem dX10_count_16 : decode cX10_count 16 = .ok (.if_icmp .ge 45, 3) := by decide +kernel
theorem dX10_count_61 : decode cX10_count 61 = .ok (.bipush 12, 2) := by decide +kernel
theorem dX10_count_63 : decode cX10_count 63 = .ok (.newarray .int, 2) := by decide +kernel
theorem dX10_count_65 : decode cX10_count 65 = .ok (.dup, 1) := by decide +kernel
theorem dX10_count_66 : decode cX10_count 66 = .ok (.iconst 0, 1) := by decide +kernel
theorem dX10_count_67 : decode cX10_count 67 = .ok (.aload_n 0, 1) := by decide +kernel
theorem dX10_count_68 : decode cX10_count 68 = .ok (.getfield 10, 3) := by decide +kernel
theorem dX10_count_71 : decode cX10_count 71 = .ok (.invokevirtual 41, 3) := by decide +kernel
theorem dX10_count_74 : decode cX10_count 74 = .ok (.iastore, 1) := by decide +kernel
theorem dX10_count_75 : decode cX10_count 75 = .ok (.dup, 1) := by decide +kernel
theorem dX10_count_76 : decode cX10_count 76 = .ok (.iconst 1, 1) := by decide +kernel
theorem dX10_count_77 : decode cX10_count 77 = .ok (.aload_n 0, 1) := by decide +kernel
theorem dX10_count_78 : decode cX10_count 78 = .ok (.getfield 16, 3) := by decide +kernel
theorem dX10_count_81 : decode cX10_count 81 = .ok (.invokevirtual 41, 3) := by decide +kernel
theorem dX10_count_84 : decode cX10_count 84 = .ok (.iastore, 1) := by decide +kernel
theorem dX10_count_85 : decode cX10_count 85 = .ok (.dup, 1) := by decide +kernel
theorem dX10_count_86 : decode cX10_count 86 = .ok (.iconst 2, 1) := by decide +kernel
theorem dX10_count_87 : decode cX10_count 87 = .ok (.aload_n 0, 1) := by decide +kernel
theorem dX10_count_88 : decode cX10_count 88 = .ok (.iconst 0, 1) := by decide +kernel
theorem dX10_count_89 : decode cX10_count 89 = .ok (.invokevirtual 255, 3) := by decide +kernel
theorem dX10_count_92 : decode cX10_count 92 = .ok (.iastore, 1) := by decide +kernel
theorem dX10_count_93 : decode cX10_count 93 = .ok (.dup, 1) := by decide +kernel
theorem dX10_count_94 : decode cX10_count 94 = .ok (.iconst 3, 1) := by decide +kernel
theorem dX10_count_95 : decode cX10_count 95 = .ok (.aload_n 0, 1) := by decide +kernel
theorem dX10_count_96 : decode cX10_count 96 = .ok (.iconst 1, 1) := by decide +kernel
theorem dX10_count_97 : decode cX10_count 97 = .ok (.invokevirtual 255, 3) := by decide +kernel
theorem dX10_count_100 : decode cX10_count 100 = .ok (.iastore, 1) := by decide +kernel
theorem dX10_count_101 : decode cX10_count 101 = .ok (.dup, 1) := by decide +kernel
theorem dX10_count_102 : decode cX10_count 102 = .ok (.iconst 4, 1) := by decide +kernel
theorem dX10_count_103 : decode cX10_count 103 = .ok (.aload_n 0, 1) := by decide +kernel
theorem dX10_count_104 : decode cX10_count 104 = .ok (.iconst 2, 1) := by decide +kernel
theorem dX10_count_105 : decode cX10_count 105 = .ok (.invokevirtual 255, 3) := by decide +kernel
theorem dX10_count_108 : decode cX10_count 108 = .ok (.iastore, 1) := by decide +kernel
theorem dX10_count_109 : decode cX10_count 109 = .ok (.dup, 1) := by decide +kernel
theorem dX10_count_110 : decode cX10_count 110 = .ok (.iconst 5, 1) := by decide +kernel
theorem dX10_count_111 : decode cX10_count 111 = .ok (.aload_n 0, 1) := by decide +kernel
theorem dX10_count_112 : decode cX10_count 112 = .ok (.iconst 3, 1) := by decide +kernel
theorem dX10_count_113 : decode cX10_count 113 = .ok (.invokevirtual 255, 3) := by decide +kernel
theorem dX10_count_116 : decode cX10_count 116 = .ok (.iastore, 1) := by decide +kernel
theorem dX10_count_117 : decode cX10_count 117 = .ok (.dup, 1) := by decide +kernel
theorem dX10_count_118 : decode cX10_count 118 = .ok (.bipush 6, 2) := by decide +kernel
theorem dX10_count_120 : decode cX10_count 120 = .ok (.aload_n 0, 1) := by decide +kernel
theorem dX10_count_121 : decode cX10_count 121 = .ok (.getfield 24, 3) := by decide +kernel
theorem dX10_count_124 : decode cX10_count 124 = .ok (.invokestatic 138, 3) := by decide +kernel
theorem dX10_count_127 : decode cX10_count 127 = .ok (.iastore, 1) := by decide +kernel
theorem dX10_count_128 : decode cX10_count 128 = .ok (.dup, 1) := by decide +kernel
theorem dX10_count_129 : decode cX10_count 129 = .ok (.bipush 7, 2) := by decide +kernel
theorem dX10_count_131 : decode cX10_count 131 = .ok (.aload_n 0, 1) := by decide +kernel
theorem dX10_count_132 : decode cX10_count 132 = .ok (.aload_n 0, 1) := by decide +kernel
theorem dX10_count_133 : decode cX10_count 133 = .ok (.iconst 0, 1) := by decide +kernel
theorem dX10_count_134 : decode cX10_count 134 = .ok (.invokevirtual 148, 3) := by decide +kernel
theorem dX10_count_137 : decode cX10_count 137 = .ok (.invokevirtual 258, 3) := by decide +kernel
theorem dX10_count_140 : decode cX10_count 140 = .ok (.iastore, 1) := by decide +kernel
theorem dX10_count_141 : decode cX10_count 141 = .ok (.dup, 1) := by decide +kernel
theorem dX10_count_142 : decode cX10_count 142 = .ok (.bipush 8, 2) := by decide +kernel
theorem dX10_count_144 : decode cX10_count 144 = .ok (.iload_n 2, 1) := by decide +kernel
theorem dX10_count_145 : decode cX10_count 145 = .ok (.iastore, 1) := by decide +kernel
theorem dX10_count_146 : decode cX10_count 146 = .ok (.dup, 1) := by decide +kernel
theorem dX10_count_147 : decode cX10_count 147 = .ok (.bipush 9, 2) := by decide +kernel
theorem dX10_count_149 : decode cX10_count 149 = .ok (.iload_n 3, 1) := by decide +kernel
theorem dX10_count_150 : decode cX10_count 150 = .ok (.iastore, 1) := by decide +kernel
theorem dX10_count_151 : decode cX10_count 151 = .ok (.dup, 1) := by decide +kernel
theorem dX10_count_152 : decode cX10_count 152 = .ok (.bipush 10, 2) := by decide +kernel
theorem dX10_count_154 : decode cX10_count 154 = .ok (.aload_n 0, 1) := by decide +kernel
theorem dX10_count_155 : decode cX10_count 155 = .ok (.getfield 27, 3) := by decide +kernel
theorem dX10_count_158 : decode cX10_count 158 = .ok (.invokevirtual 41, 3) := by decide +kernel
theorem dX10_count_161 : decode cX10_count 161 = .ok (.iastore, 1) := by decide +kernel
theorem dX10_count_162 : decode cX10_count 162 = .ok (.dup, 1) := by decide +kernel
theorem dX10_count_163 : decode cX10_count 163 = .ok (.bipush 11, 2) := by decide +kernel
theorem dX10_count_165 : decode cX10_count 165 = .ok (.aload_n 0, 1) := by decide +kernel
theorem dX10_count_166 : decode cX10_count 166 = .ok (.getfield 193, 3) := by decide +kernel
theorem dX10_count_169 : decode cX10_count 169 = .ok (.iastore, 1) := by decide +kernel
theorem dX10_count_170 : decode cX10_count 170 = .ok (.astore 4, 2) := by decide +kernel
theorem dX10_count_172 : decode cX10_count 172 = .ok (.aload 4, 2) := by decide +kernel
theorem dX10_count_174 : decode cX10_count 174 = .ok (.iload_n 1, 1) := by decide +kernel
theorem dX10_count_175 : decode cX10_count 175 = .ok (.iaload, 1) := by decide +kernel
theorem dX10_count_176 : decode cX10_count 176 = .ok (.ireturn, 1) := by decide +kernel
theorem dX10_ofCellNow_0 : decode cX10_ofCellNow 0 = .ok (.aload_n 0, 1) := by decide +kernel
theorem dX10_ofCellNow_1 : decode cX10_ofCellNow 1 = .ok (.iconst 0, 1) := by decide +kernel
theorem dX10_ofCellNow_2 : decode cX10_ofCellNow 2 = .ok (.invokevirtual 148, 3) := by decide +kernel
theorem dX10_ofCellNow_5 : decode cX10_ofCellNow 5 = .ok (.astore 4, 2) := by decide +kernel
theorem dX10_ofCellNow_7 : decode cX10_ofCellNow 7 = .ok (.iload_n 3, 1) := by decide +kernel
theorem dX10_ofCellNow_8 : decode cX10_ofCellNow 8 = .ok (.ifCond .ne 12, 3) := by decide +kernel
theorem dX10_ofCellNow_20 : decode cX10_ofCellNow 20 = .ok (.iload_n 3, 1) := by decide +kernel
theorem dX10_ofCellNow_21 : decode cX10_ofCellNow 21 = .ok (.iconst 1, 1) := by decide +kernel
theorem dX10_ofCellNow_22 : decode cX10_ofCellNow 22 = .ok (.if_icmp .ne 10, 3) := by decide +kernel
theorem dX10_ofCellNow_32 : decode cX10_ofCellNow 32 = .ok (.iload_n 3, 1) := by decide +kernel
theorem dX10_ofCellNow_33 : decode cX10_ofCellNow 33 = .ok (.iconst 2, 1) := by decide +kernel
theorem dX10_ofCellNow_34 : decode cX10_ofCellNow 34 = .ok (.if_icmp .ne 20, 3) := by decide +kernel
theorem dX10_ofCellNow_54 : decode cX10_ofCellNow 54 = .ok (.iconst 0, 1) := by decide +kernel
theorem dX10_ofCellNow_55 : decode cX10_ofCellNow 55 = .ok (.istore 5, 2) := by decide +kernel
theorem dX10_ofCellNow_57 : decode cX10_ofCellNow 57 = .ok (.iconst 0, 1) := by decide +kernel
theorem dX10_ofCellNow_58 : decode cX10_ofCellNow 58 = .ok (.istore 6, 2) := by decide +kernel
theorem dX10_ofCellNow_60 : decode cX10_ofCellNow 60 = .ok (.iload 6, 2) := by decide +kernel
theorem dX10_ofCellNow_62 : decode cX10_ofCellNow 62 = .ok (.aload_n 0, 1) := by decide +kernel
theorem dX10_ofCellNow_63 : decode cX10_ofCellNow 63 = .ok (.getfield 16, 3) := by decide +kernel
theorem dX10_ofCellNow_66 : decode cX10_ofCellNow 66 = .ok (.invokevirtual 41, 3) := by decide +kernel
theorem dX10_ofCellNow_69 : decode cX10_ofCellNow 69 = .ok (.if_icmp .ge 54, 3) := by decide +kernel
theorem dX10_ofCellNow_123 : decode cX10_ofCellNow 123 = .ok (.iload 5, 2) := by decide +kernel
theorem dX10_ofCellNow_125 : decode cX10_ofCellNow 125 = .ok (.ireturn, 1) := by decide +kernel
theorem dX10_ofCellNow_37 : decode cX10_ofCellNow 37 = .ok (.aload_n 0, 1) := by decide +kernel
theorem dX10_ofCellNow_38 : decode cX10_ofCellNow 38 = .ok (.aload 4, 2) := by decide +kernel
theorem dX10_ofCellNow_40 : decode cX10_ofCellNow 40 = .ok (.iload_n 1, 1) := by decide +kernel
theorem dX10_ofCellNow_41 : decode cX10_ofCellNow 41 = .ok (.iload_n 2, 1) := by decide +kernel
theorem dX10_ofCellNow_42 : decode cX10_ofCellNow 42 = .ok (.invokevirtual 152, 3) := by decide +kernel
theorem dX10_ofCellNow_45 : decode cX10_ofCellNow 45 = .ok (.ifCond .eq 7, 3) := by decide +kernel
theorem dX10_ofCellNow_52 : decode cX10_ofCellNow 52 = .ok (.iconst 0, 1) := by decide +kernel
theorem dX10_ofCellNow_53 : decode cX10_ofCellNow 53 = .ok (.ireturn, 1) := by decide +kernel
theorem dX10_ofCellNow_25 : decode cX10_ofCellNow 25 = .ok (.aload 4, 2) := by decide +kernel
theorem dX10_ofCellNow_27 : decode cX10_ofCellNow 27 = .ok (.iload_n 1, 1) := by decide +kernel
theorem dX10_ofCellNow_28 : decode cX10_ofCellNow 28 = .ok (.aaload, 1) := by decide +kernel
theorem dX10_ofCellNow_29 : decode cX10_ofCellNow 29 = .ok (.iload_n 2, 1) := by decide +kernel
theorem dX10_ofCellNow_30 : decode cX10_ofCellNow 30 = .ok (.iaload, 1) := by decide +kernel
theorem dX10_ofCellNow_31 : decode cX10_ofCellNow 31 = .ok (.ireturn, 1) := by decide +kernel
theorem dX10_ofCellNow_11 : decode cX10_ofCellNow 11 = .ok (.aload_n 0, 1) := by decide +kernel
theorem dX10_ofCellNow_12 : decode cX10_ofCellNow 12 = .ok (.getfield 24, 3) := by decide +kernel
theorem dX10_ofCellNow_15 : decode cX10_ofCellNow 15 = .ok (.iload_n 1, 1) := by decide +kernel
theorem dX10_ofCellNow_16 : decode cX10_ofCellNow 16 = .ok (.aaload, 1) := by decide +kernel
theorem dX10_ofCellNow_17 : decode cX10_ofCellNow 17 = .ok (.iload_n 2, 1) := by decide +kernel
theorem dX10_ofCellNow_18 : decode cX10_ofCellNow 18 = .ok (.iaload, 1) := by decide +kernel
theorem dX10_ofCellNow_19 : decode cX10_ofCellNow 19 = .ok (.ireturn, 1) := by decide +kernel
theorem dX10_nextNow_0 : decode cX10_nextNow 0 = .ok (.iconst (-1), 1) := by decide +kernel
theorem dX10_nextNow_1 : decode cX10_nextNow 1 = .ok (.istore_n 2, 1) := by decide +kernel
theorem dX10_nextNow_2 : decode cX10_nextNow 2 = .ok (.iconst 0, 1) := by decide +kernel
theorem dX10_nextNow_3 : decode cX10_nextNow 3 = .ok (.istore_n 3, 1) := by decide +kernel
theorem dX10_nextNow_4 : decode cX10_nextNow 4 = .ok (.iload_n 3, 1) := by decide +kernel
theorem dX10_nextNow_5 : decode cX10_nextNow 5 = .ok (.aload_n 0, 1) := by decide +kernel
theorem dX10_nextNow_6 : decode cX10_nextNow 6 = .ok (.getfield 16, 3) := by decide +kernel
theorem dX10_nextNow_9 : decode cX10_nextNow 9 = .ok (.invokevirtual 41, 3) := by decide +kernel
theorem dX10_nextNow_12 : decode cX10_nextNow 12 = .ok (.if_icmp .ge 124, 3) := by decide +kernel
theorem dX10_nextNow_136 : decode cX10_nextNow 136 = .ok (.iload_n 2, 1) := by decide +kernel
theorem dX10_nextNow_137 : decode cX10_nextNow 137 = .ok (.ireturn, 1) := by decide +kernel
theorem dX10_sum__0 : decode cX10_sum_ 0 = .ok (.lconst 0, 1) := by decide +kernel
theorem dX10_sum__1 : decode cX10_sum_ 1 = .ok (.lstore 4, 2) := by decide +kernel
theorem dX10_sum__3 : decode cX10_sum_ 3 = .ok (.iconst 0, 1) := by decide +kernel
theorem dX10_sum__4 : decode cX10_sum_ 4 = .ok (.istore 6, 2) := by decide +kernel
theorem dX10_sum__6 : decode cX10_sum_ 6 = .ok (.iload 6, 2) := by decide +kernel
theorem dX10_sum__8 : decode cX10_sum_ 8 = .ok (.aload_n 1, 1) := by decide +kernel
theorem dX10_sum__9 : decode cX10_sum_ 9 = .ok (.arraylength, 1) := by decide +kernel
theorem dX10_sum__10 : decode cX10_sum_ 10 = .ok (.if_icmp .ge 33, 3) := by decide +kernel
theorem dX10_sum__43 : decode cX10_sum_ 43 = .ok (.lload 4, 2) := by decide +kernel
theorem dX10_sum__45 : decode cX10_sum_ 45 = .ok (.lreturn, 1) := by decide +kernel
theorem dX10_rake_0 : decode cX10_rake 0 = .ok (.aload_n 0, 1) := by decide +kernel
theorem dX10_rake_1 : decode cX10_rake 1 = .ok (.aload_n 1, 1) := by decide +kernel
theorem dX10_rake_2 : decode cX10_rake 2 = .ok (.iload_n 2, 1) := by decide +kernel
theorem dX10_rake_3 : decode cX10_rake 3 = .ok (.iload_n 3, 1) := by decide +kernel
theorem dX10_rake_4 : decode cX10_rake 4 = .ok (.invokevirtual 229, 3) := by decide +kernel
theorem dX10_rake_7 : decode cX10_rake 7 = .ok (.lstore 4, 2) := by decide +kernel
theorem dX10_rake_9 : decode cX10_rake 9 = .ok (.iconst 0, 1) := by decide +kernel
theorem dX10_rake_10 : decode cX10_rake 10 = .ok (.istore 6, 2) := by decide +kernel
theorem dX10_rake_12 : decode cX10_rake 12 = .ok (.iload 6, 2) := by decide +kernel
theorem dX10_rake_14 : decode cX10_rake 14 = .ok (.aload_n 1, 1) := by decide +kernel
theorem dX10_rake_15 : decode cX10_rake 15 = .ok (.arraylength, 1) := by decide +kernel
theorem dX10_rake_16 : decode cX10_rake 16 = .ok (.if_icmp .ge 46, 3) := by decide +kernel
theorem dX10_rake_62 : decode cX10_rake 62 = .ok (.return_, 1) := by decide +kernel
theorem dX10_weights_0 : decode cX10_weights 0 = .ok (.aload_n 0, 1) := by decide +kernel
theorem dX10_weights_1 : decode cX10_weights 1 = .ok (.getfield 19, 3) := by decide +kernel
theorem dX10_weights_4 : decode cX10_weights 4 = .ok (.invokevirtual 41, 3) := by decide +kernel
theorem dX10_weights_7 : decode cX10_weights 7 = .ok (.newarray .long, 2) := by decide +kernel
theorem dX10_weights_9 : decode cX10_weights 9 = .ok (.astore_n 2, 1) := by decide +kernel
theorem dX10_weights_10 : decode cX10_weights 10 = .ok (.iconst 0, 1) := by decide +kernel
theorem dX10_weights_11 : decode cX10_weights 11 = .ok (.istore_n 3, 1) := by decide +kernel
theorem dX10_weights_12 : decode cX10_weights 12 = .ok (.iload_n 3, 1) := by decide +kernel
theorem dX10_weights_13 : decode cX10_weights 13 = .ok (.aload_n 2, 1) := by decide +kernel
theorem dX10_weights_14 : decode cX10_weights 14 = .ok (.arraylength, 1) := by decide +kernel
theorem dX10_weights_15 : decode cX10_weights 15 = .ok (.if_icmp .ge 37, 3) := by decide +kernel
theorem dX10_weights_52 : decode cX10_weights 52 = .ok (.iconst 0, 1) := by decide +kernel
theorem dX10_weights_53 : decode cX10_weights 53 = .ok (.istore_n 3, 1) := by decide +kernel
theorem dX10_weights_54 : decode cX10_weights 54 = .ok (.iload_n 3, 1) := by decide +kernel
theorem dX10_weights_55 : decode cX10_weights 55 = .ok (.iload_n 1, 1) := by decide +kernel
theorem dX10_weights_56 : decode cX10_weights 56 = .ok (.if_icmp .ge 55, 3) := by decide +kernel
theorem dX10_weights_59 : decode cX10_weights 59 = .ok (.iconst 0, 1) := by decide +kernel
theorem dX10_weights_60 : decode cX10_weights 60 = .ok (.istore 4, 2) := by decide +kernel
theorem dX10_weights_62 : decode cX10_weights 62 = .ok (.iload 4, 2) := by decide +kernel
theorem dX10_weights_64 : decode cX10_weights 64 = .ok (.iconst 3, 1) := by decide +kernel
theorem dX10_weights_65 : decode cX10_weights 65 = .ok (.if_icmp .ge 17, 3) := by decide +kernel
theorem dX10_weights_68 : decode cX10_weights 68 = .ok (.aload_n 0, 1) := by decide +kernel
theorem dX10_weights_69 : decode cX10_weights 69 = .ok (.aload_n 2, 1) := by decide +kernel
theorem dX10_weights_70 : decode cX10_weights 70 = .ok (.iload 4, 2) := by decide +kernel
theorem dX10_weights_72 : decode cX10_weights 72 = .ok (.iconst (-1), 1) := by decide +kernel
theorem dX10_weights_73 : decode cX10_weights 73 = .ok (.invokevirtual 223, 3) := by decide +kernel
theorem dX10_weights_76 : decode cX10_weights 76 = .ok (.iinc 4 1, 3) := by decide +kernel
theorem dX10_weights_79 : decode cX10_weights 79 = .ok (.goto (-17), 3) := by decide +kernel
theorem dX10_weights_82 : decode cX10_weights 82 = .ok (.iconst 0, 1) := by decide +kernel
theorem dX10_weights_83 : decode cX10_weights 83 = .ok (.istore 4, 2) := by decide +kernel
theorem dX10_weights_85 : decode cX10_weights 85 = .ok (.iload 4, 2) := by decide +kernel
theorem dX10_weights_87 : decode cX10_weights 87 = .ok (.iconst 2, 1) := by decide +kernel
theorem dX10_weights_88 : decode cX10_weights 88 = .ok (.if_icmp .ge 17, 3) := by decide +kernel
theorem dX10_weights_91 : decode cX10_weights 91 = .ok (.aload_n 0, 1) := by decide +kernel
theorem dX10_weights_92 : decode cX10_weights 92 = .ok (.aload_n 2, 1) := by decide +kernel
theorem dX10_weights_93 : decode cX10_weights 93 = .ok (.iconst (-1), 1) := by decide +kernel
theorem dX10_weights_94 : decode cX10_weights 94 = .ok (.iload 4, 2) := by decide +kernel
theorem dX10_weights_96 : decode cX10_weights 96 = .ok (.invokevirtual 223, 3) := by decide +kernel
theorem dX10_weights_99 : decode cX10_weights 99 = .ok (.iinc 4 1, 3) := by decide +kernel
theorem dX10_weights_102 : decode cX10_weights 102 = .ok (.goto (-17), 3) := by decide +kernel
theorem dX10_weights_105 : decode cX10_weights 105 = .ok (.iinc 3 1, 3) := by decide +kernel
theorem dX10_weights_108 : decode cX10_weights 108 = .ok (.goto (-54), 3) := by decide +kernel
theorem dX10_weights_111 : decode cX10_weights 111 = .ok (.aload_n 2, 1) := by decide +kernel
theorem dX10_weights_112 : decode cX10_weights 112 = .ok (.areturn, 1) := by decide +kernel
theorem dX10_offNow_0 : decode cX10_offNow 0 = .ok (.aload_n 0, 1) := by decide +kernel
theorem dX10_offNow_1 : decode cX10_offNow 1 = .ok (.iload_n 1, 1) := by decide +kernel
theorem dX10_offNow_2 : decode cX10_offNow 2 = .ok (.invokevirtual 235, 3) := by decide +kernel
theorem dX10_offNow_5 : decode cX10_offNow 5 = .ok (.astore_n 2, 1) := by decide +kernel
theorem dX10_offNow_6 : decode cX10_offNow 6 = .ok (.lconst 0, 1) := by decide +kernel
theorem dX10_offNow_7 : decode cX10_offNow 7 = .ok (.lstore_n 3, 1) := by decide +kernel
theorem dX10_offNow_8 : decode cX10_offNow 8 = .ok (.iconst 0, 1) := by decide +kernel
theorem dX10_offNow_9 : decode cX10_offNow 9 = .ok (.istore 5, 2) := by decide +kernel
theorem dX10_offNow_11 : decode cX10_offNow 11 = .ok (.iload 5, 2) := by decide +kernel
theorem dX10_offNow_13 : decode cX10_offNow 13 = .ok (.iconst 3, 1) := by decide +kernel
theorem dX10_offNow_14 : decode cX10_offNow 14 = .ok (.if_icmp .ge 47, 3) := by decide +kernel
theorem dX10_offNow_17 : decode cX10_offNow 17 = .ok (.aload_n 0, 1) := by decide +kernel
theorem dX10_offNow_18 : decode cX10_offNow 18 = .ok (.aload_n 2, 1) := by decide +kernel
theorem dX10_offNow_19 : decode cX10_offNow 19 = .ok (.iload 5, 2) := by decide +kernel
theorem dX10_offNow_21 : decode cX10_offNow 21 = .ok (.iconst (-1), 1) := by decide +kernel
theorem dX10_offNow_22 : decode cX10_offNow 22 = .ok (.invokevirtual 229, 3) := by decide +kernel
theorem dX10_offNow_25 : decode cX10_offNow 25 = .ok (.lconst 0, 1) := by decide +kernel
theorem dX10_offNow_26 : decode cX10_offNow 26 = .ok (.lcmp, 1) := by decide +kernel
theorem dX10_offNow_27 : decode cX10_offNow 27 = .ok (.ifCond .le 28, 3) := by decide +kernel
theorem dX10_offNow_55 : decode cX10_offNow 55 = .ok (.iinc 5 1, 3) := by decide +kernel
theorem dX10_offNow_58 : decode cX10_offNow 58 = .ok (.goto (-47), 3) := by decide +kernel
theorem dX10_offNow_61 : decode cX10_offNow 61 = .ok (.iconst 0, 1) := by decide +kernel
theorem dX10_offNow_62 : decode cX10_offNow 62 = .ok (.istore 5, 2) := by decide +kernel
theorem dX10_offNow_64 : decode cX10_offNow 64 = .ok (.iload 5, 2) := by decide +kernel
theorem dX10_offNow_66 : decode cX10_offNow 66 = .ok (.iconst 2, 1) := by decide +kernel
theorem dX10_offNow_67 : decode cX10_offNow 67 = .ok (.if_icmp .ge 47, 3) := by decide +kernel
theorem dX10_offNow_70 : decode cX10_offNow 70 = .ok (.aload_n 0, 1) := by decide +kernel
theorem dX10_offNow_71 : decode cX10_offNow 71 = .ok (.aload_n 2, 1) := by decide +kernel
theorem dX10_offNow_72 : decode cX10_offNow 72 = .ok (.iconst (-1), 1) := by decide +kernel
theorem dX10_offNow_73 : decode cX10_offNow 73 = .ok (.iload 5, 2) := by decide +kernel
theorem dX10_offNow_75 : decode cX10_offNow 75 = .ok (.invokevirtual 229, 3) := by decide +kernel
theorem dX10_offNow_78 : decode cX10_offNow 78 = .ok (.lconst 0, 1) := by decide +kernel
theorem dX10_offNow_79 : decode cX10_offNow 79 = .ok (.lcmp, 1) := by decide +kernel
theorem dX10_offNow_80 : decode cX10_offNow 80 = .ok (.ifCond .le 28, 3) := by decide +kernel
theorem dX10_offNow_108 : decode cX10_offNow 108 = .ok (.iinc 5 1, 3) := by decide +kernel
theorem dX10_offNow_111 : decode cX10_offNow 111 = .ok (.goto (-47), 3) := by decide +kernel
theorem dX10_offNow_114 : decode cX10_offNow 114 = .ok (.lload_n 3, 1) := by decide +kernel
theorem dX10_offNow_115 : decode cX10_offNow 115 = .ok (.l2i, 1) := by decide +kernel
theorem dX10_offNow_116 : decode cX10_offNow 116 = .ok (.ireturn, 1) := by decide +kernel
theorem dX10_cleanedNow_0 : decode cX10_cleanedNow 0 = .ok (.aload_n 0, 1) := by decide +kernel
theorem dX10_cleanedNow_1 : decode cX10_cleanedNow 1 = .ok (.invokevirtual 252, 3) := by decide +kernel
theorem dX10_cleanedNow_4 : decode cX10_cleanedNow 4 = .ok (.istore_n 1, 1) := by decide +kernel
theorem dX10_cleanedNow_5 : decode cX10_cleanedNow 5 = .ok (.aload_n 0, 1) := by decide +kernel
theorem dX10_cleanedNow_6 : decode cX10_cleanedNow 6 = .ok (.iconst 0, 1) := by decide +kernel
theorem dX10_cleanedNow_7 : decode cX10_cleanedNow 7 = .ok (.invokevirtual 148, 3) := by decide +kernel
theorem dX10_cleanedNow_10 : decode cX10_cleanedNow 10 = .ok (.astore_n 2, 1) := by decide +kernel
theorem dX10_cleanedNow_11 : decode cX10_cleanedNow 11 = .ok (.aload_n 0, 1) := by decide +kernel
theorem dX10_cleanedNow_12 : decode cX10_cleanedNow 12 = .ok (.iconst 1, 1) := by decide +kernel
theorem dX10_cleanedNow_13 : decode cX10_cleanedNow 13 = .ok (.invokevirtual 148, 3) := by decide +kernel
theorem dX10_cleanedNow_16 : decode cX10_cleanedNow 16 = .ok (.astore_n 3, 1) := by decide +kernel
theorem dX10_cleanedNow_17 : decode cX10_cleanedNow 17 = .ok (.iconst 0, 1) := by decide +kernel
theorem dX10_cleanedNow_18 : decode cX10_cleanedNow 18 = .ok (.istore 4, 2) := by decide +kernel
theorem dX10_cleanedNow_20 : decode cX10_cleanedNow 20 = .ok (.iload 4, 2) := by decide +kernel
theorem dX10_cleanedNow_22 : decode cX10_cleanedNow 22 = .ok (.iconst 3, 1) := by decide +kernel
theorem dX10_cleanedNow_23 : decode cX10_cleanedNow 23 = .ok (.if_icmp .ge 57, 3) := by decide +kernel
theorem dX10_cleanedNow_26 : decode cX10_cleanedNow 26 = .ok (.iconst 0, 1) := by decide +kernel
theorem dX10_cleanedNow_27 : decode cX10_cleanedNow 27 = .ok (.istore 5, 2) := by decide +kernel
theorem dX10_cleanedNow_29 : decode cX10_cleanedNow 29 = .ok (.iload 5, 2) := by decide +kernel
theorem dX10_cleanedNow_31 : decode cX10_cleanedNow 31 = .ok (.iconst 2, 1) := by decide +kernel
theorem dX10_cleanedNow_32 : decode cX10_cleanedNow 32 = .ok (.if_icmp .ge 42, 3) := by decide +kernel
theorem dX10_cleanedNow_35 : decode cX10_cleanedNow 35 = .ok (.iload_n 1, 1) := by decide +kernel
theorem dX10_cleanedNow_36 : decode cX10_cleanedNow 36 = .ok (.aload_n 0, 1) := by decide +kernel
theorem dX10_cleanedNow_37 : decode cX10_cleanedNow 37 = .ok (.aload_n 2, 1) := by decide +kernel
theorem dX10_cleanedNow_38 : decode cX10_cleanedNow 38 = .ok (.iload 4, 2) := by decide +kernel
theorem dX10_cleanedNow_40 : decode cX10_cleanedNow 40 = .ok (.iload 5, 2) := by decide +kernel
theorem dX10_cleanedNow_42 : decode cX10_cleanedNow 42 = .ok (.invokevirtual 152, 3) := by decide +kernel
theorem dX10_cleanedNow_45 : decode cX10_cleanedNow 45 = .ok (.ifCond .ne 20, 3) := by decide +kernel
theorem dX10_cleanedNow_48 : decode cX10_cleanedNow 48 = .ok (.aload_n 0, 1) := by decide +kernel
theorem dX10_cleanedNow_49 : decode cX10_cleanedNow 49 = .ok (.aload_n 3, 1) := by decide +kernel
theorem dX10_cleanedNow_50 : decode cX10_cleanedNow 50 = .ok (.iload 4, 2) := by decide +kernel
theorem dX10_cleanedNow_52 : decode cX10_cleanedNow 52 = .ok (.iload 5, 2) := by decide +kernel
theorem dX10_cleanedNow_54 : decode cX10_cleanedNow 54 = .ok (.invokevirtual 152, 3) := by decide +kernel
theorem dX10_cleanedNow_57 : decode cX10_cleanedNow 57 = .ok (.ifCond .eq 8, 3) := by decide +kernel
theorem dX10_cleanedNow_65 : decode cX10_cleanedNow 65 = .ok (.iconst 0, 1) := by decide +kernel
theorem dX10_cleanedNow_66 : decode cX10_cleanedNow 66 = .ok (.iadd, 1) := by decide +kernel
theorem dX10_cleanedNow_67 : decode cX10_cleanedNow 67 = .ok (.istore_n 1, 1) := by decide +kernel
theorem dX10_cleanedNow_68 : decode cX10_cleanedNow 68 = .ok (.iinc 5 1, 3) := by decide +kernel
theorem dX10_cleanedNow_71 : decode cX10_cleanedNow 71 = .ok (.goto (-42), 3) := by decide +kernel
theorem dX10_cleanedNow_74 : decode cX10_cleanedNow 74 = .ok (.iinc 4 1, 3) := by decide +kernel
theorem dX10_cleanedNow_77 : decode cX10_cleanedNow 77 = .ok (.goto (-57), 3) := by decide +kernel
theorem dX10_cleanedNow_80 : decode cX10_cleanedNow 80 = .ok (.iload_n 1, 1) := by decide +kernel
theorem dX10_cleanedNow_81 : decode cX10_cleanedNow 81 = .ok (.ireturn, 1) := by decide +kernel
theorem dX10_add_0 : decode cX10_add 0 = .ok (.lload_n 0, 1) := by decide +kernel
theorem dX10_add_1 : decode cX10_add 1 = .ok (.ldc2_w 286, 3) := by decide +kernel
theorem dX10_add_4 : decode cX10_add 4 = .ok (.lmul, 1) := by decide +kernel
theorem dX10_add_5 : decode cX10_add 5 = .ok (.lload_n 2, 1) := by decide +kernel
theorem dX10_add_6 : decode cX10_add 6 = .ok (.ladd, 1) := by decide +kernel
theorem dX10_add_7 : decode cX10_add 7 = .ok (.lreturn, 1) := by decide +kernel
theorem tyX7_ok : ∀ k, k < 7 → parseFieldDescriptor (TX7 k).2.2.1 = some (tyX7 k) := by decide +kernel
theorem tyX8_ok : ∀ k, k < 4 → parseFieldDescriptor (TX8 k).2.2.1 = some (tyX8 k) := by decide +kernel
theorem tyX9_ok : ∀ k, k < 1 → parseFieldDescriptor (TX9 k).2.2.1 = some (tyX9 k) := by decide +kernel
theorem tyX10_ok : ∀ k, k < 10 → parseFieldDescriptor (TX10 k).2.2.1 = some (tyX10 k) := by decide +kernel
theorem tyJx35411_ok : ∀ k, k < 4 → parseFieldDescriptor (TJx35411 k).2.2.1 = some (tyJx35411 k) := by decide +kernel
theorem nmJx35411 : ∀ a, a < 4 → ∀ b, b < 4 → a ≠ b → (TJx35411 a).2.1 ≠ (TJx35411 b).2.1 := by decide +kernel
theorem tyJx4a65c_ok : ∀ k, k < 3 → parseFieldDescriptor (TJx4a65c k).2.2.1 = some (tyJx4a65c k) := by decide +kernel
theorem nmJx4a65c : ∀ a, a < 3 → ∀ b, b < 3 → a ≠ b → (TJx4a65c a).2.1 ≠ (TJx4a65c b).2.1 := by decide +kernel
