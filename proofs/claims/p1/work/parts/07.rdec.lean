theorem dJxa1e45_init_da8c8_0 : decode cJxa1e45_init_da8c8 0 = .ok (.aload_n 0, 1) := by decide +kernel
theorem dJxa1e45_init_da8c8_1 : decode cJxa1e45_init_da8c8 1 = .ok (.invokespecial 1, 3) := by decide +kernel
theorem dJxa1e45_init_da8c8_4 : decode cJxa1e45_init_da8c8 4 = .ok (.return_, 1) := by decide +kernel
theorem dJxc12de_init_da8c8_0 : decode cJxc12de_init_da8c8 0 = .ok (.aload_n 0, 1) := by decide +kernel
theorem dJxc12de_init_da8c8_1 : decode cJxc12de_init_da8c8 1 = .ok (.invokespecial 1, 3) := by decide +kernel
theorem dJxc12de_init_da8c8_4 : decode cJxc12de_init_da8c8 4 = .ok (.aload_n 0, 1) := by decide +kernel
theorem dJxc12de_init_da8c8_5 : decode cJxc12de_init_da8c8 5 = .ok (.iconst 0, 1) := by decide +kernel
theorem dJxc12de_init_da8c8_6 : decode cJxc12de_init_da8c8 6 = .ok (.putfield 7, 3) := by decide +kernel
theorem dJxc12de_init_da8c8_9 : decode cJxc12de_init_da8c8 9 = .ok (.return_, 1) := by decide +kernel
theorem dJx4a65c_init_da8c8_0 : decode cJx4a65c_init_da8c8 0 = .ok (.aload_n 0, 1) := by decide +kernel
theorem dJx4a65c_init_da8c8_1 : decode cJx4a65c_init_da8c8 1 = .ok (.invokespecial 1, 3) := by decide +kernel
theorem dJx4a65c_init_da8c8_4 : decode cJx4a65c_init_da8c8 4 = .ok (.aload_n 0, 1) := by decide +kernel
theorem dJx4a65c_init_da8c8_5 : decode cJx4a65c_init_da8c8 5 = .ok (.getstatic 39, 3) := by decide +kernel
theorem dJx4a65c_init_da8c8_8 : decode cJx4a65c_init_da8c8 8 = .ok (.putfield 9, 3) := by decide +kernel
theorem dJx4a65c_init_da8c8_11 : decode cJx4a65c_init_da8c8 11 = .ok (.return_, 1) := by decide +kernel
theorem dJx4a65c_size_8abf5_0 : decode cJx4a65c_size_8abf5 0 = .ok (.aload_n 0, 1) := by decide +kernel
theorem dJx4a65c_size_8abf5_1 : decode cJx4a65c_size_8abf5 1 = .ok (.getfield 48, 3) := by decide +kernel
theorem dJx4a65c_size_8abf5_4 : decode cJx4a65c_size_8abf5 4 = .ok (.ireturn, 1) := by decide +kernel
theorem dJx4a65c_isEmpty_aae02_0 : decode cJx4a65c_isEmpty_aae02 0 = .ok (.aload_n 0, 1) := by decide +kernel
theorem dJx4a65c_isEmpty_aae02_1 : decode cJx4a65c_isEmpty_aae02 1 = .ok (.getfield 48, 3) := by decide +kernel
theorem dJx4a65c_isEmpty_aae02_4 : decode cJx4a65c_isEmpty_aae02 4 = .ok (.ifCond .ne 7, 3) := by decide +kernel
theorem dJx4a65c_isEmpty_aae02_7 : decode cJx4a65c_isEmpty_aae02 7 = .ok (.iconst 1, 1) := by decide +kernel
theorem dJx4a65c_isEmpty_aae02_8 : decode cJx4a65c_isEmpty_aae02 8 = .ok (.goto 4, 3) := by decide +kernel
theorem dJx4a65c_isEmpty_aae02_12 : decode cJx4a65c_isEmpty_aae02 12 = .ok (.ireturn, 1) := by decide +kernel
theorem dJx35411_init_45d68_0 : decode cJx35411_init_45d68 0 = .ok (.aload_n 0, 1) := by decide +kernel
theorem dJx35411_init_45d68_1 : decode cJx35411_init_45d68 1 = .ok (.aload_n 1, 1) := by decide +kernel
theorem dJx35411_init_45d68_2 : decode cJx35411_init_45d68 2 = .ok (.putfield 1, 3) := by decide +kernel
theorem dJx35411_init_45d68_5 : decode cJx35411_init_45d68 5 = .ok (.aload_n 0, 1) := by decide +kernel
theorem dJx35411_init_45d68_6 : decode cJx35411_init_45d68 6 = .ok (.invokespecial 7, 3) := by decide +kernel
theorem dJx35411_init_45d68_9 : decode cJx35411_init_45d68 9 = .ok (.aload_n 0, 1) := by decide +kernel
theorem dJx35411_init_45d68_10 : decode cJx35411_init_45d68 10 = .ok (.iconst (-1), 1) := by decide +kernel
theorem dJx35411_init_45d68_11 : decode cJx35411_init_45d68 11 = .ok (.putfield 13, 3) := by decide +kernel
theorem dJx35411_init_45d68_14 : decode cJx35411_init_45d68 14 = .ok (.aload_n 0, 1) := by decide +kernel
theorem dJx35411_init_45d68_15 : decode cJx35411_init_45d68 15 = .ok (.aload_n 0, 1) := by decide +kernel
theorem dJx35411_init_45d68_16 : decode cJx35411_init_45d68 16 = .ok (.getfield 1, 3) := by decide +kernel
theorem dJx35411_init_45d68_19 : decode cJx35411_init_45d68 19 = .ok (.getfield 17, 3) := by decide +kernel
theorem dJx35411_init_45d68_22 : decode cJx35411_init_45d68 22 = .ok (.putfield 22, 3) := by decide +kernel
theorem dJx35411_init_45d68_25 : decode cJx35411_init_45d68 25 = .ok (.return_, 1) := by decide +kernel
theorem dJx4a65c_iterator_32c93_0 : decode cJx4a65c_iterator_32c93 0 = .ok (.new 267, 3) := by decide +kernel
theorem dJx4a65c_iterator_32c93_3 : decode cJx4a65c_iterator_32c93 3 = .ok (.dup, 1) := by decide +kernel
theorem dJx4a65c_iterator_32c93_4 : decode cJx4a65c_iterator_32c93 4 = .ok (.aload_n 0, 1) := by decide +kernel
theorem dJx4a65c_iterator_32c93_5 : decode cJx4a65c_iterator_32c93 5 = .ok (.invokespecial 269, 3) := by decide +kernel
theorem dJx4a65c_iterator_32c93_8 : decode cJx4a65c_iterator_32c93 8 = .ok (.areturn, 1) := by decide +kernel
theorem dJx35411_hasNext_aae02_0 : decode cJx35411_hasNext_aae02 0 = .ok (.aload_n 0, 1) := by decide +kernel
theorem dJx35411_hasNext_aae02_1 : decode cJx35411_hasNext_aae02 1 = .ok (.getfield 25, 3) := by decide +kernel
theorem dJx35411_hasNext_aae02_4 : decode cJx35411_hasNext_aae02 4 = .ok (.aload_n 0, 1) := by decide +kernel
theorem dJx35411_hasNext_aae02_5 : decode cJx35411_hasNext_aae02 5 = .ok (.getfield 1, 3) := by decide +kernel
theorem dJx35411_hasNext_aae02_8 : decode cJx35411_hasNext_aae02 8 = .ok (.getfield 28, 3) := by decide +kernel
theorem dJx35411_hasNext_aae02_11 : decode cJx35411_hasNext_aae02 11 = .ok (.if_icmp .eq 7, 3) := by decide +kernel
theorem dJx35411_hasNext_aae02_18 : decode cJx35411_hasNext_aae02 18 = .ok (.iconst 0, 1) := by decide +kernel
theorem dJx35411_hasNext_aae02_19 : decode cJx35411_hasNext_aae02 19 = .ok (.ireturn, 1) := by decide +kernel
theorem dJx4a65c_grow_92f84_0 : decode cJx4a65c_grow_92f84 0 = .ok (.aload_n 0, 1) := by decide +kernel
theorem dJx4a65c_grow_92f84_1 : decode cJx4a65c_grow_92f84 1 = .ok (.getfield 9, 3) := by decide +kernel
theorem dJx4a65c_grow_92f84_4 : decode cJx4a65c_grow_92f84 4 = .ok (.arraylength, 1) := by decide +kernel
theorem dJx4a65c_grow_92f84_5 : decode cJx4a65c_grow_92f84 5 = .ok (.istore_n 2, 1) := by decide +kernel
theorem dJx4a65c_grow_92f84_6 : decode cJx4a65c_grow_92f84 6 = .ok (.iload_n 2, 1) := by decide +kernel
theorem dJx4a65c_grow_92f84_7 : decode cJx4a65c_grow_92f84 7 = .ok (.ifCond .gt 13, 3) := by decide +kernel
theorem dJx4a65c_grow_92f84_10 : decode cJx4a65c_grow_92f84 10 = .ok (.aload_n 0, 1) := by decide +kernel
theorem dJx4a65c_grow_92f84_11 : decode cJx4a65c_grow_92f84 11 = .ok (.getfield 9, 3) := by decide +kernel
theorem dJx4a65c_grow_92f84_14 : decode cJx4a65c_grow_92f84 14 = .ok (.getstatic 39, 3) := by decide +kernel
theorem dJx4a65c_grow_92f84_17 : decode cJx4a65c_grow_92f84 17 = .ok (.if_acmp .eq 28, 3) := by decide +kernel
theorem dJx4a65c_grow_92f84_45 : decode cJx4a65c_grow_92f84 45 = .ok (.aload_n 0, 1) := by decide +kernel
theorem dJx4a65c_grow_92f84_46 : decode cJx4a65c_grow_92f84 46 = .ok (.bipush 10, 2) := by decide +kernel
theorem dJx4a65c_grow_92f84_48 : decode cJx4a65c_grow_92f84 48 = .ok (.iload_n 1, 1) := by decide +kernel
theorem dJx4a65c_grow_92f84_49 : decode cJx4a65c_grow_92f84 49 = .ok (.invokestatic 79, 3) := by decide +kernel
theorem dJx4a65c_grow_92f84_52 : decode cJx4a65c_grow_92f84 52 = .ok (.anewarray 7, 3) := by decide +kernel
theorem dJx4a65c_grow_92f84_55 : decode cJx4a65c_grow_92f84 55 = .ok (.dup_x1, 1) := by decide +kernel
theorem dJx4a65c_grow_92f84_56 : decode cJx4a65c_grow_92f84 56 = .ok (.putfield 9, 3) := by decide +kernel
theorem dJx4a65c_grow_92f84_59 : decode cJx4a65c_grow_92f84 59 = .ok (.areturn, 1) := by decide +kernel
theorem dJx4a65c_grow_d5877_0 : decode cJx4a65c_grow_d5877 0 = .ok (.aload_n 0, 1) := by decide +kernel
theorem dJx4a65c_grow_d5877_1 : decode cJx4a65c_grow_d5877 1 = .ok (.aload_n 0, 1) := by decide +kernel
theorem dJx4a65c_grow_d5877_2 : decode cJx4a65c_grow_d5877 2 = .ok (.getfield 48, 3) := by decide +kernel
theorem dJx4a65c_grow_d5877_5 : decode cJx4a65c_grow_d5877 5 = .ok (.iconst 1, 1) := by decide +kernel
theorem dJx4a65c_grow_d5877_6 : decode cJx4a65c_grow_d5877 6 = .ok (.iadd, 1) := by decide +kernel
theorem dJx4a65c_grow_d5877_7 : decode cJx4a65c_grow_d5877 7 = .ok (.invokevirtual 69, 3) := by decide +kernel
theorem dJx4a65c_grow_d5877_10 : decode cJx4a65c_grow_d5877 10 = .ok (.areturn, 1) := by decide +kernel
theorem dJx4a65c_add_72be8_0 : decode cJx4a65c_add_72be8 0 = .ok (.iload_n 3, 1) := by decide +kernel
theorem dJx4a65c_add_72be8_1 : decode cJx4a65c_add_72be8 1 = .ok (.aload_n 2, 1) := by decide +kernel
theorem dJx4a65c_add_72be8_2 : decode cJx4a65c_add_72be8 2 = .ok (.arraylength, 1) := by decide +kernel
theorem dJx4a65c_add_72be8_3 : decode cJx4a65c_add_72be8 3 = .ok (.if_icmp .ne 8, 3) := by decide +kernel
theorem dJx4a65c_add_72be8_6 : decode cJx4a65c_add_72be8 6 = .ok (.aload_n 0, 1) := by decide +kernel
theorem dJx4a65c_add_72be8_7 : decode cJx4a65c_add_72be8 7 = .ok (.invokevirtual 129, 3) := by decide +kernel
theorem dJx4a65c_add_72be8_10 : decode cJx4a65c_add_72be8 10 = .ok (.astore_n 2, 1) := by decide +kernel
theorem dJx4a65c_add_72be8_11 : decode cJx4a65c_add_72be8 11 = .ok (.aload_n 2, 1) := by decide +kernel
theorem dJx4a65c_add_72be8_12 : decode cJx4a65c_add_72be8 12 = .ok (.iload_n 3, 1) := by decide +kernel
theorem dJx4a65c_add_72be8_13 : decode cJx4a65c_add_72be8 13 = .ok (.aload_n 1, 1) := by decide +kernel
theorem dJx4a65c_add_72be8_14 : decode cJx4a65c_add_72be8 14 = .ok (.aastore, 1) := by decide +kernel
theorem dJx4a65c_add_72be8_15 : decode cJx4a65c_add_72be8 15 = .ok (.aload_n 0, 1) := by decide +kernel
theorem dJx4a65c_add_72be8_16 : decode cJx4a65c_add_72be8 16 = .ok (.iload_n 3, 1) := by decide +kernel
theorem dJx4a65c_add_72be8_17 : decode cJx4a65c_add_72be8 17 = .ok (.iconst 1, 1) := by decide +kernel
theorem dJx4a65c_add_72be8_18 : decode cJx4a65c_add_72be8 18 = .ok (.iadd, 1) := by decide +kernel
theorem dJx4a65c_add_72be8_19 : decode cJx4a65c_add_72be8 19 = .ok (.putfield 48, 3) := by decide +kernel
theorem dJx4a65c_add_72be8_22 : decode cJx4a65c_add_72be8 22 = .ok (.return_, 1) := by decide +kernel
theorem dJx4a65c_add_9ea2d_0 : decode cJx4a65c_add_9ea2d 0 = .ok (.aload_n 0, 1) := by decide +kernel
theorem dJx4a65c_add_9ea2d_1 : decode cJx4a65c_add_9ea2d 1 = .ok (.dup, 1) := by decide +kernel
theorem dJx4a65c_add_9ea2d_2 : decode cJx4a65c_add_9ea2d 2 = .ok (.getfield 63, 3) := by decide +kernel
theorem dJx4a65c_add_9ea2d_5 : decode cJx4a65c_add_9ea2d 5 = .ok (.iconst 1, 1) := by decide +kernel
theorem dJx4a65c_add_9ea2d_6 : decode cJx4a65c_add_9ea2d 6 = .ok (.iadd, 1) := by decide +kernel
theorem dJx4a65c_add_9ea2d_7 : decode cJx4a65c_add_9ea2d 7 = .ok (.putfield 63, 3) := by decide +kernel
theorem dJx4a65c_add_9ea2d_10 : decode cJx4a65c_add_9ea2d 10 = .ok (.aload_n 0, 1) := by decide +kernel
theorem dJx4a65c_add_9ea2d_11 : decode cJx4a65c_add_9ea2d 11 = .ok (.aload_n 1, 1) := by decide +kernel
theorem dJx4a65c_add_9ea2d_12 : decode cJx4a65c_add_9ea2d 12 = .ok (.aload_n 0, 1) := by decide +kernel
theorem dJx4a65c_add_9ea2d_13 : decode cJx4a65c_add_9ea2d 13 = .ok (.getfield 9, 3) := by decide +kernel
theorem dJx4a65c_add_9ea2d_16 : decode cJx4a65c_add_9ea2d 16 = .ok (.aload_n 0, 1) := by decide +kernel
theorem dJx4a65c_add_9ea2d_17 : decode cJx4a65c_add_9ea2d 17 = .ok (.getfield 48, 3) := by decide +kernel
theorem dJx4a65c_add_9ea2d_20 : decode cJx4a65c_add_9ea2d 20 = .ok (.invokevirtual 131, 3) := by decide +kernel
theorem dJx4a65c_add_9ea2d_23 : decode cJx4a65c_add_9ea2d 23 = .ok (.iconst 1, 1) := by decide +kernel
theorem dJx4a65c_add_9ea2d_24 : decode cJx4a65c_add_9ea2d 24 = .ok (.ireturn, 1) := by decide +kernel
theorem dX10_isIn_0 : decode cX10_isIn 0 = .ok (.iload_n 0, 1) := by decide +kernel
theorem dX10_isIn_1 : decode cX10_isIn 1 = .ok (.iload_n 1, 1) := by decide +kernel
theorem dX10_isIn_2 : decode cX10_isIn 2 = .ok (.if_icmp .lt 12, 3) := by decide +kernel
theorem dX10_isIn_14 : decode cX10_isIn 14 = .ok (.iconst 0, 1) := by decide +kernel
theorem dX10_isIn_15 : decode cX10_isIn 15 = .ok (.ireturn, 1) := by decide +kernel
theorem dX10_isIn_5 : decode cX10_isIn 5 = .ok (.iload_n 0, 1) := by decide +kernel
theorem dX10_isIn_6 : decode cX10_isIn 6 = .ok (.iload_n 2, 1) := by decide +kernel
theorem dX10_isIn_7 : decode cX10_isIn 7 = .ok (.if_icmp .gt 7, 3) := by decide +kernel
theorem dX10_isIn_10 : decode cX10_isIn 10 = .ok (.iconst 1, 1) := by decide +kernel
theorem dX10_isIn_11 : decode cX10_isIn 11 = .ok (.goto 4, 3) := by decide +kernel
theorem dX10_isNoA_0 : decode cX10_isNoA 0 = .ok (.iload_n 0, 1) := by decide +kernel
theorem dX10_isNoA_1 : decode cX10_isNoA 1 = .ok (.iconst 0, 1) := by decide +kernel
theorem dX10_isNoA_2 : decode cX10_isNoA 2 = .ok (.iconst 2, 1) := by decide +kernel
theorem dX10_isNoA_3 : decode cX10_isNoA 3 = .ok (.invokestatic 45, 3) := by decide +kernel
theorem dX10_isNoA_6 : decode cX10_isNoA 6 = .ok (.ifCond .ne 7, 3) := by decide +kernel
theorem dX10_isNoA_13 : decode cX10_isNoA 13 = .ok (.iconst 0, 1) := by decide +kernel
theorem dX10_isNoA_14 : decode cX10_isNoA 14 = .ok (.ireturn, 1) := by decide +kernel
theorem dX10_isNoA_9 : decode cX10_isNoA 9 = .ok (.iconst 1, 1) := by decide +kernel
theorem dX10_isNoA_10 : decode cX10_isNoA 10 = .ok (.goto 4, 3) := by decide +kernel
theorem dX10_isNoB_0 : decode cX10_isNoB 0 = .ok (.iload_n 0, 1) := by decide +kernel
theorem dX10_isNoB_1 : decode cX10_isNoB 1 = .ok (.iconst 0, 1) := by decide +kernel
theorem dX10_isNoB_2 : decode cX10_isNoB 2 = .ok (.iconst 1, 1) := by decide +kernel
theorem dX10_isNoB_3 : decode cX10_isNoB 3 = .ok (.invokestatic 45, 3) := by decide +kernel
theorem dX10_isNoB_6 : decode cX10_isNoB 6 = .ok (.ifCond .ne 7, 3) := by decide +kernel
theorem dX10_isNoB_13 : decode cX10_isNoB 13 = .ok (.iconst 0, 1) := by decide +kernel
theorem dX10_isNoB_14 : decode cX10_isNoB 14 = .ok (.ireturn, 1) := by decide +kernel
theorem dX10_isNoB_9 : decode cX10_isNoB 9 = .ok (.iconst 1, 1) := by decide +kernel
theorem dX10_isNoB_10 : decode cX10_isNoB 10 = .ok (.goto 4, 3) := by decide +kernel
theorem dX10_isNoRounds_0 : decode cX10_isNoRounds 0 = .ok (.iload_n 0, 1) := by decide +kernel
theorem dX10_isNoRounds_1 : decode cX10_isNoRounds 1 = .ok (.iconst 0, 1) := by decide +kernel
theorem dX10_isNoRounds_2 : decode cX10_isNoRounds 2 = .ok (.bipush 9, 2) := by decide +kernel
theorem dX10_isNoRounds_4 : decode cX10_isNoRounds 4 = .ok (.invokestatic 45, 3) := by decide +kernel
theorem dX10_isNoRounds_7 : decode cX10_isNoRounds 7 = .ok (.ifCond .ne 7, 3) := by decide +kernel
theorem dX10_isNoRounds_14 : decode cX10_isNoRounds 14 = .ok (.iconst 0, 1) := by decide +kernel
theorem dX10_isNoRounds_15 : decode cX10_isNoRounds 15 = .ok (.ireturn, 1) := by decide +kernel
theorem dX10_isNoRounds_10 : decode cX10_isNoRounds 10 = .ok (.iconst 1, 1) := by decide +kernel
theorem dX10_isNoRounds_11 : decode cX10_isNoRounds 11 = .ok (.goto 4, 3) := by decide +kernel
theorem dX10_refuse_0 : decode cX10_refuse 0 = .ok (.iload_n 1, 1) := by decide +kernel
theorem dX10_refuse_1 : decode cX10_refuse 1 = .ok (.ifCond .eq 15, 3) := by decide +kernel
theorem dX10_refuse_16 : decode cX10_refuse 16 = .ok (.aload_n 0, 1) := by decide +kernel
theorem dX10_refuse_17 : decode cX10_refuse 17 = .ok (.getfield 34, 3) := by decide +kernel
theorem dX10_refuse_20 : decode cX10_refuse 20 = .ok (.ifCond .le 7, 3) := by decide +kernel
theorem dX10_refuse_27 : decode cX10_refuse 27 = .ok (.iconst 0, 1) := by decide +kernel
theorem dX10_refuse_28 : decode cX10_refuse 28 = .ok (.ireturn, 1) := by decide +kernel
theorem dX10_refuse_4 : decode cX10_refuse 4 = .ok (.aload_n 0, 1) := by decide +kernel
theorem dX10_refuse_5 : decode cX10_refuse 5 = .ok (.getfield 34, 3) := by decide +kernel
theorem dX10_refuse_8 : decode cX10_refuse 8 = .ok (.ifCond .ne 8, 3) := by decide +kernel
theorem dX10_refuse_11 : decode cX10_refuse 11 = .ok (.aload_n 0, 1) := by decide +kernel
theorem dX10_refuse_12 : decode cX10_refuse 12 = .ok (.iload_n 2, 1) := by decide +kernel
theorem dX10_refuse_13 : decode cX10_refuse 13 = .ok (.putfield 34, 3) := by decide +kernel
theorem dX10_refuse_23 : decode cX10_refuse 23 = .ok (.iconst 1, 1) := by decide +kernel
theorem dX10_refuse_24 : decode cX10_refuse 24 = .ok (.goto 4, 3) := by decide +kernel
theorem dX10_start_0 : decode cX10_start 0 = .ok (.aload_n 0, 1) := by decide +kernel
theorem dX10_start_1 : decode cX10_start 1 = .ok (.iconst 0, 1) := by decide +kernel
theorem dX10_start_2 : decode cX10_start 2 = .ok (.putfield 34, 3) := by decide +kernel
theorem dX10_start_5 : decode cX10_start 5 = .ok (.aload_n 0, 1) := by decide +kernel
theorem dX10_start_6 : decode cX10_start 6 = .ok (.iload_n 1, 1) := by decide +kernel
theorem dX10_start_7 : decode cX10_start 7 = .ok (.iload_n 2, 1) := by decide +kernel
theorem dX10_start_8 : decode cX10_start 8 = .ok (.invokevirtual 37, 3) := by decide +kernel
theorem dX10_start_11 : decode cX10_start 11 = .ok (.ireturn, 1) := by decide +kernel
theorem dX10_isNoQuestion_0 : decode cX10_isNoQuestion 0 = .ok (.iload_n 1, 1) := by decide +kernel
theorem dX10_isNoQuestion_1 : decode cX10_isNoQuestion 1 = .ok (.iconst 0, 1) := by decide +kernel
theorem dX10_isNoQuestion_2 : decode cX10_isNoQuestion 2 = .ok (.aload_n 0, 1) := by decide +kernel
theorem dX10_isNoQuestion_3 : decode cX10_isNoQuestion 3 = .ok (.getfield 10, 3) := by decide +kernel
theorem dX10_isNoQuestion_6 : decode cX10_isNoQuestion 6 = .ok (.invokevirtual 41, 3) := by decide +kernel
theorem dX10_isNoQuestion_9 : decode cX10_isNoQuestion 9 = .ok (.iconst 1, 1) := by decide +kernel
theorem dX10_isNoQuestion_10 : decode cX10_isNoQuestion 10 = .ok (.isub, 1) := by decide +kernel
theorem dX10_isNoQuestion_11 : decode cX10_isNoQuestion 11 = .ok (.invokestatic 45, 3) := by decide +kernel
theorem dX10_isNoQuestion_14 : decode cX10_isNoQuestion 14 = .ok (.ifCond .ne 7, 3) := by decide +kernel
theorem dX10_isNoQuestion_17 : decode cX10_isNoQuestion 17 = .ok (.iconst 1, 1) := by decide +kernel
theorem dX10_isNoQuestion_18 : decode cX10_isNoQuestion 18 = .ok (.goto 4, 3) := by decide +kernel
theorem dX10_isNoQuestion_22 : decode cX10_isNoQuestion 22 = .ok (.ireturn, 1) := by decide +kernel
theorem dX10_isNoAnswer_0 : decode cX10_isNoAnswer 0 = .ok (.aload_n 0, 1) := by decide +kernel
theorem dX10_isNoAnswer_1 : decode cX10_isNoAnswer 1 = .ok (.iload_n 1, 1) := by decide +kernel
theorem dX10_isNoAnswer_2 : decode cX10_isNoAnswer 2 = .ok (.invokevirtual 49, 3) := by decide +kernel
theorem dX10_isNoAnswer_5 : decode cX10_isNoAnswer 5 = .ok (.ifCond .ne 28, 3) := by decide +kernel
theorem dX10_isNoAnswer_33 : decode cX10_isNoAnswer 33 = .ok (.iconst 1, 1) := by decide +kernel
theorem dX10_isNoAnswer_34 : decode cX10_isNoAnswer 34 = .ok (.goto 4, 3) := by decide +kernel
theorem dX10_isNoAnswer_38 : decode cX10_isNoAnswer 38 = .ok (.ireturn, 1) := by decide +kernel
theorem dX10_isNoPerson_0 : decode cX10_isNoPerson 0 = .ok (.aload_n 0, 1) := by decide +kernel
theorem dX10_isNoPerson_1 : decode cX10_isNoPerson 1 = .ok (.iload_n 1, 1) := by decide +kernel
theorem dX10_isNoPerson_2 : decode cX10_isNoPerson 2 = .ok (.iconst 0, 1) := by decide +kernel
theorem dX10_isNoPerson_3 : decode cX10_isNoPerson 3 = .ok (.aload_n 0, 1) := by decide +kernel
theorem dX10_isNoPerson_4 : decode cX10_isNoPerson 4 = .ok (.getfield 16, 3) := by decide +kernel
theorem dX10_isNoPerson_7 : decode cX10_isNoPerson 7 = .ok (.invokevirtual 41, 3) := by decide +kernel
theorem dX10_isNoPerson_10 : decode cX10_isNoPerson 10 = .ok (.iconst 1, 1) := by decide +kernel
theorem dX10_isNoPerson_11 : decode cX10_isNoPerson 11 = .ok (.isub, 1) := by decide +kernel
theorem dX10_isNoPerson_12 : decode cX10_isNoPerson 12 = .ok (.invokestatic 45, 3) := by decide +kernel
theorem dX10_isNoPerson_15 : decode cX10_isNoPerson 15 = .ok (.ifCond .ne 7, 3) := by decide +kernel
theorem dX10_isNoPerson_18 : decode cX10_isNoPerson 18 = .ok (.iconst 1, 1) := by decide +kernel
theorem dX10_isNoPerson_19 : decode cX10_isNoPerson 19 = .ok (.goto 4, 3) := by decide +kernel
theorem dX10_isNoPerson_23 : decode cX10_isNoPerson 23 = .ok (.iconst 1, 1) := by decide +kernel
theorem dX10_isNoPerson_24 : decode cX10_isNoPerson 24 = .ok (.invokevirtual 63, 3) := by decide +kernel
theorem dX10_isNoPerson_27 : decode cX10_isNoPerson 27 = .ok (.ireturn, 1) := by decide +kernel
theorem dX10_isNoInterview_0 : decode cX10_isNoInterview 0 = .ok (.aload_n 0, 1) := by decide +kernel
theorem dX10_isNoInterview_1 : decode cX10_isNoInterview 1 = .ok (.iload_n 1, 1) := by decide +kernel
theorem dX10_isNoInterview_2 : decode cX10_isNoInterview 2 = .ok (.iconst 0, 1) := by decide +kernel
theorem dX10_isNoInterview_3 : decode cX10_isNoInterview 3 = .ok (.aload_n 0, 1) := by decide +kernel
theorem dX10_isNoInterview_4 : decode cX10_isNoInterview 4 = .ok (.getfield 19, 3) := by decide +kernel
theorem dX10_isNoInterview_7 : decode cX10_isNoInterview 7 = .ok (.invokevirtual 41, 3) := by decide +kernel
theorem dX10_isNoInterview_10 : decode cX10_isNoInterview 10 = .ok (.iconst 1, 1) := by decide +kernel
theorem dX10_isNoInterview_11 : decode cX10_isNoInterview 11 = .ok (.isub, 1) := by decide +kernel
theorem dX10_isNoInterview_12 : decode cX10_isNoInterview 12 = .ok (.invokestatic 45, 3) := by decide +kernel
theorem dX10_isNoInterview_15 : decode cX10_isNoInterview 15 = .ok (.ifCond .ne 7, 3) := by decide +kernel
theorem dX10_isNoInterview_18 : decode cX10_isNoInterview 18 = .ok (.iconst 1, 1) := by decide +kernel
theorem dX10_isNoInterview_19 : decode cX10_isNoInterview 19 = .ok (.goto 4, 3) := by decide +kernel
theorem dX10_isNoInterview_23 : decode cX10_isNoInterview 23 = .ok (.iconst 1, 1) := by decide +kernel
theorem dX10_isNoInterview_24 : decode cX10_isNoInterview 24 = .ok (.invokevirtual 63, 3) := by decide +kernel
theorem dX10_isNoInterview_27 : decode cX10_isNoInterview 27 = .ok (.ireturn, 1) := by decide +kernel
theorem dX10_filled_0 : decode cX10_filled 0 = .ok (.iconst 3, 1) := by decide +kernel
theorem dX10_filled_1 : decode cX10_filled 1 = .ok (.iconst 2, 1) := by decide +kernel
theorem dX10_filled_2 : decode cX10_filled 2 = .ok (.multianewarray 22 2, 4) := by decide +kernel
theorem dX10_filled_6 : decode cX10_filled 6 = .ok (.astore_n 2, 1) := by decide +kernel
theorem dX10_filled_7 : decode cX10_filled 7 = .ok (.aload_n 0, 1) := by decide +kernel
theorem dX10_filled_8 : decode cX10_filled 8 = .ok (.getfield 19, 3) := by decide +kernel
theorem dX10_filled_11 : decode cX10_filled 11 = .ok (.invokevirtual 109, 3) := by decide +kernel
theorem dX10_filled_14 : decode cX10_filled 14 = .ok (.astore_n 3, 1) := by decide +kernel
theorem dX10_filled_15 : decode cX10_filled 15 = .ok (.aload_n 3, 1) := by decide +kernel
theorem dX10_filled_16 : decode cX10_filled 16 = .ok (.invokeinterface 113 1, 5) := by decide +kernel
theorem dX10_filled_21 : decode cX10_filled 21 = .ok (.ifCond .eq 63, 3) := by decide +kernel
theorem dX10_filled_84 : decode cX10_filled 84 = .ok (.aload_n 2, 1) := by decide +kernel
theorem dX10_filled_85 : decode cX10_filled 85 = .ok (.areturn, 1) := by decide +kernel
theorem dX10_sum_0 : decode cX10_sum 0 = .ok (.iconst 0, 1) := by decide +kernel
theorem dX10_sum_1 : decode cX10_sum 1 = .ok (.istore_n 1, 1) := by decide +kernel
theorem dX10_sum_2 : decode cX10_sum 2 = .ok (.aload_n 0, 1) := by decide +kernel
theorem dX10_sum_3 : decode cX10_sum 3 = .ok (.astore_n 2, 1) := by decide +kernel
theorem dX10_sum_4 : decode cX10_sum 4 = .ok (.aload_n 2, 1) := by decide +kernel
theorem dX10_sum_5 : decode cX10_sum 5 = .ok (.arraylength, 1) := by decide +kernel
theorem dX10_sum_6 : decode cX10_sum 6 = .ok (.istore_n 3, 1) := by decide +kernel
theorem dX10_sum_7 : decode cX10_sum 7 = .ok (.iconst 0, 1) := by decide +kernel
theorem dX10_sum_8 : decode cX10_sum 8 = .ok (.istore 4, 2) := by decide +kernel
theorem dX10_sum_10 : decode cX10_sum 10 = .ok (.iload 4, 2) := by decide +kernel
theorem dX10_sum_12 : decode cX10_sum 12 = .ok (.iload_n 3, 1) := by decide +kernel
theorem dX10_sum_13 : decode cX10_sum 13 = .ok (.if_icmp .ge 52, 3) := by decide +kernel
theorem dX10_sum_16 : decode cX10_sum 16 = .ok (.aload_n 2, 1) := by decide +kernel
theorem dX10_sum_17 : decode cX10_sum 17 = .ok (.iload 4, 2) := by decide +kernel
theorem dX10_sum_19 : decode cX10_sum 19 = .ok (.aaload, 1) := by decide +kernel
theorem dX10_sum_20 : decode cX10_sum 20 = .ok (.astore 5, 2) := by decide +kernel
theorem dX10_sum_22 : decode cX10_sum 22 = .ok (.aload 5, 2) := by decide +kernel
theorem dX10_sum_24 : decode cX10_sum 24 = .ok (.astore 6, 2) := by decide +kernel
theorem dX10_sum_26 : decode cX10_sum 26 = .ok (.aload 6, 2) := by decide +kernel
theorem dX10_sum_28 : decode cX10_sum 28 = .ok (.arraylength, 1) := by decide +kernel
theorem dX10_sum_29 : decode cX10_sum 29 = .ok (.istore 7, 2) := by decide +kernel
theorem dX10_sum_31 : decode cX10_sum 31 = .ok (.iconst 0, 1) := by decide +kernel
theorem dX10_sum_32 : decode cX10_sum 32 = .ok (.istore 8, 2) := by decide +kernel
theorem dX10_sum_34 : decode cX10_sum 34 = .ok (.iload 8, 2) := by decide +kernel
theorem dX10_sum_36 : decode cX10_sum 36 = .ok (.iload 7, 2) := by decide +kernel
theorem dX10_sum_38 : decode cX10_sum 38 = .ok (.if_icmp .ge 21, 3) := by decide +kernel
theorem dX10_sum_41 : decode cX10_sum 41 = .ok (.aload 6, 2) := by decide +kernel
theorem dX10_sum_43 : decode cX10_sum 43 = .ok (.iload 8, 2) := by decide +kernel
theorem dX10_sum_45 : decode cX10_sum 45 = .ok (.iaload, 1) := by decide +kernel
theorem dX10_sum_46 : decode cX10_sum 46 = .ok (.istore 9, 2) := by decide +kernel
theorem dX10_sum_48 : decode cX10_sum 48 = .ok (.iload_n 1, 1) := by decide +kernel
theorem dX10_sum_49 : decode cX10_sum 49 = .ok (.iload 9, 2) := by decide +kernel
theorem dX10_sum_51 : decode cX10_sum 51 = .ok (.iadd, 1) := by decide +kernel
theorem dX10_sum_52 : decode cX10_sum 52 = .ok (.istore_n 1, 1) := by decide +kernel
theorem dX10_sum_53 : decode cX10_sum 53 = .ok (.iinc 8 1, 3) := by decide +kernel
theorem dX10_sum_56 : decode cX10_sum 56 = .ok (.goto (-22), 3) := by decide +kernel
theorem dX10_sum_59 : decode cX10_sum 59 = .ok (.iinc 4 1, 3) := by decide +kernel
theorem dX10_sum_62 : decode cX10_sum 62 = .ok (.goto (-52), 3) := by decide +kernel
theorem dX10_sum_65 : decode cX10_sum 65 = .ok (.iload_n 1, 1) := by decide +kernel
theorem dX10_sum_66 : decode cX10_sum 66 = .ok (.ireturn, 1) := by decide +kernel
theorem dX10_isOpen_0 : decode cX10_isOpen 0 = .ok (.aload_n 1, 1) := by decide +kernel
theorem dX10_isOpen_1 : decode cX10_isOpen 1 = .ok (.iload_n 2, 1) := by decide +kernel
theorem dX10_isOpen_2 : decode cX10_isOpen 2 = .ok (.aaload, 1) := by decide +kernel
theorem dX10_isOpen_3 : decode cX10_isOpen 3 = .ok (.iload_n 3, 1) := by decide +kernel
theorem dX10_isOpen_4 : decode cX10_isOpen 4 = .ok (.iaload, 1) := by decide +kernel
theorem dX10_isOpen_5 : decode cX10_isOpen 5 = .ok (.istore 4, 2) := by decide +kernel
theorem dX10_isOpen_7 : decode cX10_isOpen 7 = .ok (.iload 4, 2) := by decide +kernel
theorem dX10_isOpen_9 : decode cX10_isOpen 9 = .ok (.aload_n 0, 1) := by decide +kernel
theorem dX10_isOpen_10 : decode cX10_isOpen 10 = .ok (.getfield 24, 3) := by decide +kernel
theorem dX10_isOpen_13 : decode cX10_isOpen 13 = .ok (.iload_n 2, 1) := by decide +kernel
theorem dX10_isOpen_14 : decode cX10_isOpen 14 = .ok (.aaload, 1) := by decide +kernel
theorem dX10_isOpen_15 : decode cX10_isOpen 15 = .ok (.iload_n 3, 1) := by decide +kernel
theorem dX10_isOpen_16 : decode cX10_isOpen 16 = .ok (.iaload, 1) := by decide +kernel
theorem dX10_isOpen_17 : decode cX10_isOpen 17 = .ok (.if_icmp .lt 35, 3) := by decide +kernel
theorem dX10_isOpen_20 : decode cX10_isOpen 20 = .ok (.iload 4, 2) := by decide +kernel
theorem dX10_isOpen_22 : decode cX10_isOpen 22 = .ok (.aload_n 0, 1) := by decide +kernel
theorem dX10_isOpen_23 : decode cX10_isOpen 23 = .ok (.getfield 24, 3) := by decide +kernel
theorem dX10_isOpen_26 : decode cX10_isOpen 26 = .ok (.iload_n 2, 1) := by decide +kernel
theorem dX10_isOpen_27 : decode cX10_isOpen 27 = .ok (.aaload, 1) := by decide +kernel
theorem dX10_isOpen_28 : decode cX10_isOpen 28 = .ok (.iload_n 3, 1) := by decide +kernel
theorem dX10_isOpen_29 : decode cX10_isOpen 29 = .ok (.iaload, 1) := by decide +kernel
theorem dX10_isOpen_30 : decode cX10_isOpen 30 = .ok (.aload_n 0, 1) := by decide +kernel
theorem dX10_isOpen_31 : decode cX10_isOpen 31 = .ok (.getfield 101, 3) := by decide +kernel
theorem dX10_isOpen_34 : decode cX10_isOpen 34 = .ok (.iadd, 1) := by decide +kernel
theorem dX10_isOpen_35 : decode cX10_isOpen 35 = .ok (.if_icmp .ge 21, 3) := by decide +kernel
theorem dX10_isOpen_56 : decode cX10_isOpen 56 = .ok (.iconst 0, 1) := by decide +kernel
theorem dX10_isOpen_57 : decode cX10_isOpen 57 = .ok (.ireturn, 1) := by decide +kernel
theorem dX10_open_0 : decode cX10_open 0 = .ok (.iconst 0, 1) := by decide +kernel
theorem dX10_open_1 : decode cX10_open 1 = .ok (.istore_n 2, 1) := by decide +kernel
theorem dX10_open_2 : decode cX10_open 2 = .ok (.iconst 0, 1) := by decide +kernel
theorem dX10_open_3 : decode cX10_open 3 = .ok (.istore_n 3, 1) := by decide +kernel
theorem dX10_open_4 : decode cX10_open 4 = .ok (.iload_n 3, 1) := by decide +kernel
theorem dX10_open_5 : decode cX10_open 5 = .ok (.iconst 3, 1) := by decide +kernel
theorem dX10_open_6 : decode cX10_open 6 = .ok (.if_icmp .ge 43, 3) := by decide +kernel
theorem dX10_open_9 : decode cX10_open 9 = .ok (.iconst 0, 1) := by decide +kernel
theorem dX10_open_10 : decode cX10_open 10 = .ok (.istore 4, 2) := by decide +kernel
theorem dX10_open_12 : decode cX10_open 12 = .ok (.iload 4, 2) := by decide +kernel
theorem dX10_open_14 : decode cX10_open 14 = .ok (.iconst 2, 1) := by decide +kernel
theorem dX10_open_15 : decode cX10_open 15 = .ok (.if_icmp .ge 28, 3) := by decide +kernel
theorem dX10_open_18 : decode cX10_open 18 = .ok (.iload_n 2, 1) := by decide +kernel
theorem dX10_open_19 : decode cX10_open 19 = .ok (.aload_n 0, 1) := by decide +kernel
theorem dX10_open_20 : decode cX10_open 20 = .ok (.aload_n 1, 1) := by decide +kernel
theorem dX10_open_21 : decode cX10_open 21 = .ok (.iload_n 3, 1) := by decide +kernel
theorem dX10_open_22 : decode cX10_open 22 = .ok (.iload 4, 2) := by decide +kernel
theorem dX10_open_24 : decode cX10_open 24 = .ok (.invokevirtual 152, 3) := by decide +kernel
theorem dX10_open_27 : decode cX10_open 27 = .ok (.ifCond .eq 7, 3) := by decide +kernel
theorem dX10_open_34 : decode cX10_open 34 = .ok (.iconst 0, 1) := by decide +kernel
theorem dX10_open_35 : decode cX10_open 35 = .ok (.iadd, 1) := by decide +kernel
theorem dX10_open_36 : decode cX10_open 36 = .ok (.istore_n 2, 1) := by decide +kernel
theorem dX10_open_37 : decode cX10_open 37 = .ok (.iinc 4 1, 3) := by decide +kernel
theorem dX10_open_40 : decode cX10_open 40 = .ok (.goto (-28), 3) := by decide +kernel
theorem dX10_open_43 : decode cX10_open 43 = .ok (.iinc 3 1, 3) := by decide +kernel
theorem dX10_open_46 : decode cX10_open 46 = .ok (.goto (-42), 3) := by decide +kernel
theorem dX10_open_49 : decode cX10_open 49 = .ok (.iload_n 2, 1) := by decide +kernel
theorem dX10_open_50 : decode cX10_open 50 = .ok (.ireturn, 1) := by decide +kernel
theorem dX10_in_0 : decode cX10_in 0 = .ok (.iconst 0, 1) := by decide +kernel
theorem dX10_in_1 : decode cX10_in 1 = .ok (.istore_n 2, 1) := by decide +kernel
theorem dX10_in_2 : decode cX10_in 2 = .ok (.aload_n 0, 1) := by decide +kernel
theorem dX10_in_3 : decode cX10_in 3 = .ok (.getfield 19, 3) := by decide +kernel
theorem dX10_in_6 : decode cX10_in 6 = .ok (.invokevirtual 109, 3) := by decide +kernel
theorem dX10_in_9 : decode cX10_in 9 = .ok (.astore_n 3, 1) := by decide +kernel
theorem dX10_in_10 : decode cX10_in 10 = .ok (.aload_n 3, 1) := by decide +kernel
theorem dX10_in_11 : decode cX10_in 11 = .ok (.invokeinterface 113 1, 5) := by decide +kernel
theorem dX10_in_16 : decode cX10_in 16 = .ok (.ifCond .eq 34, 3) := by decide +kernel
theorem dX10_in_50 : decode cX10_in 50 = .ok (.iload_n 2, 1) := by decide +kernel
theorem dX10_in_51 : decode cX10_in 51 = .ok (.ireturn, 1) := by decide +kernel
theorem dX10_dirty_0 : decode cX10_dirty 0 = .ok (.iconst 0, 1) := by decide +kernel
theorem dX10_dirty_1 : decode cX10_dirty 1 = .ok (.istore_n 1, 1) := by decide +kernel
theorem dX10_dirty_2 : decode cX10_dirty 2 = .ok (.aload_n 0, 1) := by decide +kernel
theorem dX10_dirty_3 : decode cX10_dirty 3 = .ok (.getfield 19, 3) := by decide +kernel
theorem dX10_dirty_6 : decode cX10_dirty 6 = .ok (.invokevirtual 109, 3) := by decide +kernel
theorem dX10_dirty_9 : decode cX10_dirty 9 = .ok (.astore_n 2, 1) := by decide +kernel
theorem dX10_dirty_10 : decode cX10_dirty 10 = .ok (.aload_n 2, 1) := by decide +kernel
theorem dX10_dirty_11 : decode cX10_dirty 11 = .ok (.invokeinterface 113 1, 5) := by decide +kernel
theorem dX10_dirty_16 : decode cX10_dirty 16 = .ok (.ifCond .eq 31, 3) := by decide +kernel
theorem dX10_dirty_47 : decode cX10_dirty 47 = .ok (.iload_n 1, 1) := by decide +kernel
theorem dX10_dirty_48 : decode cX10_dirty 48 = .ok (.ireturn, 1) := by decide +kernel
theorem dX10_count_0 : decode cX10_count 0 = .ok (.iconst 0, 1) := by decide +kernel
theorem dX10_count_1 : decode cX10_count 1 = .ok (.istore_n 2, 1) := by decide +kernel
theorem dX10_count_2 : decode cX10_count 2 = .ok (.iconst 0, 1) := by decide +kernel
theorem dX10_count_3 : decode cX10_count 3 = .ok (.istore_n 3, 1) := by decide +kernel
theorem dX10_count_4 : decode cX10_count 4 = .ok (.iconst 0, 1) := by decide +kernel
theorem dX10_count_5 : decode cX10_count 5 = .ok (.istore 4, 2) := by decide +kernel
theorem dX10_count_7 : decode cX10_count 7 = .ok (.iload 4, 2) := by decide +kernel
theorem dX10_count_9 : decode cX10_count 9 = .ok (.aload_n 0, 1) := by decide +kernel
theorem dX10_count_10 : decode cX10_count 10 = .ok (.getfield 16, 3) := by decide +kernel
theorem dX10_count_13 : decode cX10_count 13 = .ok (.invokevirtual 41, 3) := by decide +kernel
theorem dX10_count_16 : decode cX10_count 16 = .ok (.if_icmp .ge 45, 3) := by decide +kernel
theorem dX10_count_61 : decode cX10_count 61 = .ok (.bipush 12, 2) := by decide +kernel
theorem dX10_count_63 : decode cX10_count 63 = .ok (.newarray .int, 2) := by decide +kernel
theorem dX10_count_65 : decode cX10_count 65 = .ok (.dup, 1) := by decide +kernel
theorem dX10_count_66 : decode cX10_count 66 = .ok (.iconst 0, 1) := by decide +kernel
theorem dX10_count_67 : decode cX10_count 67 = .ok (.aload_n 0, 1) := by decide +kernel
theorem dX10_count_68 : decode cX10_count 68 = .ok (.getfield 10, 3) := by decide +kernel
theorem dX10_count_71 : decode cX10_count 71 = .ok (.invokevirtual 41, 3) := by decide +kernel
theorem dX10_count_74 : decode cX10_count 74 = .ok (.iastore, 1) := by decide +kernel
theorem dX10_count_75 : decode cX10_count 75 = .ok (.dup, 1) := by decide +kernel
theorem dX10_count_76 : decode cX10_count 76 = .ok (.iconst 1, 1) := by decide +kernel
theorem dX10_count_77 : decode cX10_count 77 = .ok (.aload_n 0, 1) := by decide +kernel
theorem dX10_count_78 : decode cX10_count 78 = .ok (.getfield 16, 3) := by decide +kernel
theorem dX10_count_81 : decode cX10_count 81 = .ok (.invokevirtual 41, 3) := by decide +kernel
theorem dX10_count_84 : decode cX10_count 84 = .ok (.iastore, 1) := by decide +kernel
theorem dX10_count_85 : decode cX10_count 85 = .ok (.dup, 1) := by decide +kernel
theorem dX10_count_86 : decode cX10_count 86 = .ok (.iconst 2, 1) := by decide +kernel
theorem dX10_count_87 : decode cX10_count 87 = .ok (.aload_n 0, 1) := by decide +kernel
theorem dX10_count_88 : decode cX10_count 88 = .ok (.iconst 0, 1) := by decide +kernel
theorem dX10_count_89 : decode cX10_count 89 = .ok (.invokevirtual 255, 3) := by decide +kernel
theorem dX10_count_92 : decode cX10_count 92 = .ok (.iastore, 1) := by decide +kernel
theorem dX10_count_93 : decode cX10_count 93 = .ok (.dup, 1) := by decide +kernel
theorem dX10_count_94 : decode cX10_count 94 = .ok (.iconst 3, 1) := by decide +kernel
theorem dX10_count_95 : decode cX10_count 95 = .ok (.aload_n 0, 1) := by decide +kernel
theorem dX10_count_96 : decode cX10_count 96 = .ok (.iconst 1, 1) := by decide +kernel
theorem dX10_count_97 : decode cX10_count 97 = .ok (.invokevirtual 255, 3) := by decide +kernel
theorem dX10_count_100 : decode cX10_count 100 = .ok (.iastore, 1) := by decide +kernel
theorem dX10_count_101 : decode cX10_count 101 = .ok (.dup, 1) := by decide +kernel
theorem dX10_count_102 : decode cX10_count 102 = .ok (.iconst 4, 1) := by decide +kernel
theorem dX10_count_103 : decode cX10_count 103 = .ok (.aload_n 0, 1) := by decide +kernel
theorem dX10_count_104 : decode cX10_count 104 = .ok (.iconst 2, 1) := by decide +kernel
theorem dX10_count_105 : decode cX10_count 105 = .ok (.invokevirtual 255, 3) := by decide +kernel
theorem dX10_count_108 : decode cX10_count 108 = .ok (.iastore, 1) := by decide +kernel
theorem dX10_count_109 : decode cX10_count 109 = .ok (.dup, 1) := by decide +kernel
theorem dX10_count_110 : decode cX10_count 110 = .ok (.iconst 5, 1) := by decide +kernel
theorem dX10_count_111 : decode cX10_count 111 = .ok (.aload_n 0, 1) := by decide +kernel
theorem dX10_count_112 : decode cX10_count 112 = .ok (.iconst 3, 1) := by decide +kernel
theorem dX10_count_113 : decode cX10_count 113 = .ok (.invokevirtual 255, 3) := by decide +kernel
theorem dX10_count_116 : decode cX10_count 116 = .ok (.iastore, 1) := by decide +kernel
theorem dX10_count_117 : decode cX10_count 117 = .ok (.dup, 1) := by decide +kernel
theorem dX10_count_118 : decode cX10_count 118 = .ok (.bipush 6, 2) := by decide +kernel
theorem dX10_count_120 : decode cX10_count 120 = .ok (.aload_n 0, 1) := by decide +kernel
theorem dX10_count_121 : decode cX10_count 121 = .ok (.getfield 24, 3) := by decide +kernel
theorem dX10_count_124 : decode cX10_count 124 = .ok (.invokestatic 138, 3) := by decide +kernel
theorem dX10_count_127 : decode cX10_count 127 = .ok (.iastore, 1) := by decide +kernel
theorem dX10_count_128 : decode cX10_count 128 = .ok (.dup, 1) := by decide +kernel
theorem dX10_count_129 : decode cX10_count 129 = .ok (.bipush 7, 2) := by decide +kernel
theorem dX10_count_131 : decode cX10_count 131 = .ok (.aload_n 0, 1) := by decide +kernel
theorem dX10_count_132 : decode cX10_count 132 = .ok (.aload_n 0, 1) := by decide +kernel
theorem dX10_count_133 : decode cX10_count 133 = .ok (.iconst 0, 1) := by decide +kernel
theorem dX10_count_134 : decode cX10_count 134 = .ok (.invokevirtual 148, 3) := by decide +kernel
theorem dX10_count_137 : decode cX10_count 137 = .ok (.invokevirtual 258, 3) := by decide +kernel
theorem dX10_count_140 : decode cX10_count 140 = .ok (.iastore, 1) := by decide +kernel
theorem dX10_count_141 : decode cX10_count 141 = .ok (.dup, 1) := by decide +kernel
theorem dX10_count_142 : decode cX10_count 142 = .ok (.bipush 8, 2) := by decide +kernel
theorem dX10_count_144 : decode cX10_count 144 = .ok (.iload_n 2, 1) := by decide +kernel
theorem dX10_count_145 : decode cX10_count 145 = .ok (.iastore, 1) := by decide +kernel
theorem dX10_count_146 : decode cX10_count 146 = .ok (.dup, 1) := by decide +kernel
theorem dX10_count_147 : decode cX10_count 147 = .ok (.bipush 9, 2) := by decide +kernel
theorem dX10_count_149 : decode cX10_count 149 = .ok (.iload_n 3, 1) := by decide +kernel
theorem dX10_count_150 : decode cX10_count 150 = .ok (.iastore, 1) := by decide +kernel
theorem dX10_count_151 : decode cX10_count 151 = .ok (.dup, 1) := by decide +kernel
theorem dX10_count_152 : decode cX10_count 152 = .ok (.bipush 10, 2) := by decide +kernel
theorem dX10_count_154 : decode cX10_count 154 = .ok (.aload_n 0, 1) := by decide +kernel
theorem dX10_count_155 : decode cX10_count 155 = .ok (.getfield 27, 3) := by decide +kernel
theorem dX10_count_158 : decode cX10_count 158 = .ok (.invokevirtual 41, 3) := by decide +kernel
theorem dX10_count_161 : decode cX10_count 161 = .ok (.iastore, 1) := by decide +kernel
theorem dX10_count_162 : decode cX10_count 162 = .ok (.dup, 1) := by decide +kernel
theorem dX10_count_163 : decode cX10_count 163 = .ok (.bipush 11, 2) := by decide +kernel
theorem dX10_count_165 : decode cX10_count 165 = .ok (.aload_n 0, 1) := by decide +kernel
theorem dX10_count_166 : decode cX10_count 166 = .ok (.getfield 193, 3) := by decide +kernel
theorem dX10_count_169 : decode cX10_count 169 = .ok (.iastore, 1) := by decide +kernel
theorem dX10_count_170 : decode cX10_count 170 = .ok (.astore 4, 2) := by decide +kernel
theorem dX10_count_172 : decode cX10_count 172 = .ok (.aload 4, 2) := by decide +kernel
theorem dX10_count_174 : decode cX10_count 174 = .ok (.iload_n 1, 1) := by decide +kernel
theorem dX10_count_175 : decode cX10_count 175 = .ok (.iaload, 1) := by decide +kernel
theorem dX10_count_176 : decode cX10_count 176 = .ok (.ireturn, 1) := by decide +kernel
theorem dX10_ofCellNow_0 : decode cX10_ofCellNow 0 = .ok (.aload_n 0, 1) := by decide +kernel
theorem dX10_ofCellNow_1 : decode cX10_ofCellNow 1 = .ok (.iconst 0, 1) := by decide +kernel
theorem dX10_ofCellNow_2 : decode cX10_ofCellNow 2 = .ok (.invokevirtual 148, 3) := by decide +kernel
theorem dX10_ofCellNow_5 : decode cX10_ofCellNow 5 = .ok (.astore 4, 2) := by decide +kernel
theorem dX10_ofCellNow_7 : decode cX10_ofCellNow 7 = .ok (.iload_n 3, 1) := by decide +kernel
theorem dX10_ofCellNow_8 : decode cX10_ofCellNow 8 = .ok (.ifCond .ne 12, 3) := by decide +kernel
theorem dX10_ofCellNow_20 : decode cX10_ofCellNow 20 = .ok (.iload_n 3, 1) := by decide +kernel
theorem dX10_ofCellNow_21 : decode cX10_ofCellNow 21 = .ok (.iconst 1, 1) := by decide +kernel
theorem dX10_ofCellNow_22 : decode cX10_ofCellNow 22 = .ok (.if_icmp .ne 10, 3) := by decide +kernel
theorem dX10_ofCellNow_32 : decode cX10_ofCellNow 32 = .ok (.iload_n 3, 1) := by decide +kernel
theorem dX10_ofCellNow_33 : decode cX10_ofCellNow 33 = .ok (.iconst 2, 1) := by decide +kernel
theorem dX10_ofCellNow_34 : decode cX10_ofCellNow 34 = .ok (.if_icmp .ne 20, 3) := by decide +kernel
theorem dX10_ofCellNow_54 : decode cX10_ofCellNow 54 = .ok (.iconst 0, 1) := by decide +kernel
theorem dX10_ofCellNow_55 : decode cX10_ofCellNow 55 = .ok (.istore 5, 2) := by decide +kernel
theorem dX10_ofCellNow_57 : decode cX10_ofCellNow 57 = .ok (.iconst 0, 1) := by decide +kernel
theorem dX10_ofCellNow_58 : decode cX10_ofCellNow 58 = .ok (.istore 6, 2) := by decide +kernel
theorem dX10_ofCellNow_60 : decode cX10_ofCellNow 60 = .ok (.iload 6, 2) := by decide +kernel
theorem dX10_ofCellNow_62 : decode cX10_ofCellNow 62 = .ok (.aload_n 0, 1) := by decide +kernel
theorem dX10_ofCellNow_63 : decode cX10_ofCellNow 63 = .ok (.getfield 16, 3) := by decide +kernel
theorem dX10_ofCellNow_66 : decode cX10_ofCellNow 66 = .ok (.invokevirtual 41, 3) := by decide +kernel
theorem dX10_ofCellNow_69 : decode cX10_ofCellNow 69 = .ok (.if_icmp .ge 54, 3) := by decide +kernel
theorem dX10_ofCellNow_123 : decode cX10_ofCellNow 123 = .ok (.iload 5, 2) := by decide +kernel
theorem dX10_ofCellNow_125 : decode cX10_ofCellNow 125 = .ok (.ireturn, 1) := by decide +kernel
theorem dX10_ofCellNow_37 : decode cX10_ofCellNow 37 = .ok (.aload_n 0, 1) := by decide +kernel
theorem dX10_ofCellNow_38 : decode cX10_ofCellNow 38 = .ok (.aload 4, 2) := by decide +kernel
theorem dX10_ofCellNow_40 : decode cX10_ofCellNow 40 = .ok (.iload_n 1, 1) := by decide +kernel
theorem dX10_ofCellNow_41 : decode cX10_ofCellNow 41 = .ok (.iload_n 2, 1) := by decide +kernel
theorem dX10_ofCellNow_42 : decode cX10_ofCellNow 42 = .ok (.invokevirtual 152, 3) := by decide +kernel
theorem dX10_ofCellNow_45 : decode cX10_ofCellNow 45 = .ok (.ifCond .eq 7, 3) := by decide +kernel
theorem dX10_ofCellNow_52 : decode cX10_ofCellNow 52 = .ok (.iconst 0, 1) := by decide +kernel
theorem dX10_ofCellNow_53 : decode cX10_ofCellNow 53 = .ok (.ireturn, 1) := by decide +kernel
theorem dX10_ofCellNow_25 : decode cX10_ofCellNow 25 = .ok (.aload 4, 2) := by decide +kernel
theorem dX10_ofCellNow_27 : decode cX10_ofCellNow 27 = .ok (.iload_n 1, 1) := by decide +kernel
theorem dX10_ofCellNow_28 : decode cX10_ofCellNow 28 = .ok (.aaload, 1) := by decide +kernel
theorem dX10_ofCellNow_29 : decode cX10_ofCellNow 29 = .ok (.iload_n 2, 1) := by decide +kernel
theorem dX10_ofCellNow_30 : decode cX10_ofCellNow 30 = .ok (.iaload, 1) := by decide +kernel
theorem dX10_ofCellNow_31 : decode cX10_ofCellNow 31 = .ok (.ireturn, 1) := by decide +kernel
theorem dX10_ofCellNow_11 : decode cX10_ofCellNow 11 = .ok (.aload_n 0, 1) := by decide +kernel
theorem dX10_ofCellNow_12 : decode cX10_ofCellNow 12 = .ok (.getfield 24, 3) := by decide +kernel
theorem dX10_ofCellNow_15 : decode cX10_ofCellNow 15 = .ok (.iload_n 1, 1) := by decide +kernel
theorem dX10_ofCellNow_16 : decode cX10_ofCellNow 16 = .ok (.aaload, 1) := by decide +kernel
theorem dX10_ofCellNow_17 : decode cX10_ofCellNow 17 = .ok (.iload_n 2, 1) := by decide +kernel
theorem dX10_ofCellNow_18 : decode cX10_ofCellNow 18 = .ok (.iaload, 1) := by decide +kernel
theorem dX10_ofCellNow_19 : decode cX10_ofCellNow 19 = .ok (.ireturn, 1) := by decide +kernel
theorem dX10_nextNow_0 : decode cX10_nextNow 0 = .ok (.iconst (-1), 1) := by decide +kernel
theorem dX10_nextNow_1 : decode cX10_nextNow 1 = .ok (.istore_n 2, 1) := by decide +kernel
theorem dX10_nextNow_2 : decode cX10_nextNow 2 = .ok (.iconst 0, 1) := by decide +kernel
theorem dX10_nextNow_3 : decode cX10_nextNow 3 = .ok (.istore_n 3, 1) := by decide +kernel
theorem dX10_nextNow_4 : decode cX10_nextNow 4 = .ok (.iload_n 3, 1) := by decide +kernel
theorem dX10_nextNow_5 : decode cX10_nextNow 5 = .ok (.aload_n 0, 1) := by decide +kernel
theorem dX10_nextNow_6 : decode cX10_nextNow 6 = .ok (.getfield 16, 3) := by decide +kernel
theorem dX10_nextNow_9 : decode cX10_nextNow 9 = .ok (.invokevirtual 41, 3) := by decide +kernel
theorem dX10_nextNow_12 : decode cX10_nextNow 12 = .ok (.if_icmp .ge 124, 3) := by decide +kernel
theorem dX10_nextNow_136 : decode cX10_nextNow 136 = .ok (.iload_n 2, 1) := by decide +kernel
theorem dX10_nextNow_137 : decode cX10_nextNow 137 = .ok (.ireturn, 1) := by decide +kernel
theorem dX10_sum__0 : decode cX10_sum_ 0 = .ok (.lconst 0, 1) := by decide +kernel
theorem dX10_sum__1 : decode cX10_sum_ 1 = .ok (.lstore 4, 2) := by decide +kernel
theorem dX10_sum__3 : decode cX10_sum_ 3 = .ok (.iconst 0, 1) := by decide +kernel
theorem dX10_sum__4 : decode cX10_sum_ 4 = .ok (.istore 6, 2) := by decide +kernel
theorem dX10_sum__6 : decode cX10_sum_ 6 = .ok (.iload 6, 2) := by decide +kernel
theorem dX10_sum__8 : decode cX10_sum_ 8 = .ok (.aload_n 1, 1) := by decide +kernel
theorem dX10_sum__9 : decode cX10_sum_ 9 = .ok (.arraylength, 1) := by decide +kernel
theorem dX10_sum__10 : decode cX10_sum_ 10 = .ok (.if_icmp .ge 33, 3) := by decide +kernel
theorem dX10_sum__43 : decode cX10_sum_ 43 = .ok (.lload 4, 2) := by decide +kernel
theorem dX10_sum__45 : decode cX10_sum_ 45 = .ok (.lreturn, 1) := by decide +kernel
theorem dX10_rake_0 : decode cX10_rake 0 = .ok (.aload_n 0, 1) := by decide +kernel
theorem dX10_rake_1 : decode cX10_rake 1 = .ok (.aload_n 1, 1) := by decide +kernel
theorem dX10_rake_2 : decode cX10_rake 2 = .ok (.iload_n 2, 1) := by decide +kernel
theorem dX10_rake_3 : decode cX10_rake 3 = .ok (.iload_n 3, 1) := by decide +kernel
theorem dX10_rake_4 : decode cX10_rake 4 = .ok (.invokevirtual 229, 3) := by decide +kernel
theorem dX10_rake_7 : decode cX10_rake 7 = .ok (.lstore 4, 2) := by decide +kernel
theorem dX10_rake_9 : decode cX10_rake 9 = .ok (.iconst 0, 1) := by decide +kernel
theorem dX10_rake_10 : decode cX10_rake 10 = .ok (.istore 6, 2) := by decide +kernel
theorem dX10_rake_12 : decode cX10_rake 12 = .ok (.iload 6, 2) := by decide +kernel
theorem dX10_rake_14 : decode cX10_rake 14 = .ok (.aload_n 1, 1) := by decide +kernel
theorem dX10_rake_15 : decode cX10_rake 15 = .ok (.arraylength, 1) := by decide +kernel
theorem dX10_rake_16 : decode cX10_rake 16 = .ok (.if_icmp .ge 46, 3) := by decide +kernel
theorem dX10_rake_62 : decode cX10_rake 62 = .ok (.return_, 1) := by decide +kernel
theorem dX10_weights_0 : decode cX10_weights 0 = .ok (.aload_n 0, 1) := by decide +kernel
theorem dX10_weights_1 : decode cX10_weights 1 = .ok (.getfield 19, 3) := by decide +kernel
theorem dX10_weights_4 : decode cX10_weights 4 = .ok (.invokevirtual 41, 3) := by decide +kernel
theorem dX10_weights_7 : decode cX10_weights 7 = .ok (.newarray .long, 2) := by decide +kernel
theorem dX10_weights_9 : decode cX10_weights 9 = .ok (.astore_n 2, 1) := by decide +kernel
theorem dX10_weights_10 : decode cX10_weights 10 = .ok (.iconst 0, 1) := by decide +kernel
theorem dX10_weights_11 : decode cX10_weights 11 = .ok (.istore_n 3, 1) := by decide +kernel
theorem dX10_weights_12 : decode cX10_weights 12 = .ok (.iload_n 3, 1) := by decide +kernel
theorem dX10_weights_13 : decode cX10_weights 13 = .ok (.aload_n 2, 1) := by decide +kernel
theorem dX10_weights_14 : decode cX10_weights 14 = .ok (.arraylength, 1) := by decide +kernel
theorem dX10_weights_15 : decode cX10_weights 15 = .ok (.if_icmp .ge 37, 3) := by decide +kernel
theorem dX10_weights_52 : decode cX10_weights 52 = .ok (.iconst 0, 1) := by decide +kernel
theorem dX10_weights_53 : decode cX10_weights 53 = .ok (.istore_n 3, 1) := by decide +kernel
theorem dX10_weights_54 : decode cX10_weights 54 = .ok (.iload_n 3, 1) := by decide +kernel
theorem dX10_weights_55 : decode cX10_weights 55 = .ok (.iload_n 1, 1) := by decide +kernel
theorem dX10_weights_56 : decode cX10_weights 56 = .ok (.if_icmp .ge 55, 3) := by decide +kernel
theorem dX10_weights_59 : decode cX10_weights 59 = .ok (.iconst 0, 1) := by decide +kernel
theorem dX10_weights_60 : decode cX10_weights 60 = .ok (.istore 4, 2) := by decide +kernel
theorem dX10_weights_62 : decode cX10_weights 62 = .ok (.iload 4, 2) := by decide +kernel
theorem dX10_weights_64 : decode cX10_weights 64 = .ok (.iconst 3, 1) := by decide +kernel
theorem dX10_weights_65 : decode cX10_weights 65 = .ok (.if_icmp .ge 17, 3) := by decide +kernel
theorem dX10_weights_68 : decode cX10_weights 68 = .ok (.aload_n 0, 1) := by decide +kernel
theorem dX10_weights_69 : decode cX10_weights 69 = .ok (.aload_n 2, 1) := by decide +kernel
theorem dX10_weights_70 : decode cX10_weights 70 = .ok (.iload 4, 2) := by decide +kernel
theorem dX10_weights_72 : decode cX10_weights 72 = .ok (.iconst (-1), 1) := by decide +kernel
theorem dX10_weights_73 : decode cX10_weights 73 = .ok (.invokevirtual 223, 3) := by decide +kernel
theorem dX10_weights_76 : decode cX10_weights 76 = .ok (.iinc 4 1, 3) := by decide +kernel
theorem dX10_weights_79 : decode cX10_weights 79 = .ok (.goto (-17), 3) := by decide +kernel
theorem dX10_weights_82 : decode cX10_weights 82 = .ok (.iconst 0, 1) := by decide +kernel
theorem dX10_weights_83 : decode cX10_weights 83 = .ok (.istore 4, 2) := by decide +kernel
theorem dX10_weights_85 : decode cX10_weights 85 = .ok (.iload 4, 2) := by decide +kernel
theorem dX10_weights_87 : decode cX10_weights 87 = .ok (.iconst 2, 1) := by decide +kernel
theorem dX10_weights_88 : decode cX10_weights 88 = .ok (.if_icmp .ge 17, 3) := by decide +kernel
theorem dX10_weights_91 : decode cX10_weights 91 = .ok (.aload_n 0, 1) := by decide +kernel
theorem dX10_weights_92 : decode cX10_weights 92 = .ok (.aload_n 2, 1) := by decide +kernel
theorem dX10_weights_93 : decode cX10_weights 93 = .ok (.iconst (-1), 1) := by decide +kernel
theorem dX10_weights_94 : decode cX10_weights 94 = .ok (.iload 4, 2) := by decide +kernel
theorem dX10_weights_96 : decode cX10_weights 96 = .ok (.invokevirtual 223, 3) := by decide +kernel
theorem dX10_weights_99 : decode cX10_weights 99 = .ok (.iinc 4 1, 3) := by decide +kernel
theorem dX10_weights_102 : decode cX10_weights 102 = .ok (.goto (-17), 3) := by decide +kernel
theorem dX10_weights_105 : decode cX10_weights 105 = .ok (.iinc 3 1, 3) := by decide +kernel
theorem dX10_weights_108 : decode cX10_weights 108 = .ok (.goto (-54), 3) := by decide +kernel
theorem dX10_weights_111 : decode cX10_weights 111 = .ok (.aload_n 2, 1) := by decide +kernel
theorem dX10_weights_112 : decode cX10_weights 112 = .ok (.areturn, 1) := by decide +kernel
theorem dX10_offNow_0 : decode cX10_offNow 0 = .ok (.aload_n 0, 1) := by decide +kernel
theorem dX10_offNow_1 : decode cX10_offNow 1 = .ok (.iload_n 1, 1) := by decide +kernel
theorem dX10_offNow_2 : decode cX10_offNow 2 = .ok (.invokevirtual 235, 3) := by decide +kernel
theorem dX10_offNow_5 : decode cX10_offNow 5 = .ok (.astore_n 2, 1) := by decide +kernel
theorem dX10_offNow_6 : decode cX10_offNow 6 = .ok (.lconst 0, 1) := by decide +kernel
theorem dX10_offNow_7 : decode cX10_offNow 7 = .ok (.lstore_n 3, 1) := by decide +kernel
theorem dX10_offNow_8 : decode cX10_offNow 8 = .ok (.iconst 0, 1) := by decide +kernel
theorem dX10_offNow_9 : decode cX10_offNow 9 = .ok (.istore 5, 2) := by decide +kernel
theorem dX10_offNow_11 : decode cX10_offNow 11 = .ok (.iload 5, 2) := by decide +kernel
theorem dX10_offNow_13 : decode cX10_offNow 13 = .ok (.iconst 3, 1) := by decide +kernel
theorem dX10_offNow_14 : decode cX10_offNow 14 = .ok (.if_icmp .ge 47, 3) := by decide +kernel
theorem dX10_offNow_17 : decode cX10_offNow 17 = .ok (.aload_n 0, 1) := by decide +kernel
theorem dX10_offNow_18 : decode cX10_offNow 18 = .ok (.aload_n 2, 1) := by decide +kernel
theorem dX10_offNow_19 : decode cX10_offNow 19 = .ok (.iload 5, 2) := by decide +kernel
theorem dX10_offNow_21 : decode cX10_offNow 21 = .ok (.iconst (-1), 1) := by decide +kernel
theorem dX10_offNow_22 : decode cX10_offNow 22 = .ok (.invokevirtual 229, 3) := by decide +kernel
theorem dX10_offNow_25 : decode cX10_offNow 25 = .ok (.lconst 0, 1) := by decide +kernel
theorem dX10_offNow_26 : decode cX10_offNow 26 = .ok (.lcmp, 1) := by decide +kernel
theorem dX10_offNow_27 : decode cX10_offNow 27 = .ok (.ifCond .le 28, 3) := by decide +kernel
theorem dX10_offNow_55 : decode cX10_offNow 55 = .ok (.iinc 5 1, 3) := by decide +kernel
theorem dX10_offNow_58 : decode cX10_offNow 58 = .ok (.goto (-47), 3) := by decide +kernel
theorem dX10_offNow_61 : decode cX10_offNow 61 = .ok (.iconst 0, 1) := by decide +kernel
theorem dX10_offNow_62 : decode cX10_offNow 62 = .ok (.istore 5, 2) := by decide +kernel
theorem dX10_offNow_64 : decode cX10_offNow 64 = .ok (.iload 5, 2) := by decide +kernel
theorem dX10_offNow_66 : decode cX10_offNow 66 = .ok (.iconst 2, 1) := by decide +kernel
theorem dX10_offNow_67 : decode cX10_offNow 67 = .ok (.if_icmp .ge 47, 3) := by decide +kernel
theorem dX10_offNow_70 : decode cX10_offNow 70 = .ok (.aload_n 0, 1) := by decide +kernel
theorem dX10_offNow_71 : decode cX10_offNow 71 = .ok (.aload_n 2, 1) := by decide +kernel
theorem dX10_offNow_72 : decode cX10_offNow 72 = .ok (.iconst (-1), 1) := by decide +kernel
theorem dX10_offNow_73 : decode cX10_offNow 73 = .ok (.iload 5, 2) := by decide +kernel
theorem dX10_offNow_75 : decode cX10_offNow 75 = .ok (.invokevirtual 229, 3) := by decide +kernel
theorem dX10_offNow_78 : decode cX10_offNow 78 = .ok (.lconst 0, 1) := by decide +kernel
theorem dX10_offNow_79 : decode cX10_offNow 79 = .ok (.lcmp, 1) := by decide +kernel
theorem dX10_offNow_80 : decode cX10_offNow 80 = .ok (.ifCond .le 28, 3) := by decide +kernel
theorem dX10_offNow_108 : decode cX10_offNow 108 = .ok (.iinc 5 1, 3) := by decide +kernel
theorem dX10_offNow_111 : decode cX10_offNow 111 = .ok (.goto (-47), 3) := by decide +kernel
theorem dX10_offNow_114 : decode cX10_offNow 114 = .ok (.lload_n 3, 1) := by decide +kernel
theorem dX10_offNow_115 : decode cX10_offNow 115 = .ok (.l2i, 1) := by decide +kernel
theorem dX10_offNow_116 : decode cX10_offNow 116 = .ok (.ireturn, 1) := by decide +kernel
theorem dX10_cleanedNow_0 : decode cX10_cleanedNow 0 = .ok (.aload_n 0, 1) := by decide +kernel
theorem dX10_cleanedNow_1 : decode cX10_cleanedNow 1 = .ok (.invokevirtual 252, 3) := by decide +kernel
theorem dX10_cleanedNow_4 : decode cX10_cleanedNow 4 = .ok (.istore_n 1, 1) := by decide +kernel
theorem dX10_cleanedNow_5 : decode cX10_cleanedNow 5 = .ok (.aload_n 0, 1) := by decide +kernel
theorem dX10_cleanedNow_6 : decode cX10_cleanedNow 6 = .ok (.iconst 0, 1) := by decide +kernel
theorem dX10_cleanedNow_7 : decode cX10_cleanedNow 7 = .ok (.invokevirtual 148, 3) := by decide +kernel
theorem dX10_cleanedNow_10 : decode cX10_cleanedNow 10 = .ok (.astore_n 2, 1) := by decide +kernel
theorem dX10_cleanedNow_11 : decode cX10_cleanedNow 11 = .ok (.aload_n 0, 1) := by decide +kernel
theorem dX10_cleanedNow_12 : decode cX10_cleanedNow 12 = .ok (.iconst 1, 1) := by decide +kernel
theorem dX10_cleanedNow_13 : decode cX10_cleanedNow 13 = .ok (.invokevirtual 148, 3) := by decide +kernel
theorem dX10_cleanedNow_16 : decode cX10_cleanedNow 16 = .ok (.astore_n 3, 1) := by decide +kernel
theorem dX10_cleanedNow_17 : decode cX10_cleanedNow 17 = .ok (.iconst 0, 1) := by decide +kernel
theorem dX10_cleanedNow_18 : decode cX10_cleanedNow 18 = .ok (.istore 4, 2) := by decide +kernel
theorem dX10_cleanedNow_20 : decode cX10_cleanedNow 20 = .ok (.iload 4, 2) := by decide +kernel
theorem dX10_cleanedNow_22 : decode cX10_cleanedNow 22 = .ok (.iconst 3, 1) := by decide +kernel
theorem dX10_cleanedNow_23 : decode cX10_cleanedNow 23 = .ok (.if_icmp .ge 57, 3) := by decide +kernel
theorem dX10_cleanedNow_26 : decode cX10_cleanedNow 26 = .ok (.iconst 0, 1) := by decide +kernel
theorem dX10_cleanedNow_27 : decode cX10_cleanedNow 27 = .ok (.istore 5, 2) := by decide +kernel
theorem dX10_cleanedNow_29 : decode cX10_cleanedNow 29 = .ok (.iload 5, 2) := by decide +kernel
theorem dX10_cleanedNow_31 : decode cX10_cleanedNow 31 = .ok (.iconst 2, 1) := by decide +kernel
theorem dX10_cleanedNow_32 : decode cX10_cleanedNow 32 = .ok (.if_icmp .ge 42, 3) := by decide +kernel
theorem dX10_cleanedNow_35 : decode cX10_cleanedNow 35 = .ok (.iload_n 1, 1) := by decide +kernel
theorem dX10_cleanedNow_36 : decode cX10_cleanedNow 36 = .ok (.aload_n 0, 1) := by decide +kernel
theorem dX10_cleanedNow_37 : decode cX10_cleanedNow 37 = .ok (.aload_n 2, 1) := by decide +kernel
theorem dX10_cleanedNow_38 : decode cX10_cleanedNow 38 = .ok (.iload 4, 2) := by decide +kernel
theorem dX10_cleanedNow_40 : decode cX10_cleanedNow 40 = .ok (.iload 5, 2) := by decide +kernel
theorem dX10_cleanedNow_42 : decode cX10_cleanedNow 42 = .ok (.invokevirtual 152, 3) := by decide +kernel
theorem dX10_cleanedNow_45 : decode cX10_cleanedNow 45 = .ok (.ifCond .ne 20, 3) := by decide +kernel
theorem dX10_cleanedNow_48 : decode cX10_cleanedNow 48 = .ok (.aload_n 0, 1) := by decide +kernel
theorem dX10_cleanedNow_49 : decode cX10_cleanedNow 49 = .ok (.aload_n 3, 1) := by decide +kernel
theorem dX10_cleanedNow_50 : decode cX10_cleanedNow 50 = .ok (.iload 4, 2) := by decide +kernel
theorem dX10_cleanedNow_52 : decode cX10_cleanedNow 52 = .ok (.iload 5, 2) := by decide +kernel
theorem dX10_cleanedNow_54 : decode cX10_cleanedNow 54 = .ok (.invokevirtual 152, 3) := by decide +kernel
theorem dX10_cleanedNow_57 : decode cX10_cleanedNow 57 = .ok (.ifCond .eq 8, 3) := by decide +kernel
theorem dX10_cleanedNow_65 : decode cX10_cleanedNow 65 = .ok (.iconst 0, 1) := by decide +kernel
theorem dX10_cleanedNow_66 : decode cX10_cleanedNow 66 = .ok (.iadd, 1) := by decide +kernel
theorem dX10_cleanedNow_67 : decode cX10_cleanedNow 67 = .ok (.istore_n 1, 1) := by decide +kernel
theorem dX10_cleanedNow_68 : decode cX10_cleanedNow 68 = .ok (.iinc 5 1, 3) := by decide +kernel
theorem dX10_cleanedNow_71 : decode cX10_cleanedNow 71 = .ok (.goto (-42), 3) := by decide +kernel
theorem dX10_cleanedNow_74 : decode cX10_cleanedNow 74 = .ok (.iinc 4 1, 3) := by decide +kernel
theorem dX10_cleanedNow_77 : decode cX10_cleanedNow 77 = .ok (.goto (-57), 3) := by decide +kernel
theorem dX10_cleanedNow_80 : decode cX10_cleanedNow 80 = .ok (.iload_n 1, 1) := by decide +kernel
theorem dX10_cleanedNow_81 : decode cX10_cleanedNow 81 = .ok (.ireturn, 1) := by decide +kernel
theorem dX10_add_0 : decode cX10_add 0 = .ok (.lload_n 0, 1) := by decide +kernel
theorem dX10_add_1 : decode cX10_add 1 = .ok (.ldc2_w 286, 3) := by decide +kernel
theorem dX10_add_4 : decode cX10_add 4 = .ok (.lmul, 1) := by decide +kernel
theorem dX10_add_5 : decode cX10_add 5 = .ok (.lload_n 2, 1) := by decide +kernel
theorem dX10_add_6 : decode cX10_add 6 = .ok (.ladd, 1) := by decide +kernel
theorem dX10_add_7 : decode cX10_add 7 = .ok (.lreturn, 1) := by decide +kernel
theorem dX10_question_0 : decode cX10_question 0 = .ok (.aload_n 0, 1) := by decide +kernel
theorem dX10_question_1 : decode cX10_question 1 = .ok (.iload_n 1, 1) := by decide +kernel
theorem dX10_question_2 : decode cX10_question 2 = .ok (.iconst 2, 1) := by decide +kernel
theorem dX10_question_3 : decode cX10_question 3 = .ok (.iconst 5, 1) := by decide +kernel
theorem dX10_question_4 : decode cX10_question 4 = .ok (.invokestatic 45, 3) := by decide +kernel
theorem dX10_question_7 : decode cX10_question 7 = .ok (.ifCond .ne 7, 3) := by decide +kernel
theorem dX10_question_10 : decode cX10_question 10 = .ok (.iconst 1, 1) := by decide +kernel
theorem dX10_question_11 : decode cX10_question 11 = .ok (.goto 4, 3) := by decide +kernel
theorem dX10_question_15 : decode cX10_question 15 = .ok (.iconst 1, 1) := by decide +kernel
theorem dX10_question_16 : decode cX10_question 16 = .ok (.invokevirtual 63, 3) := by decide +kernel
theorem dX10_question_19 : decode cX10_question 19 = .ok (.ifCond .ne 38, 3) := by decide +kernel
theorem dX10_question_57 : decode cX10_question 57 = .ok (.iconst 0, 1) := by decide +kernel
theorem dX10_question_58 : decode cX10_question 58 = .ok (.ireturn, 1) := by decide +kernel
theorem dX10_route_0 : decode cX10_route 0 = .ok (.aload_n 0, 1) := by decide +kernel
theorem dX10_route_1 : decode cX10_route 1 = .ok (.aload_n 0, 1) := by decide +kernel
theorem dX10_route_2 : decode cX10_route 2 = .ok (.iload_n 1, 1) := by decide +kernel
theorem dX10_route_3 : decode cX10_route 3 = .ok (.iload_n 2, 1) := by decide +kernel
theorem dX10_route_4 : decode cX10_route 4 = .ok (.invokevirtual 81, 3) := by decide +kernel
theorem dX10_route_7 : decode cX10_route 7 = .ok (.ifCond .ne 16, 3) := by decide +kernel
theorem dX10_route_23 : decode cX10_route 23 = .ok (.iconst 1, 1) := by decide +kernel
theorem dX10_route_24 : decode cX10_route 24 = .ok (.goto 4, 3) := by decide +kernel
theorem dX10_route_28 : decode cX10_route 28 = .ok (.iconst 1, 1) := by decide +kernel
theorem dX10_route_29 : decode cX10_route 29 = .ok (.invokevirtual 63, 3) := by decide +kernel
theorem dX10_route_32 : decode cX10_route 32 = .ok (.ifCond .ne 49, 3) := by decide +kernel
theorem dX10_route_81 : decode cX10_route 81 = .ok (.iconst 0, 1) := by decide +kernel
theorem dX10_route_82 : decode cX10_route 82 = .ok (.ireturn, 1) := by decide +kernel
theorem dX10_behind_0 : decode cX10_behind 0 = .ok (.aload_n 0, 1) := by decide +kernel
theorem dX10_behind_1 : decode cX10_behind 1 = .ok (.aload_n 0, 1) := by decide +kernel
theorem dX10_behind_2 : decode cX10_behind 2 = .ok (.iload_n 1, 1) := by decide +kernel
theorem dX10_behind_3 : decode cX10_behind 3 = .ok (.iload_n 2, 1) := by decide +kernel
theorem dX10_behind_4 : decode cX10_behind 4 = .ok (.invokevirtual 81, 3) := by decide +kernel
theorem dX10_behind_7 : decode cX10_behind 7 = .ok (.iconst 1, 1) := by decide +kernel
theorem dX10_behind_8 : decode cX10_behind 8 = .ok (.invokevirtual 63, 3) := by decide +kernel
theorem dX10_behind_11 : decode cX10_behind 11 = .ok (.ifCond .eq 7, 3) := by decide +kernel
theorem dX10_behind_14 : decode cX10_behind 14 = .ok (.iconst 0, 1) := by decide +kernel
theorem dX10_behind_15 : decode cX10_behind 15 = .ok (.goto 9, 3) := by decide +kernel
theorem dX10_behind_24 : decode cX10_behind 24 = .ok (.ireturn, 1) := by decide +kernel
theorem dX10_person_0 : decode cX10_person 0 = .ok (.aload_n 0, 1) := by decide +kernel
theorem dX10_person_1 : decode cX10_person 1 = .ok (.iload_n 1, 1) := by decide +kernel
theorem dX10_person_2 : decode cX10_person 2 = .ok (.invokestatic 92, 3) := by decide +kernel
theorem dX10_person_5 : decode cX10_person 5 = .ok (.ifCond .ne 10, 3) := by decide +kernel
theorem dX10_person_15 : decode cX10_person 15 = .ok (.iconst 1, 1) := by decide +kernel
theorem dX10_person_16 : decode cX10_person 16 = .ok (.goto 4, 3) := by decide +kernel
theorem dX10_person_20 : decode cX10_person 20 = .ok (.iconst 1, 1) := by decide +kernel
theorem dX10_person_21 : decode cX10_person 21 = .ok (.invokevirtual 63, 3) := by decide +kernel
theorem dX10_person_24 : decode cX10_person 24 = .ok (.ifCond .ne 28, 3) := by decide +kernel
theorem dX10_person_52 : decode cX10_person 52 = .ok (.iconst 0, 1) := by decide +kernel
theorem dX10_person_53 : decode cX10_person 53 = .ok (.ireturn, 1) := by decide +kernel
theorem dX10_person_8 : decode cX10_person 8 = .ok (.iload_n 2, 1) := by decide +kernel
theorem dX10_person_9 : decode cX10_person 9 = .ok (.invokestatic 95, 3) := by decide +kernel
theorem dX10_person_12 : decode cX10_person 12 = .ok (.ifCond .eq 7, 3) := by decide +kernel
theorem dX10_target_0 : decode cX10_target 0 = .ok (.aload_n 0, 1) := by decide +kernel
theorem dX10_target_1 : decode cX10_target 1 = .ok (.iload_n 1, 1) := by decide +kernel
theorem dX10_target_2 : decode cX10_target 2 = .ok (.invokestatic 92, 3) := by decide +kernel
theorem dX10_target_5 : decode cX10_target 5 = .ok (.ifCond .ne 10, 3) := by decide +kernel
theorem dX10_target_15 : decode cX10_target 15 = .ok (.iconst 1, 1) := by decide +kernel
theorem dX10_target_16 : decode cX10_target 16 = .ok (.goto 4, 3) := by decide +kernel
theorem dX10_target_20 : decode cX10_target 20 = .ok (.iconst 1, 1) := by decide +kernel
theorem dX10_target_21 : decode cX10_target 21 = .ok (.invokevirtual 63, 3) := by decide +kernel
theorem dX10_target_24 : decode cX10_target 24 = .ok (.ifCond .ne 26, 3) := by decide +kernel
theorem dX10_target_50 : decode cX10_target 50 = .ok (.iconst 0, 1) := by decide +kernel
theorem dX10_target_51 : decode cX10_target 51 = .ok (.ireturn, 1) := by decide +kernel
theorem dX10_target_8 : decode cX10_target 8 = .ok (.iload_n 2, 1) := by decide +kernel
theorem dX10_target_9 : decode cX10_target 9 = .ok (.invokestatic 95, 3) := by decide +kernel
theorem dX10_target_12 : decode cX10_target 12 = .ok (.ifCond .eq 7, 3) := by decide +kernel
theorem dX10_ofCell_0 : decode cX10_ofCell 0 = .ok (.aload_n 0, 1) := by decide +kernel
theorem dX10_ofCell_1 : decode cX10_ofCell 1 = .ok (.iload_n 1, 1) := by decide +kernel
theorem dX10_ofCell_2 : decode cX10_ofCell 2 = .ok (.invokestatic 92, 3) := by decide +kernel
theorem dX10_ofCell_5 : decode cX10_ofCell 5 = .ok (.ifCond .ne 10, 3) := by decide +kernel
theorem dX10_ofCell_15 : decode cX10_ofCell 15 = .ok (.iconst 1, 1) := by decide +kernel
theorem dX10_ofCell_16 : decode cX10_ofCell 16 = .ok (.goto 4, 3) := by decide +kernel
theorem dX10_ofCell_20 : decode cX10_ofCell 20 = .ok (.iconst 1, 1) := by decide +kernel
theorem dX10_ofCell_21 : decode cX10_ofCell 21 = .ok (.invokevirtual 63, 3) := by decide +kernel
theorem dX10_ofCell_24 : decode cX10_ofCell 24 = .ok (.ifCond .ne 25, 3) := by decide +kernel
theorem dX10_ofCell_49 : decode cX10_ofCell 49 = .ok (.iconst 0, 1) := by decide +kernel
theorem dX10_ofCell_50 : decode cX10_ofCell 50 = .ok (.goto 10, 3) := by decide +kernel
theorem dX10_ofCell_60 : decode cX10_ofCell 60 = .ok (.ireturn, 1) := by decide +kernel
theorem dX10_ofCell_8 : decode cX10_ofCell 8 = .ok (.iload_n 2, 1) := by decide +kernel
theorem dX10_ofCell_9 : decode cX10_ofCell 9 = .ok (.invokestatic 95, 3) := by decide +kernel
theorem dX10_ofCell_12 : decode cX10_ofCell 12 = .ok (.ifCond .eq 7, 3) := by decide +kernel
theorem dX10_soft_0 : decode cX10_soft 0 = .ok (.aload_n 0, 1) := by decide +kernel
theorem dX10_soft_1 : decode cX10_soft 1 = .ok (.iload_n 1, 1) := by decide +kernel
theorem dX10_soft_2 : decode cX10_soft 2 = .ok (.iconst 0, 1) := by decide +kernel
theorem dX10_soft_3 : decode cX10_soft 3 = .ok (.iconst 3, 1) := by decide +kernel
theorem dX10_soft_4 : decode cX10_soft 4 = .ok (.invokestatic 45, 3) := by decide +kernel
theorem dX10_soft_7 : decode cX10_soft 7 = .ok (.ifCond .ne 7, 3) := by decide +kernel
theorem dX10_soft_10 : decode cX10_soft 10 = .ok (.iconst 1, 1) := by decide +kernel
theorem dX10_soft_11 : decode cX10_soft 11 = .ok (.goto 4, 3) := by decide +kernel
theorem dX10_soft_15 : decode cX10_soft 15 = .ok (.iconst 1, 1) := by decide +kernel
theorem dX10_soft_16 : decode cX10_soft 16 = .ok (.invokevirtual 63, 3) := by decide +kernel
theorem dX10_soft_19 : decode cX10_soft 19 = .ok (.ifCond .eq 5, 3) := by decide +kernel
theorem dX10_soft_22 : decode cX10_soft 22 = .ok (.iconst 0, 1) := by decide +kernel
theorem dX10_soft_23 : decode cX10_soft 23 = .ok (.ireturn, 1) := by decide +kernel
theorem dX10_ofPerson_0 : decode cX10_ofPerson 0 = .ok (.aload_n 0, 1) := by decide +kernel
theorem dX10_ofPerson_1 : decode cX10_ofPerson 1 = .ok (.iload_n 1, 1) := by decide +kernel
theorem dX10_ofPerson_2 : decode cX10_ofPerson 2 = .ok (.invokevirtual 175, 3) := by decide +kernel
theorem dX10_ofPerson_5 : decode cX10_ofPerson 5 = .ok (.ifCond .ne 25, 3) := by decide +kernel
theorem dX10_ofPerson_30 : decode cX10_ofPerson 30 = .ok (.iconst 0, 1) := by decide +kernel
theorem dX10_ofPerson_31 : decode cX10_ofPerson 31 = .ok (.goto 9, 3) := by decide +kernel
theorem dX10_ofPerson_40 : decode cX10_ofPerson 40 = .ok (.ireturn, 1) := by decide +kernel
theorem dX10_begin_0 : decode cX10_begin 0 = .ok (.aload_n 0, 1) := by decide +kernel
theorem dX10_begin_1 : decode cX10_begin 1 = .ok (.iload_n 1, 1) := by decide +kernel
theorem dX10_begin_2 : decode cX10_begin 2 = .ok (.invokevirtual 175, 3) := by decide +kernel
theorem dX10_begin_5 : decode cX10_begin 5 = .ok (.ifCond .ne 47, 3) := by decide +kernel
theorem dX10_begin_52 : decode cX10_begin 52 = .ok (.iconst 0, 1) := by decide +kernel
theorem dX10_begin_53 : decode cX10_begin 53 = .ok (.ireturn, 1) := by decide +kernel
theorem dX10_answer_0 : decode cX10_answer 0 = .ok (.aload_n 0, 1) := by decide +kernel
theorem dX10_answer_1 : decode cX10_answer 1 = .ok (.iload_n 1, 1) := by decide +kernel
theorem dX10_answer_2 : decode cX10_answer 2 = .ok (.invokevirtual 208, 3) := by decide +kernel
theorem dX10_answer_5 : decode cX10_answer 5 = .ok (.ifCond .ne 33, 3) := by decide +kernel
theorem dX10_answer_38 : decode cX10_answer 38 = .ok (.iconst 0, 1) := by decide +kernel
theorem dX10_answer_39 : decode cX10_answer 39 = .ok (.ireturn, 1) := by decide +kernel
theorem dX10_ofInterview_0 : decode cX10_ofInterview 0 = .ok (.aload_n 0, 1) := by decide +kernel
theorem dX10_ofInterview_1 : decode cX10_ofInterview 1 = .ok (.iload_n 1, 1) := by decide +kernel
theorem dX10_ofInterview_2 : decode cX10_ofInterview 2 = .ok (.invokevirtual 208, 3) := by decide +kernel
theorem dX10_ofInterview_5 : decode cX10_ofInterview 5 = .ok (.ifCond .ne 26, 3) := by decide +kernel
theorem dX10_ofInterview_31 : decode cX10_ofInterview 31 = .ok (.iconst 0, 1) := by decide +kernel
theorem dX10_ofInterview_32 : decode cX10_ofInterview 32 = .ok (.goto 26, 3) := by decide +kernel
theorem dX10_ofInterview_58 : decode cX10_ofInterview 58 = .ok (.ireturn, 1) := by decide +kernel
theorem dX10_given_0 : decode cX10_given 0 = .ok (.aload_n 0, 1) := by decide +kernel
theorem dX10_given_1 : decode cX10_given 1 = .ok (.iload_n 1, 1) := by decide +kernel
theorem dX10_given_2 : decode cX10_given 2 = .ok (.invokevirtual 208, 3) := by decide +kernel
theorem dX10_given_5 : decode cX10_given 5 = .ok (.ifCond .ne 16, 3) := by decide +kernel
theorem dX10_given_21 : decode cX10_given 21 = .ok (.iconst 0, 1) := by decide +kernel
theorem dX10_given_22 : decode cX10_given 22 = .ok (.goto 19, 3) := by decide +kernel
theorem dX10_given_41 : decode cX10_given 41 = .ok (.ireturn, 1) := by decide +kernel
theorem dX10_many_0 : decode cX10_many 0 = .ok (.aload_n 0, 1) := by decide +kernel
theorem dX10_many_1 : decode cX10_many 1 = .ok (.iload_n 1, 1) := by decide +kernel
theorem dX10_many_2 : decode cX10_many 2 = .ok (.iconst 0, 1) := by decide +kernel
theorem dX10_many_3 : decode cX10_many 3 = .ok (.bipush 11, 2) := by decide +kernel
theorem dX10_many_5 : decode cX10_many 5 = .ok (.invokestatic 45, 3) := by decide +kernel
theorem dX10_many_8 : decode cX10_many 8 = .ok (.ifCond .ne 7, 3) := by decide +kernel
theorem dX10_many_11 : decode cX10_many 11 = .ok (.iconst 1, 1) := by decide +kernel
theorem dX10_many_12 : decode cX10_many 12 = .ok (.goto 4, 3) := by decide +kernel
theorem dX10_many_16 : decode cX10_many 16 = .ok (.iconst 1, 1) := by decide +kernel
theorem dX10_many_17 : decode cX10_many 17 = .ok (.invokevirtual 63, 3) := by decide +kernel
theorem dX10_many_20 : decode cX10_many 20 = .ok (.ifCond .eq 7, 3) := by decide +kernel
theorem dX10_many_23 : decode cX10_many 23 = .ok (.iconst 0, 1) := by decide +kernel
theorem dX10_many_24 : decode cX10_many 24 = .ok (.goto 8, 3) := by decide +kernel
theorem dX10_many_32 : decode cX10_many 32 = .ok (.ireturn, 1) := by decide +kernel
theorem dX10_rounds_0 : decode cX10_rounds 0 = .ok (.aload_n 0, 1) := by decide +kernel
theorem dX10_rounds_1 : decode cX10_rounds 1 = .ok (.iload_n 1, 1) := by decide +kernel
theorem dX10_rounds_2 : decode cX10_rounds 2 = .ok (.invokestatic 264, 3) := by decide +kernel
theorem dX10_rounds_5 : decode cX10_rounds 5 = .ok (.iconst 1, 1) := by decide +kernel
theorem dX10_rounds_6 : decode cX10_rounds 6 = .ok (.invokevirtual 63, 3) := by decide +kernel
theorem dX10_rounds_9 : decode cX10_rounds 9 = .ok (.ifCond .eq 5, 3) := by decide +kernel
theorem dX10_rounds_12 : decode cX10_rounds 12 = .ok (.iconst 0, 1) := by decide +kernel
theorem dX10_rounds_13 : decode cX10_rounds 13 = .ok (.ireturn, 1) := by decide +kernel
theorem dX10_share_0 : decode cX10_share 0 = .ok (.aload_n 0, 1) := by decide +kernel
theorem dX10_share_1 : decode cX10_share 1 = .ok (.aload_n 0, 1) := by decide +kernel
theorem dX10_share_2 : decode cX10_share 2 = .ok (.iload_n 1, 1) := by decide +kernel
theorem dX10_share_3 : decode cX10_share 3 = .ok (.iload_n 2, 1) := by decide +kernel
theorem dX10_share_4 : decode cX10_share 4 = .ok (.invokevirtual 81, 3) := by decide +kernel
theorem dX10_share_7 : decode cX10_share 7 = .ok (.ifCond .ne 15, 3) := by decide +kernel
theorem dX10_share_22 : decode cX10_share 22 = .ok (.iconst 1, 1) := by decide +kernel
theorem dX10_share_23 : decode cX10_share 23 = .ok (.goto 4, 3) := by decide +kernel
theorem dX10_share_27 : decode cX10_share 27 = .ok (.iconst 1, 1) := by decide +kernel
theorem dX10_share_28 : decode cX10_share 28 = .ok (.invokevirtual 63, 3) := by decide +kernel
theorem dX10_share_31 : decode cX10_share 31 = .ok (.ifCond .eq 7, 3) := by decide +kernel
theorem dX10_share_34 : decode cX10_share 34 = .ok (.iconst 0, 1) := by decide +kernel
theorem dX10_share_35 : decode cX10_share 35 = .ok (.goto 18, 3) := by decide +kernel
theorem dX10_share_53 : decode cX10_share 53 = .ok (.ireturn, 1) := by decide +kernel
theorem dX10_isMarked_0 : decode cX10_isMarked 0 = .ok (.aload_n 0, 1) := by decide +kernel
theorem dX10_isMarked_1 : decode cX10_isMarked 1 = .ok (.aload_n 0, 1) := by decide +kernel
theorem dX10_isMarked_2 : decode cX10_isMarked 2 = .ok (.iload_n 1, 1) := by decide +kernel
theorem dX10_isMarked_3 : decode cX10_isMarked 3 = .ok (.iload_n 2, 1) := by decide +kernel
theorem dX10_isMarked_4 : decode cX10_isMarked 4 = .ok (.invokevirtual 81, 3) := by decide +kernel
theorem dX10_isMarked_7 : decode cX10_isMarked 7 = .ok (.ifCond .ne 18, 3) := by decide +kernel
theorem dX10_isMarked_25 : decode cX10_isMarked 25 = .ok (.iconst 1, 1) := by decide +kernel
theorem dX10_isMarked_26 : decode cX10_isMarked 26 = .ok (.goto 4, 3) := by decide +kernel
theorem dX10_isMarked_30 : decode cX10_isMarked 30 = .ok (.iconst 1, 1) := by decide +kernel
theorem dX10_isMarked_31 : decode cX10_isMarked 31 = .ok (.invokevirtual 63, 3) := by decide +kernel
theorem dX10_isMarked_34 : decode cX10_isMarked 34 = .ok (.ifCond .ne 22, 3) := by decide +kernel
theorem dX10_isMarked_56 : decode cX10_isMarked 56 = .ok (.iconst 0, 1) := by decide +kernel
theorem dX10_isMarked_57 : decode cX10_isMarked 57 = .ok (.ireturn, 1) := by decide +kernel
theorem dX10_held_0 : decode cX10_held 0 = .ok (.aload_n 0, 1) := by decide +kernel
theorem dX10_held_1 : decode cX10_held 1 = .ok (.iload_n 1, 1) := by decide +kernel
theorem dX10_held_2 : decode cX10_held 2 = .ok (.iconst 0, 1) := by decide +kernel
theorem dX10_held_3 : decode cX10_held 3 = .ok (.aload_n 0, 1) := by decide +kernel
theorem dX10_held_4 : decode cX10_held 4 = .ok (.getfield 27, 3) := by decide +kernel
theorem dX10_held_7 : decode cX10_held 7 = .ok (.invokevirtual 41, 3) := by decide +kernel
theorem dX10_held_10 : decode cX10_held 10 = .ok (.iconst 1, 1) := by decide +kernel
theorem dX10_held_11 : decode cX10_held 11 = .ok (.isub, 1) := by decide +kernel
theorem dX10_held_12 : decode cX10_held 12 = .ok (.invokestatic 45, 3) := by decide +kernel
theorem dX10_held_15 : decode cX10_held 15 = .ok (.ifCond .eq 12, 3) := by decide +kernel
theorem dX10_held_27 : decode cX10_held 27 = .ok (.iconst 1, 1) := by decide +kernel
theorem dX10_held_28 : decode cX10_held 28 = .ok (.goto 4, 3) := by decide +kernel
theorem dX10_held_32 : decode cX10_held 32 = .ok (.iconst 1, 1) := by decide +kernel
theorem dX10_held_33 : decode cX10_held 33 = .ok (.invokevirtual 63, 3) := by decide +kernel
theorem dX10_held_36 : decode cX10_held 36 = .ok (.ifCond .eq 5, 3) := by decide +kernel
theorem dX10_held_39 : decode cX10_held 39 = .ok (.iconst 0, 1) := by decide +kernel
theorem dX10_held_40 : decode cX10_held 40 = .ok (.ireturn, 1) := by decide +kernel
theorem dX10_nextIn_0 : decode cX10_nextIn 0 = .ok (.aload_n 0, 1) := by decide +kernel
theorem dX10_nextIn_1 : decode cX10_nextIn 1 = .ok (.iload_n 1, 1) := by decide +kernel
theorem dX10_nextIn_2 : decode cX10_nextIn 2 = .ok (.iconst 0, 1) := by decide +kernel
theorem dX10_nextIn_3 : decode cX10_nextIn 3 = .ok (.bipush 9, 2) := by decide +kernel
theorem dX10_nextIn_5 : decode cX10_nextIn 5 = .ok (.invokestatic 45, 3) := by decide +kernel
theorem dX10_nextIn_8 : decode cX10_nextIn 8 = .ok (.ifCond .ne 7, 3) := by decide +kernel
theorem dX10_nextIn_11 : decode cX10_nextIn 11 = .ok (.iconst 1, 1) := by decide +kernel
theorem dX10_nextIn_12 : decode cX10_nextIn 12 = .ok (.goto 4, 3) := by decide +kernel
theorem dX10_nextIn_16 : decode cX10_nextIn 16 = .ok (.iconst 1, 1) := by decide +kernel
theorem dX10_nextIn_17 : decode cX10_nextIn 17 = .ok (.invokevirtual 63, 3) := by decide +kernel
theorem dX10_nextIn_20 : decode cX10_nextIn 20 = .ok (.ifCond .eq 7, 3) := by decide +kernel
theorem dX10_nextIn_23 : decode cX10_nextIn 23 = .ok (.iconst 0, 1) := by decide +kernel
theorem dX10_nextIn_24 : decode cX10_nextIn 24 = .ok (.goto 8, 3) := by decide +kernel
theorem dX10_nextIn_32 : decode cX10_nextIn 32 = .ok (.ireturn, 1) := by decide +kernel
theorem dX10_offWith_0 : decode cX10_offWith 0 = .ok (.aload_n 0, 1) := by decide +kernel
theorem dX10_offWith_1 : decode cX10_offWith 1 = .ok (.iload_n 1, 1) := by decide +kernel
theorem dX10_offWith_2 : decode cX10_offWith 2 = .ok (.invokestatic 264, 3) := by decide +kernel
theorem dX10_offWith_5 : decode cX10_offWith 5 = .ok (.iconst 1, 1) := by decide +kernel
theorem dX10_offWith_6 : decode cX10_offWith 6 = .ok (.invokevirtual 63, 3) := by decide +kernel
theorem dX10_offWith_9 : decode cX10_offWith 9 = .ok (.ifCond .eq 7, 3) := by decide +kernel
theorem dX10_offWith_12 : decode cX10_offWith 12 = .ok (.iconst 0, 1) := by decide +kernel
theorem dX10_offWith_13 : decode cX10_offWith 13 = .ok (.goto 8, 3) := by decide +kernel
theorem dX10_offWith_21 : decode cX10_offWith 21 = .ok (.ireturn, 1) := by decide +kernel
theorem dX10_shortest_0 : decode cX10_shortest 0 = .ok (.aload_n 0, 1) := by decide +kernel
theorem dX10_shortest_1 : decode cX10_shortest 1 = .ok (.aload_n 0, 1) := by decide +kernel
theorem dX10_shortest_2 : decode cX10_shortest 2 = .ok (.iload_n 1, 1) := by decide +kernel
theorem dX10_shortest_3 : decode cX10_shortest 3 = .ok (.invokevirtual 49, 3) := by decide +kernel
theorem dX10_shortest_6 : decode cX10_shortest 6 = .ok (.iconst 1, 1) := by decide +kernel
theorem dX10_shortest_7 : decode cX10_shortest 7 = .ok (.invokevirtual 63, 3) := by decide +kernel
theorem dX10_shortest_10 : decode cX10_shortest 10 = .ok (.ifCond .eq 7, 3) := by decide +kernel
theorem dX10_shortest_13 : decode cX10_shortest 13 = .ok (.iconst 0, 1) := by decide +kernel
theorem dX10_shortest_14 : decode cX10_shortest 14 = .ok (.goto 8, 3) := by decide +kernel
theorem dX10_shortest_22 : decode cX10_shortest 22 = .ok (.ireturn, 1) := by decide +kernel
theorem dX10_rotate_0 : decode cX10_rotate 0 = .ok (.aload_n 0, 1) := by decide +kernel
theorem dX10_rotate_1 : decode cX10_rotate 1 = .ok (.iload_n 1, 1) := by decide +kernel
theorem dX10_rotate_2 : decode cX10_rotate 2 = .ok (.iconst 0, 1) := by decide +kernel
theorem dX10_rotate_3 : decode cX10_rotate 3 = .ok (.iconst 3, 1) := by decide +kernel
theorem dX10_rotate_4 : decode cX10_rotate 4 = .ok (.invokestatic 45, 3) := by decide +kernel
theorem dX10_rotate_7 : decode cX10_rotate 7 = .ok (.ifCond .eq 14, 3) := by decide +kernel
theorem dX10_rotate_21 : decode cX10_rotate 21 = .ok (.iconst 1, 1) := by decide +kernel
theorem dX10_rotate_22 : decode cX10_rotate 22 = .ok (.goto 4, 3) := by decide +kernel
theorem dX10_rotate_26 : decode cX10_rotate 26 = .ok (.iconst 1, 1) := by decide +kernel
theorem dX10_rotate_27 : decode cX10_rotate 27 = .ok (.invokevirtual 63, 3) := by decide +kernel
theorem dX10_rotate_30 : decode cX10_rotate 30 = .ok (.ifCond .ne 26, 3) := by decide +kernel
theorem dX10_rotate_56 : decode cX10_rotate 56 = .ok (.iconst 0, 1) := by decide +kernel
theorem dX10_rotate_57 : decode cX10_rotate 57 = .ok (.ireturn, 1) := by decide +kernel
theorem dX10_rotate_10 : decode cX10_rotate 10 = .ok (.iload_n 1, 1) := by decide +kernel
theorem dX10_rotate_11 : decode cX10_rotate 11 = .ok (.aload_n 0, 1) := by decide +kernel
theorem dX10_rotate_12 : decode cX10_rotate 12 = .ok (.getfield 10, 3) := by decide +kernel
theorem dX10_rotate_15 : decode cX10_rotate 15 = .ok (.invokevirtual 41, 3) := by decide +kernel
theorem dX10_rotate_18 : decode cX10_rotate 18 = .ok (.if_icmp .le 7, 3) := by decide +kernel
theorem dX10_next_0 : decode cX10_next 0 = .ok (.aload_n 0, 1) := by decide +kernel
theorem dX10_next_1 : decode cX10_next 1 = .ok (.iconst 0, 1) := by decide +kernel
theorem dX10_next_2 : decode cX10_next 2 = .ok (.putfield 34, 3) := by decide +kernel
theorem dX10_next_5 : decode cX10_next 5 = .ok (.aload_n 0, 1) := by decide +kernel
theorem dX10_next_6 : decode cX10_next 6 = .ok (.iconst 0, 1) := by decide +kernel
theorem dX10_next_7 : decode cX10_next 7 = .ok (.invokevirtual 190, 3) := by decide +kernel
theorem dX10_next_10 : decode cX10_next 10 = .ok (.ireturn, 1) := by decide +kernel
theorem dX10_day_0 : decode cX10_day 0 = .ok (.aload_n 0, 1) := by decide +kernel
theorem dX10_day_1 : decode cX10_day 1 = .ok (.iconst 0, 1) := by decide +kernel
theorem dX10_day_2 : decode cX10_day 2 = .ok (.putfield 34, 3) := by decide +kernel
theorem dX10_day_5 : decode cX10_day 5 = .ok (.aload_n 0, 1) := by decide +kernel
theorem dX10_day_6 : decode cX10_day 6 = .ok (.dup, 1) := by decide +kernel
theorem dX10_day_7 : decode cX10_day 7 = .ok (.getfield 193, 3) := by decide +kernel
theorem dX10_day_10 : decode cX10_day 10 = .ok (.iconst 1, 1) := by decide +kernel
theorem dX10_day_11 : decode cX10_day 11 = .ok (.iadd, 1) := by decide +kernel
theorem dX10_day_12 : decode cX10_day 12 = .ok (.putfield 193, 3) := by decide +kernel
theorem dX10_day_15 : decode cX10_day 15 = .ok (.aload_n 0, 1) := by decide +kernel
theorem dX10_day_16 : decode cX10_day 16 = .ok (.getfield 16, 3) := by decide +kernel
theorem dX10_day_19 : decode cX10_day 19 = .ok (.invokevirtual 109, 3) := by decide +kernel
theorem dX10_day_22 : decode cX10_day 22 = .ok (.astore_n 1, 1) := by decide +kernel
theorem dX10_day_23 : decode cX10_day 23 = .ok (.aload_n 1, 1) := by decide +kernel
theorem dX10_day_24 : decode cX10_day 24 = .ok (.invokeinterface 113 1, 5) := by decide +kernel
theorem dX10_day_29 : decode cX10_day 29 = .ok (.ifCond .eq 30, 3) := by decide +kernel
theorem dX10_day_59 : decode cX10_day 59 = .ok (.aload_n 0, 1) := by decide +kernel
theorem dX10_day_60 : decode cX10_day 60 = .ok (.getfield 193, 3) := by decide +kernel
theorem dX10_day_63 : decode cX10_day 63 = .ok (.ireturn, 1) := by decide +kernel
theorem dX10_clean_0 : decode cX10_clean 0 = .ok (.aload_n 0, 1) := by decide +kernel
theorem dX10_clean_1 : decode cX10_clean 1 = .ok (.iconst 0, 1) := by decide +kernel
theorem dX10_clean_2 : decode cX10_clean 2 = .ok (.putfield 34, 3) := by decide +kernel
theorem dX10_clean_5 : decode cX10_clean 5 = .ok (.aload_n 0, 1) := by decide +kernel
theorem dX10_clean_6 : decode cX10_clean 6 = .ok (.invokevirtual 252, 3) := by decide +kernel
theorem dX10_clean_9 : decode cX10_clean 9 = .ok (.istore_n 1, 1) := by decide +kernel
theorem dX10_clean_10 : decode cX10_clean 10 = .ok (.aload_n 0, 1) := by decide +kernel
theorem dX10_clean_11 : decode cX10_clean 11 = .ok (.getfield 19, 3) := by decide +kernel
theorem dX10_clean_14 : decode cX10_clean 14 = .ok (.invokevirtual 109, 3) := by decide +kernel
theorem dX10_clean_17 : decode cX10_clean 17 = .ok (.astore_n 2, 1) := by decide +kernel
theorem dX10_clean_18 : decode cX10_clean 18 = .ok (.aload_n 2, 1) := by decide +kernel
theorem dX10_clean_19 : decode cX10_clean 19 = .ok (.invokeinterface 113 1, 5) := by decide +kernel
theorem dX10_clean_24 : decode cX10_clean 24 = .ok (.ifCond .eq 46, 3) := by decide +kernel
theorem dX10_clean_70 : decode cX10_clean 70 = .ok (.iload_n 1, 1) := by decide +kernel
theorem dX10_clean_71 : decode cX10_clean 71 = .ok (.ireturn, 1) := by decide +kernel
theorem dX10_off_0 : decode cX10_off 0 = .ok (.aload_n 0, 1) := by decide +kernel
theorem dX10_off_1 : decode cX10_off 1 = .ok (.iconst 0, 1) := by decide +kernel
theorem dX10_off_2 : decode cX10_off 2 = .ok (.putfield 34, 3) := by decide +kernel
theorem dX10_off_5 : decode cX10_off 5 = .ok (.aload_n 0, 1) := by decide +kernel
theorem dX10_off_6 : decode cX10_off 6 = .ok (.aload_n 0, 1) := by decide +kernel
theorem dX10_off_7 : decode cX10_off 7 = .ok (.getfield 30, 3) := by decide +kernel
theorem dX10_off_10 : decode cX10_off 10 = .ok (.invokevirtual 267, 3) := by decide +kernel
theorem dX10_off_13 : decode cX10_off 13 = .ok (.ireturn, 1) := by decide +kernel
theorem dX10_cleaned_0 : decode cX10_cleaned 0 = .ok (.aload_n 0, 1) := by decide +kernel
theorem dX10_cleaned_1 : decode cX10_cleaned 1 = .ok (.iconst 0, 1) := by decide +kernel
theorem dX10_cleaned_2 : decode cX10_cleaned 2 = .ok (.putfield 34, 3) := by decide +kernel
theorem dX10_cleaned_5 : decode cX10_cleaned 5 = .ok (.aload_n 0, 1) := by decide +kernel
theorem dX10_cleaned_6 : decode cX10_cleaned 6 = .ok (.invokevirtual 280, 3) := by decide +kernel
theorem dX10_cleaned_9 : decode cX10_cleaned 9 = .ok (.ireturn, 1) := by decide +kernel
theorem dX10_meanSeconds_0 : decode cX10_meanSeconds 0 = .ok (.aload_n 0, 1) := by decide +kernel
theorem dX10_meanSeconds_1 : decode cX10_meanSeconds 1 = .ok (.iconst 0, 1) := by decide +kernel
theorem dX10_meanSeconds_2 : decode cX10_meanSeconds 2 = .ok (.putfield 34, 3) := by decide +kernel
theorem dX10_meanSeconds_5 : decode cX10_meanSeconds 5 = .ok (.iconst 0, 1) := by decide +kernel
theorem dX10_meanSeconds_6 : decode cX10_meanSeconds 6 = .ok (.istore_n 1, 1) := by decide +kernel
theorem dX10_meanSeconds_7 : decode cX10_meanSeconds 7 = .ok (.iconst 0, 1) := by decide +kernel
theorem dX10_meanSeconds_8 : decode cX10_meanSeconds 8 = .ok (.istore_n 2, 1) := by decide +kernel
theorem dX10_meanSeconds_9 : decode cX10_meanSeconds 9 = .ok (.aload_n 0, 1) := by decide +kernel
theorem dX10_meanSeconds_10 : decode cX10_meanSeconds 10 = .ok (.getfield 19, 3) := by decide +kernel
theorem dX10_meanSeconds_13 : decode cX10_meanSeconds 13 = .ok (.invokevirtual 109, 3) := by decide +kernel
theorem dX10_meanSeconds_16 : decode cX10_meanSeconds 16 = .ok (.astore_n 3, 1) := by decide +kernel
theorem dX10_meanSeconds_17 : decode cX10_meanSeconds 17 = .ok (.aload_n 3, 1) := by decide +kernel
theorem dX10_meanSeconds_18 : decode cX10_meanSeconds 18 = .ok (.invokeinterface 113 1, 5) := by decide +kernel
theorem dX10_meanSeconds_23 : decode cX10_meanSeconds 23 = .ok (.ifCond .eq 45, 3) := by decide +kernel
theorem dX10_meanSeconds_68 : decode cX10_meanSeconds 68 = .ok (.iload_n 1, 1) := by decide +kernel
theorem dX10_meanSeconds_69 : decode cX10_meanSeconds 69 = .ok (.ifCond .ne 7, 3) := by decide +kernel
theorem dX10_meanSeconds_72 : decode cX10_meanSeconds 72 = .ok (.dconst 0, 1) := by decide +kernel
theorem dX10_meanSeconds_73 : decode cX10_meanSeconds 73 = .ok (.goto 8, 3) := by decide +kernel
theorem dX10_meanSeconds_81 : decode cX10_meanSeconds 81 = .ok (.dreturn, 1) := by decide +kernel
theorem dX10_digest_0 : decode cX10_digest 0 = .ok (.aload_n 0, 1) := by decide +kernel
theorem dX10_digest_1 : decode cX10_digest 1 = .ok (.iconst 0, 1) := by decide +kernel
theorem dX10_digest_2 : decode cX10_digest 2 = .ok (.putfield 34, 3) := by decide +kernel
theorem dX10_digest_5 : decode cX10_digest 5 = .ok (.ldc2_w 288, 3) := by decide +kernel
theorem dX10_digest_8 : decode cX10_digest 8 = .ok (.lstore_n 1, 1) := by decide +kernel
theorem dX10_digest_9 : decode cX10_digest 9 = .ok (.iconst 0, 1) := by decide +kernel
theorem dX10_digest_10 : decode cX10_digest 10 = .ok (.istore_n 3, 1) := by decide +kernel
theorem dX10_digest_11 : decode cX10_digest 11 = .ok (.iload_n 3, 1) := by decide +kernel
theorem dX10_digest_12 : decode cX10_digest 12 = .ok (.bipush 12, 2) := by decide +kernel
theorem dX10_digest_14 : decode cX10_digest 14 = .ok (.if_icmp .ge 20, 3) := by decide +kernel
theorem dX10_digest_17 : decode cX10_digest 17 = .ok (.lload_n 1, 1) := by decide +kernel
theorem dX10_digest_18 : decode cX10_digest 18 = .ok (.aload_n 0, 1) := by decide +kernel
theorem dX10_digest_19 : decode cX10_digest 19 = .ok (.iload_n 3, 1) := by decide +kernel
theorem dX10_digest_20 : decode cX10_digest 20 = .ok (.invokevirtual 261, 3) := by decide +kernel
theorem dX10_digest_23 : decode cX10_digest 23 = .ok (.i2l, 1) := by decide +kernel
theorem dX10_digest_24 : decode cX10_digest 24 = .ok (.invokestatic 290, 3) := by decide +kernel
theorem dX10_digest_27 : decode cX10_digest 27 = .ok (.lstore_n 1, 1) := by decide +kernel
theorem dX10_digest_28 : decode cX10_digest 28 = .ok (.iinc 3 1, 3) := by decide +kernel
theorem dX10_digest_31 : decode cX10_digest 31 = .ok (.goto (-20), 3) := by decide +kernel
theorem dX10_digest_34 : decode cX10_digest 34 = .ok (.iconst 0, 1) := by decide +kernel
theorem dX10_digest_35 : decode cX10_digest 35 = .ok (.istore_n 3, 1) := by decide +kernel
theorem dX10_digest_36 : decode cX10_digest 36 = .ok (.iload_n 3, 1) := by decide +kernel
theorem dX10_digest_37 : decode cX10_digest 37 = .ok (.iconst 3, 1) := by decide +kernel
theorem dX10_digest_38 : decode cX10_digest 38 = .ok (.if_icmp .ge 54, 3) := by decide +kernel
theorem dX10_digest_41 : decode cX10_digest 41 = .ok (.iconst 0, 1) := by decide +kernel
theorem dX10_digest_42 : decode cX10_digest 42 = .ok (.istore 4, 2) := by decide +kernel
theorem dX10_digest_44 : decode cX10_digest 44 = .ok (.iload 4, 2) := by decide +kernel
theorem dX10_digest_46 : decode cX10_digest 46 = .ok (.iconst 2, 1) := by decide +kernel
theorem dX10_digest_47 : decode cX10_digest 47 = .ok (.if_icmp .ge 39, 3) := by decide +kernel
theorem dX10_digest_50 : decode cX10_digest 50 = .ok (.iconst 0, 1) := by decide +kernel
theorem dX10_digest_51 : decode cX10_digest 51 = .ok (.istore 5, 2) := by decide +kernel
theorem dX10_digest_53 : decode cX10_digest 53 = .ok (.iload 5, 2) := by decide +kernel
theorem dX10_digest_55 : decode cX10_digest 55 = .ok (.iconst 5, 1) := by decide +kernel
theorem dX10_digest_56 : decode cX10_digest 56 = .ok (.if_icmp .ge 24, 3) := by decide +kernel
theorem dX10_digest_59 : decode cX10_digest 59 = .ok (.lload_n 1, 1) := by decide +kernel
theorem dX10_digest_60 : decode cX10_digest 60 = .ok (.aload_n 0, 1) := by decide +kernel
theorem dX10_digest_61 : decode cX10_digest 61 = .ok (.iload_n 3, 1) := by decide +kernel
theorem dX10_digest_62 : decode cX10_digest 62 = .ok (.iload 4, 2) := by decide +kernel
theorem dX10_digest_64 : decode cX10_digest 64 = .ok (.iload 5, 2) := by decide +kernel
theorem dX10_digest_66 : decode cX10_digest 66 = .ok (.invokevirtual 162, 3) := by decide +kernel
theorem dX10_digest_69 : decode cX10_digest 69 = .ok (.i2l, 1) := by decide +kernel
theorem dX10_digest_70 : decode cX10_digest 70 = .ok (.invokestatic 290, 3) := by decide +kernel
theorem dX10_digest_73 : decode cX10_digest 73 = .ok (.lstore_n 1, 1) := by decide +kernel
theorem dX10_digest_74 : decode cX10_digest 74 = .ok (.iinc 5 1, 3) := by decide +kernel
theorem dX10_digest_77 : decode cX10_digest 77 = .ok (.goto (-24), 3) := by decide +kernel
theorem dX10_digest_80 : decode cX10_digest 80 = .ok (.iinc 4 1, 3) := by decide +kernel
theorem dX10_digest_83 : decode cX10_digest 83 = .ok (.goto (-39), 3) := by decide +kernel
theorem dX10_digest_86 : decode cX10_digest 86 = .ok (.iinc 3 1, 3) := by decide +kernel
theorem dX10_digest_89 : decode cX10_digest 89 = .ok (.goto (-53), 3) := by decide +kernel
theorem dX10_digest_92 : decode cX10_digest 92 = .ok (.iconst 0, 1) := by decide +kernel
theorem dX10_digest_93 : decode cX10_digest 93 = .ok (.istore_n 3, 1) := by decide +kernel
theorem dX10_digest_94 : decode cX10_digest 94 = .ok (.iload_n 3, 1) := by decide +kernel
theorem dX10_digest_95 : decode cX10_digest 95 = .ok (.aload_n 0, 1) := by decide +kernel
theorem dX10_digest_96 : decode cX10_digest 96 = .ok (.getfield 16, 3) := by decide +kernel
theorem dX10_digest_99 : decode cX10_digest 99 = .ok (.invokevirtual 41, 3) := by decide +kernel
theorem dX10_digest_102 : decode cX10_digest 102 = .ok (.if_icmp .ge 38, 3) := by decide +kernel
theorem dX10_digest_140 : decode cX10_digest 140 = .ok (.aload_n 0, 1) := by decide +kernel
theorem dX10_digest_141 : decode cX10_digest 141 = .ok (.aload_n 0, 1) := by decide +kernel
theorem dX10_digest_142 : decode cX10_digest 142 = .ok (.getfield 30, 3) := by decide +kernel
theorem dX10_digest_145 : decode cX10_digest 145 = .ok (.invokevirtual 235, 3) := by decide +kernel
theorem dX10_digest_148 : decode cX10_digest 148 = .ok (.astore_n 3, 1) := by decide +kernel
theorem dX10_digest_149 : decode cX10_digest 149 = .ok (.aload_n 0, 1) := by decide +kernel
theorem dX10_digest_150 : decode cX10_digest 150 = .ok (.getfield 19, 3) := by decide +kernel
theorem dX10_digest_153 : decode cX10_digest 153 = .ok (.invokevirtual 109, 3) := by decide +kernel
theorem dX10_digest_156 : decode cX10_digest 156 = .ok (.astore 4, 2) := by decide +kernel
theorem dX10_digest_158 : decode cX10_digest 158 = .ok (.aload 4, 2) := by decide +kernel
theorem dX10_digest_160 : decode cX10_digest 160 = .ok (.invokeinterface 113 1, 5) := by decide +kernel
theorem dX10_digest_165 : decode cX10_digest 165 = .ok (.ifCond .eq 83, 3) := by decide +kernel
theorem dX10_digest_248 : decode cX10_digest 248 = .ok (.iconst 0, 1) := by decide +kernel
theorem dX10_digest_249 : decode cX10_digest 249 = .ok (.istore 4, 2) := by decide +kernel
theorem dX10_digest_251 : decode cX10_digest 251 = .ok (.iload 4, 2) := by decide +kernel
theorem dX10_digest_253 : decode cX10_digest 253 = .ok (.aload_n 0, 1) := by decide +kernel
theorem dX10_digest_254 : decode cX10_digest 254 = .ok (.getfield 10, 3) := by decide +kernel
theorem dX10_digest_257 : decode cX10_digest 257 = .ok (.invokevirtual 41, 3) := by decide +kernel
theorem dX10_digest_260 : decode cX10_digest 260 = .ok (.if_icmp .ge 67, 3) := by decide +kernel
theorem dX10_digest_327 : decode cX10_digest 327 = .ok (.lload_n 1, 1) := by decide +kernel
theorem dX10_digest_328 : decode cX10_digest 328 = .ok (.aload_n 0, 1) := by decide +kernel
theorem dX10_digest_329 : decode cX10_digest 329 = .ok (.iconst 0, 1) := by decide +kernel
theorem dX10_digest_330 : decode cX10_digest 330 = .ok (.invokevirtual 190, 3) := by decide +kernel
theorem dX10_digest_333 : decode cX10_digest 333 = .ok (.i2l, 1) := by decide +kernel
theorem dX10_digest_334 : decode cX10_digest 334 = .ok (.invokestatic 290, 3) := by decide +kernel
theorem dX10_digest_337 : decode cX10_digest 337 = .ok (.aload_n 0, 1) := by decide +kernel
theorem dX10_digest_338 : decode cX10_digest 338 = .ok (.aload_n 0, 1) := by decide +kernel
theorem dX10_digest_339 : decode cX10_digest 339 = .ok (.getfield 30, 3) := by decide +kernel
theorem dX10_digest_342 : decode cX10_digest 342 = .ok (.invokevirtual 267, 3) := by decide +kernel
theorem dX10_digest_345 : decode cX10_digest 345 = .ok (.i2l, 1) := by decide +kernel
theorem dX10_digest_346 : decode cX10_digest 346 = .ok (.invokestatic 290, 3) := by decide +kernel
theorem dX10_digest_349 : decode cX10_digest 349 = .ok (.aload_n 0, 1) := by decide +kernel
theorem dX10_digest_350 : decode cX10_digest 350 = .ok (.invokevirtual 280, 3) := by decide +kernel
theorem dX10_digest_353 : decode cX10_digest 353 = .ok (.i2l, 1) := by decide +kernel
theorem dX10_digest_354 : decode cX10_digest 354 = .ok (.invokestatic 290, 3) := by decide +kernel
theorem dX10_digest_357 : decode cX10_digest 357 = .ok (.aload_n 0, 1) := by decide +kernel
theorem dX10_digest_358 : decode cX10_digest 358 = .ok (.iconst 3, 1) := by decide +kernel
theorem dX10_digest_359 : decode cX10_digest 359 = .ok (.invokevirtual 190, 3) := by decide +kernel
theorem dX10_digest_362 : decode cX10_digest 362 = .ok (.i2l, 1) := by decide +kernel
theorem dX10_digest_363 : decode cX10_digest 363 = .ok (.invokestatic 290, 3) := by decide +kernel
theorem dX10_digest_366 : decode cX10_digest 366 = .ok (.lreturn, 1) := by decide +kernel
theorem dX10_rotate_25 : decode cX10_rotate 25 = .ok (.iconst 0, 1) := by decide +kernel
theorem dX10_rotate_33 : decode cX10_rotate 33 = .ok (.aload_n 0, 1) := by decide +kernel
theorem dX10_rotate_34 : decode cX10_rotate 34 = .ok (.aload_n 0, 1) := by decide +kernel
theorem dX10_rotate_35 : decode cX10_rotate 35 = .ok (.getfield 19, 3) := by decide +kernel
theorem dX10_rotate_38 : decode cX10_rotate 38 = .ok (.invokevirtual 66, 3) := by decide +kernel
theorem dX10_rotate_41 : decode cX10_rotate 41 = .ok (.ifCond .ne 7, 3) := by decide +kernel
theorem dX10_rotate_48 : decode cX10_rotate 48 = .ok (.iconst 0, 1) := by decide +kernel
theorem dX10_rotate_49 : decode cX10_rotate 49 = .ok (.iconst 2, 1) := by decide +kernel
theorem dX10_rotate_50 : decode cX10_rotate 50 = .ok (.invokevirtual 37, 3) := by decide +kernel
theorem dX10_rotate_53 : decode cX10_rotate 53 = .ok (.ifCond .eq 5, 3) := by decide +kernel
theorem dX10_rotate_58 : decode cX10_rotate 58 = .ok (.aload_n 0, 1) := by decide +kernel
theorem dX10_rotate_59 : decode cX10_rotate 59 = .ok (.getfield 89, 3) := by decide +kernel
theorem dX10_rotate_62 : decode cX10_rotate 62 = .ok (.istore_n 2, 1) := by decide +kernel
theorem dX10_rotate_63 : decode cX10_rotate 63 = .ok (.aload_n 0, 1) := by decide +kernel
theorem dX10_rotate_64 : decode cX10_rotate 64 = .ok (.iload_n 1, 1) := by decide +kernel
theorem dX10_rotate_65 : decode cX10_rotate 65 = .ok (.putfield 89, 3) := by decide +kernel
theorem dX10_rotate_68 : decode cX10_rotate 68 = .ok (.iload_n 2, 1) := by decide +kernel
theorem dX10_rotate_69 : decode cX10_rotate 69 = .ok (.ireturn, 1) := by decide +kernel
theorem dX10_soft_14 : decode cX10_soft 14 = .ok (.iconst 0, 1) := by decide +kernel
theorem dX10_soft_24 : decode cX10_soft 24 = .ok (.aload_n 0, 1) := by decide +kernel
theorem dX10_soft_25 : decode cX10_soft 25 = .ok (.getfield 101, 3) := by decide +kernel
theorem dX10_soft_28 : decode cX10_soft 28 = .ok (.istore_n 2, 1) := by decide +kernel
theorem dX10_soft_29 : decode cX10_soft 29 = .ok (.aload_n 0, 1) := by decide +kernel
theorem dX10_soft_30 : decode cX10_soft 30 = .ok (.iload_n 1, 1) := by decide +kernel
theorem dX10_soft_31 : decode cX10_soft 31 = .ok (.putfield 101, 3) := by decide +kernel
theorem dX10_soft_34 : decode cX10_soft 34 = .ok (.iload_n 2, 1) := by decide +kernel
theorem dX10_soft_35 : decode cX10_soft 35 = .ok (.ireturn, 1) := by decide +kernel
theorem dX10_rounds_14 : decode cX10_rounds 14 = .ok (.aload_n 0, 1) := by decide +kernel
theorem dX10_rounds_15 : decode cX10_rounds 15 = .ok (.getfield 30, 3) := by decide +kernel
theorem dX10_rounds_18 : decode cX10_rounds 18 = .ok (.istore_n 2, 1) := by decide +kernel
theorem dX10_rounds_19 : decode cX10_rounds 19 = .ok (.aload_n 0, 1) := by decide +kernel
theorem dX10_rounds_20 : decode cX10_rounds 20 = .ok (.iload_n 1, 1) := by decide +kernel
theorem dX10_rounds_21 : decode cX10_rounds 21 = .ok (.putfield 30, 3) := by decide +kernel
theorem dX10_rounds_24 : decode cX10_rounds 24 = .ok (.iload_n 2, 1) := by decide +kernel
theorem dX10_rounds_25 : decode cX10_rounds 25 = .ok (.ireturn, 1) := by decide +kernel
theorem dX10_nextIn_15 : decode cX10_nextIn 15 = .ok (.iconst 0, 1) := by decide +kernel
theorem dX10_nextIn_27 : decode cX10_nextIn 27 = .ok (.aload_n 0, 1) := by decide +kernel
theorem dX10_nextIn_28 : decode cX10_nextIn 28 = .ok (.iload_n 1, 1) := by decide +kernel
theorem dX10_nextIn_29 : decode cX10_nextIn 29 = .ok (.invokevirtual 190, 3) := by decide +kernel
theorem dX10_offWith_16 : decode cX10_offWith 16 = .ok (.aload_n 0, 1) := by decide +kernel
theorem dX10_offWith_17 : decode cX10_offWith 17 = .ok (.iload_n 1, 1) := by decide +kernel
theorem dX10_offWith_18 : decode cX10_offWith 18 = .ok (.invokevirtual 267, 3) := by decide +kernel
theorem dX10_many_15 : decode cX10_many 15 = .ok (.iconst 0, 1) := by decide +kernel
theorem dX10_many_27 : decode cX10_many 27 = .ok (.aload_n 0, 1) := by decide +kernel
theorem dX10_many_28 : decode cX10_many 28 = .ok (.iload_n 1, 1) := by decide +kernel
theorem dX10_many_29 : decode cX10_many 29 = .ok (.invokevirtual 261, 3) := by decide +kernel
theorem dX8_init_0 : decode cX8_init 0 = .ok (.aload_n 0, 1) := by decide +kernel
theorem dX8_init_1 : decode cX8_init 1 = .ok (.invokespecial 1, 3) := by decide +kernel
theorem dX8_init_4 : decode cX8_init 4 = .ok (.aload_n 0, 1) := by decide +kernel
theorem dX8_init_5 : decode cX8_init 5 = .ok (.iload_n 1, 1) := by decide +kernel
theorem dX8_init_6 : decode cX8_init 6 = .ok (.putfield 7, 3) := by decide +kernel
theorem dX8_init_9 : decode cX8_init 9 = .ok (.aload_n 0, 1) := by decide +kernel
theorem dX8_init_10 : decode cX8_init 10 = .ok (.iload_n 2, 1) := by decide +kernel
theorem dX8_init_11 : decode cX8_init 11 = .ok (.putfield 13, 3) := by decide +kernel
theorem dX8_init_14 : decode cX8_init 14 = .ok (.return_, 1) := by decide +kernel
theorem dX10_person_19 : decode cX10_person 19 = .ok (.iconst 0, 1) := by decide +kernel
theorem dX10_person_27 : decode cX10_person 27 = .ok (.aload_n 0, 1) := by decide +kernel
theorem dX10_person_28 : decode cX10_person 28 = .ok (.aload_n 0, 1) := by decide +kernel
theorem dX10_person_29 : decode cX10_person 29 = .ok (.getfield 16, 3) := by decide +kernel
theorem dX10_person_32 : decode cX10_person 32 = .ok (.invokevirtual 41, 3) := by decide +kernel
theorem dX10_person_35 : decode cX10_person 35 = .ok (.bipush 24, 2) := by decide +kernel
theorem dX10_person_37 : decode cX10_person 37 = .ok (.if_icmp .ne 7, 3) := by decide +kernel
theorem dX10_person_44 : decode cX10_person 44 = .ok (.iconst 0, 1) := by decide +kernel
theorem dX10_person_45 : decode cX10_person 45 = .ok (.iconst 2, 1) := by decide +kernel
theorem dX10_person_46 : decode cX10_person 46 = .ok (.invokevirtual 37, 3) := by decide +kernel
theorem dX10_person_49 : decode cX10_person 49 = .ok (.ifCond .eq 5, 3) := by decide +kernel
theorem dX10_person_54 : decode cX10_person 54 = .ok (.aload_n 0, 1) := by decide +kernel
theorem dX10_person_55 : decode cX10_person 55 = .ok (.getfield 16, 3) := by decide +kernel
theorem dX10_person_58 : decode cX10_person 58 = .ok (.new 98, 3) := by decide +kernel
theorem dX10_person_61 : decode cX10_person 61 = .ok (.dup, 1) := by decide +kernel
theorem dX10_person_62 : decode cX10_person 62 = .ok (.iload_n 1, 1) := by decide +kernel
theorem dX10_person_63 : decode cX10_person 63 = .ok (.iload_n 2, 1) := by decide +kernel
theorem dX10_person_64 : decode cX10_person 64 = .ok (.invokespecial 100, 3) := by decide +kernel
theorem dX10_person_67 : decode cX10_person 67 = .ok (.invokevirtual 73, 3) := by decide +kernel
theorem dX10_person_70 : decode cX10_person 70 = .ok (.pop, 1) := by decide +kernel
theorem dX10_person_71 : decode cX10_person 71 = .ok (.aload_n 0, 1) := by decide +kernel
theorem dX10_person_72 : decode cX10_person 72 = .ok (.getfield 16, 3) := by decide +kernel
theorem dX10_person_75 : decode cX10_person 75 = .ok (.invokevirtual 41, 3) := by decide +kernel
theorem dX10_person_78 : decode cX10_person 78 = .ok (.iconst 1, 1) := by decide +kernel
theorem dX10_person_79 : decode cX10_person 79 = .ok (.isub, 1) := by decide +kernel
theorem dX10_person_80 : decode cX10_person 80 = .ok (.ireturn, 1) := by decide +kernel
theorem dX9_init_0 : decode cX9_init 0 = .ok (.aload_n 0, 1) := by decide +kernel
theorem dX9_init_1 : decode cX9_init 1 = .ok (.invokespecial 1, 3) := by decide +kernel
theorem dX9_init_4 : decode cX9_init 4 = .ok (.aload_n 0, 1) := by decide +kernel
theorem dX9_init_5 : decode cX9_init 5 = .ok (.iload_n 2, 1) := by decide +kernel
theorem dX9_init_6 : decode cX9_init 6 = .ok (.newarray .int, 2) := by decide +kernel
theorem dX9_init_8 : decode cX9_init 8 = .ok (.putfield 7, 3) := by decide +kernel
theorem dX9_init_11 : decode cX9_init 11 = .ok (.iconst 0, 1) := by decide +kernel
theorem dX9_init_12 : decode cX9_init 12 = .ok (.istore_n 3, 1) := by decide +kernel
theorem dX9_init_13 : decode cX9_init 13 = .ok (.iload_n 3, 1) := by decide +kernel
theorem dX9_init_14 : decode cX9_init 14 = .ok (.iload_n 2, 1) := by decide +kernel
theorem dX9_init_15 : decode cX9_init 15 = .ok (.if_icmp .ge 18, 3) := by decide +kernel
theorem dX9_init_18 : decode cX9_init 18 = .ok (.aload_n 0, 1) := by decide +kernel
theorem dX9_init_19 : decode cX9_init 19 = .ok (.getfield 7, 3) := by decide +kernel
theorem dX9_init_22 : decode cX9_init 22 = .ok (.iload_n 3, 1) := by decide +kernel
theorem dX9_init_23 : decode cX9_init 23 = .ok (.iload_n 1, 1) := by decide +kernel
theorem dX9_init_24 : decode cX9_init 24 = .ok (.iconst 1, 1) := by decide +kernel
theorem dX9_init_25 : decode cX9_init 25 = .ok (.iadd, 1) := by decide +kernel
theorem dX9_init_26 : decode cX9_init 26 = .ok (.iastore, 1) := by decide +kernel
theorem dX9_init_27 : decode cX9_init 27 = .ok (.iinc 3 1, 3) := by decide +kernel
theorem dX9_init_30 : decode cX9_init 30 = .ok (.goto (-17), 3) := by decide +kernel
theorem dX9_init_33 : decode cX9_init 33 = .ok (.return_, 1) := by decide +kernel
theorem dX10_question_14 : decode cX10_question 14 = .ok (.iconst 0, 1) := by decide +kernel
theorem dX10_question_22 : decode cX10_question 22 = .ok (.aload_n 0, 1) := by decide +kernel
theorem dX10_question_23 : decode cX10_question 23 = .ok (.aload_n 0, 1) := by decide +kernel
theorem dX10_question_24 : decode cX10_question 24 = .ok (.getfield 10, 3) := by decide +kernel
theorem dX10_question_27 : decode cX10_question 27 = .ok (.invokevirtual 41, 3) := by decide +kernel
theorem dX10_question_30 : decode cX10_question 30 = .ok (.bipush 10, 2) := by decide +kernel
theorem dX10_question_32 : decode cX10_question 32 = .ok (.if_icmp .eq 13, 3) := by decide +kernel
theorem dX10_question_35 : decode cX10_question 35 = .ok (.aload_n 0, 1) := by decide +kernel
theorem dX10_question_36 : decode cX10_question 36 = .ok (.getfield 19, 3) := by decide +kernel
theorem dX10_question_39 : decode cX10_question 39 = .ok (.invokevirtual 66, 3) := by decide +kernel
theorem dX10_question_42 : decode cX10_question 42 = .ok (.ifCond .ne 7, 3) := by decide +kernel
theorem dX10_question_49 : decode cX10_question 49 = .ok (.iconst 0, 1) := by decide +kernel
theorem dX10_question_50 : decode cX10_question 50 = .ok (.iconst 2, 1) := by decide +kernel
theorem dX10_question_51 : decode cX10_question 51 = .ok (.invokevirtual 37, 3) := by decide +kernel
theorem dX10_question_54 : decode cX10_question 54 = .ok (.ifCond .eq 5, 3) := by decide +kernel
theorem dX10_question_59 : decode cX10_question 59 = .ok (.aload_n 0, 1) := by decide +kernel
theorem dX10_question_60 : decode cX10_question 60 = .ok (.getfield 10, 3) := by decide +kernel
theorem dX10_question_63 : decode cX10_question 63 = .ok (.new 57, 3) := by decide +kernel
theorem dX10_question_66 : decode cX10_question 66 = .ok (.dup, 1) := by decide +kernel
theorem dX10_question_67 : decode cX10_question 67 = .ok (.aload_n 0, 1) := by decide +kernel
theorem dX10_question_68 : decode cX10_question 68 = .ok (.getfield 10, 3) := by decide +kernel
theorem dX10_question_71 : decode cX10_question 71 = .ok (.invokevirtual 41, 3) := by decide +kernel
theorem dX10_question_74 : decode cX10_question 74 = .ok (.iload_n 1, 1) := by decide +kernel
theorem dX10_question_75 : decode cX10_question 75 = .ok (.invokespecial 70, 3) := by decide +kernel
theorem dX10_question_78 : decode cX10_question 78 = .ok (.invokevirtual 73, 3) := by decide +kernel
theorem dX10_question_81 : decode cX10_question 81 = .ok (.pop, 1) := by decide +kernel
theorem dX10_question_82 : decode cX10_question 82 = .ok (.aload_n 0, 1) := by decide +kernel
theorem dX10_question_83 : decode cX10_question 83 = .ok (.getfield 10, 3) := by decide +kernel
theorem dX10_question_86 : decode cX10_question 86 = .ok (.invokevirtual 41, 3) := by decide +kernel
theorem dX10_question_89 : decode cX10_question 89 = .ok (.iconst 1, 1) := by decide +kernel
theorem dX10_question_90 : decode cX10_question 90 = .ok (.isub, 1) := by decide +kernel
theorem dX10_question_91 : decode cX10_question 91 = .ok (.ireturn, 1) := by decide +kernel
theorem dX10_hold_0 : decode cX10_hold 0 = .ok (.aload_n 0, 1) := by decide +kernel
theorem dX10_hold_1 : decode cX10_hold 1 = .ok (.aload_n 0, 1) := by decide +kernel
theorem dX10_hold_2 : decode cX10_hold 2 = .ok (.getfield 27, 3) := by decide +kernel
theorem dX10_hold_5 : decode cX10_hold 5 = .ok (.invokevirtual 41, 3) := by decide +kernel
theorem dX10_hold_8 : decode cX10_hold 8 = .ok (.iconst 5, 1) := by decide +kernel
theorem dX10_hold_9 : decode cX10_hold 9 = .ok (.if_icmp .ne 7, 3) := by decide +kernel
theorem dX10_hold_16 : decode cX10_hold 16 = .ok (.iconst 0, 1) := by decide +kernel
theorem dX10_hold_17 : decode cX10_hold 17 = .ok (.iconst 1, 1) := by decide +kernel
theorem dX10_hold_18 : decode cX10_hold 18 = .ok (.invokevirtual 63, 3) := by decide +kernel
theorem dX10_hold_21 : decode cX10_hold 21 = .ok (.ifCond .eq 5, 3) := by decide +kernel
theorem dX10_hold_26 : decode cX10_hold 26 = .ok (.aload_n 0, 1) := by decide +kernel
theorem dX10_hold_27 : decode cX10_hold 27 = .ok (.aload_n 0, 1) := by decide +kernel
theorem dX10_hold_28 : decode cX10_hold 28 = .ok (.getfield 30, 3) := by decide +kernel
theorem dX10_hold_31 : decode cX10_hold 31 = .ok (.invokevirtual 235, 3) := by decide +kernel
theorem dX10_hold_34 : decode cX10_hold 34 = .ok (.astore_n 1, 1) := by decide +kernel
theorem dX10_hold_35 : decode cX10_hold 35 = .ok (.aload_n 0, 1) := by decide +kernel
theorem dX10_hold_36 : decode cX10_hold 36 = .ok (.getfield 10, 3) := by decide +kernel
theorem dX10_hold_39 : decode cX10_hold 39 = .ok (.invokevirtual 41, 3) := by decide +kernel
theorem dX10_hold_42 : decode cX10_hold 42 = .ok (.anewarray 279, 3) := by decide +kernel
theorem dX10_hold_45 : decode cX10_hold 45 = .ok (.astore_n 2, 1) := by decide +kernel
theorem dX10_hold_46 : decode cX10_hold 46 = .ok (.iconst 0, 1) := by decide +kernel
theorem dX10_hold_47 : decode cX10_hold 47 = .ok (.istore_n 3, 1) := by decide +kernel
theorem dX10_hold_48 : decode cX10_hold 48 = .ok (.iload_n 3, 1) := by decide +kernel
theorem dX10_hold_49 : decode cX10_hold 49 = .ok (.aload_n 2, 1) := by decide +kernel
theorem dX10_hold_50 : decode cX10_hold 50 = .ok (.arraylength, 1) := by decide +kernel
theorem dX10_hold_51 : decode cX10_hold 51 = .ok (.if_icmp .ge 62, 3) := by decide +kernel
theorem dX10_hold_113 : decode cX10_hold 113 = .ok (.aload_n 0, 1) := by decide +kernel
theorem dX10_hold_114 : decode cX10_hold 114 = .ok (.getfield 27, 3) := by decide +kernel
theorem dX10_hold_117 : decode cX10_hold 117 = .ok (.aload_n 2, 1) := by decide +kernel
theorem dX10_hold_118 : decode cX10_hold 118 = .ok (.invokevirtual 73, 3) := by decide +kernel
theorem dX10_hold_121 : decode cX10_hold 121 = .ok (.pop, 1) := by decide +kernel
theorem dX10_hold_122 : decode cX10_hold 122 = .ok (.aload_n 0, 1) := by decide +kernel
theorem dX10_hold_123 : decode cX10_hold 123 = .ok (.getfield 27, 3) := by decide +kernel
theorem dX10_hold_126 : decode cX10_hold 126 = .ok (.invokevirtual 41, 3) := by decide +kernel
theorem dX10_hold_129 : decode cX10_hold 129 = .ok (.iconst 1, 1) := by decide +kernel
theorem dX10_hold_130 : decode cX10_hold 130 = .ok (.isub, 1) := by decide +kernel
theorem dX10_hold_131 : decode cX10_hold 131 = .ok (.ireturn, 1) := by decide +kernel
theorem dX10_ofCell_19 : decode cX10_ofCell 19 = .ok (.iconst 0, 1) := by decide +kernel
theorem dX10_ofCell_27 : decode cX10_ofCell 27 = .ok (.aload_n 0, 1) := by decide +kernel
theorem dX10_ofCell_28 : decode cX10_ofCell 28 = .ok (.iload_n 3, 1) := by decide +kernel
theorem dX10_ofCell_29 : decode cX10_ofCell 29 = .ok (.iconst 0, 1) := by decide +kernel
theorem dX10_ofCell_30 : decode cX10_ofCell 30 = .ok (.iconst 4, 1) := by decide +kernel
theorem dX10_ofCell_31 : decode cX10_ofCell 31 = .ok (.invokestatic 45, 3) := by decide +kernel
theorem dX10_ofCell_34 : decode cX10_ofCell 34 = .ok (.ifCond .ne 7, 3) := by decide +kernel
theorem dX10_ofCell_41 : decode cX10_ofCell 41 = .ok (.iconst 0, 1) := by decide +kernel
theorem dX10_ofCell_42 : decode cX10_ofCell 42 = .ok (.iconst 2, 1) := by decide +kernel
theorem dX10_ofCell_43 : decode cX10_ofCell 43 = .ok (.invokevirtual 37, 3) := by decide +kernel
theorem dX10_ofCell_46 : decode cX10_ofCell 46 = .ok (.ifCond .eq 7, 3) := by decide +kernel
theorem dX10_ofCell_53 : decode cX10_ofCell 53 = .ok (.aload_n 0, 1) := by decide +kernel
theorem dX10_ofCell_54 : decode cX10_ofCell 54 = .ok (.iload_n 1, 1) := by decide +kernel
theorem dX10_ofCell_55 : decode cX10_ofCell 55 = .ok (.iload_n 2, 1) := by decide +kernel
theorem dX10_ofCell_56 : decode cX10_ofCell 56 = .ok (.iload_n 3, 1) := by decide +kernel
theorem dX10_ofCell_57 : decode cX10_ofCell 57 = .ok (.invokevirtual 162, 3) := by decide +kernel
theorem dX10_ofCell_37 : decode cX10_ofCell 37 = .ok (.iconst 1, 1) := by decide +kernel
theorem dX10_ofCell_38 : decode cX10_ofCell 38 = .ok (.goto 4, 3) := by decide +kernel
theorem dX10_target_19 : decode cX10_target 19 = .ok (.iconst 0, 1) := by decide +kernel
theorem dX10_target_27 : decode cX10_target 27 = .ok (.aload_n 0, 1) := by decide +kernel
theorem dX10_target_28 : decode cX10_target 28 = .ok (.iload_n 3, 1) := by decide +kernel
theorem dX10_target_29 : decode cX10_target 29 = .ok (.iconst 0, 1) := by decide +kernel
theorem dX10_target_30 : decode cX10_target 30 = .ok (.bipush 9, 2) := by decide +kernel
theorem dX10_target_32 : decode cX10_target 32 = .ok (.invokestatic 45, 3) := by decide +kernel
theorem dX10_target_35 : decode cX10_target 35 = .ok (.ifCond .ne 7, 3) := by decide +kernel
theorem dX10_target_42 : decode cX10_target 42 = .ok (.iconst 0, 1) := by decide +kernel
theorem dX10_target_43 : decode cX10_target 43 = .ok (.iconst 2, 1) := by decide +kernel
theorem dX10_target_44 : decode cX10_target 44 = .ok (.invokevirtual 37, 3) := by decide +kernel
theorem dX10_target_47 : decode cX10_target 47 = .ok (.ifCond .eq 5, 3) := by decide +kernel
theorem dX10_target_52 : decode cX10_target 52 = .ok (.aload_n 0, 1) := by decide +kernel
theorem dX10_target_53 : decode cX10_target 53 = .ok (.getfield 24, 3) := by decide +kernel
theorem dX10_target_56 : decode cX10_target 56 = .ok (.iload_n 1, 1) := by decide +kernel
theorem dX10_target_57 : decode cX10_target 57 = .ok (.aaload, 1) := by decide +kernel
theorem dX10_target_58 : decode cX10_target 58 = .ok (.iload_n 2, 1) := by decide +kernel
theorem dX10_target_59 : decode cX10_target 59 = .ok (.iaload, 1) := by decide +kernel
theorem dX10_target_60 : decode cX10_target 60 = .ok (.istore 4, 2) := by decide +kernel
theorem dX10_target_62 : decode cX10_target 62 = .ok (.aload_n 0, 1) := by decide +kernel
theorem dX10_target_63 : decode cX10_target 63 = .ok (.getfield 24, 3) := by decide +kernel
theorem dX10_target_66 : decode cX10_target 66 = .ok (.iload_n 1, 1) := by decide +kernel
theorem dX10_target_67 : decode cX10_target 67 = .ok (.aaload, 1) := by decide +kernel
theorem dX10_target_68 : decode cX10_target 68 = .ok (.iload_n 2, 1) := by decide +kernel
theorem dX10_target_69 : decode cX10_target 69 = .ok (.iload_n 3, 1) := by decide +kernel
theorem dX10_target_70 : decode cX10_target 70 = .ok (.iastore, 1) := by decide +kernel
theorem dX10_target_71 : decode cX10_target 71 = .ok (.iload 4, 2) := by decide +kernel
theorem dX10_target_73 : decode cX10_target 73 = .ok (.ireturn, 1) := by decide +kernel
theorem dX10_target_38 : decode cX10_target 38 = .ok (.iconst 1, 1) := by decide +kernel
theorem dX10_target_39 : decode cX10_target 39 = .ok (.goto 4, 3) := by decide +kernel
theorem dX10_thrown_0 : decode cX10_thrown 0 = .ok (.aload_n 0, 1) := by decide +kernel
theorem dX10_thrown_1 : decode cX10_thrown 1 = .ok (.getfield 34, 3) := by decide +kernel
theorem dX10_thrown_4 : decode cX10_thrown 4 = .ok (.ireturn, 1) := by decide +kernel
theorem dX10_init_0 : decode cX10_init 0 = .ok (.aload_n 0, 1) := by decide +kernel
theorem dX10_init_1 : decode cX10_init 1 = .ok (.invokespecial 1, 3) := by decide +kernel
theorem dX10_init_4 : decode cX10_init 4 = .ok (.aload_n 0, 1) := by decide +kernel
theorem dX10_init_5 : decode cX10_init 5 = .ok (.new 7, 3) := by decide +kernel
theorem dX10_init_8 : decode cX10_init 8 = .ok (.dup, 1) := by decide +kernel
theorem dX10_init_9 : decode cX10_init 9 = .ok (.invokespecial 9, 3) := by decide +kernel
theorem dX10_init_12 : decode cX10_init 12 = .ok (.putfield 10, 3) := by decide +kernel
theorem dX10_init_15 : decode cX10_init 15 = .ok (.aload_n 0, 1) := by decide +kernel
theorem dX10_init_16 : decode cX10_init 16 = .ok (.new 7, 3) := by decide +kernel
theorem dX10_init_19 : decode cX10_init 19 = .ok (.dup, 1) := by decide +kernel
theorem dX10_init_20 : decode cX10_init 20 = .ok (.invokespecial 9, 3) := by decide +kernel
theorem dX10_init_23 : decode cX10_init 23 = .ok (.putfield 16, 3) := by decide +kernel
theorem dX10_init_26 : decode cX10_init 26 = .ok (.aload_n 0, 1) := by decide +kernel
theorem dX10_init_27 : decode cX10_init 27 = .ok (.new 7, 3) := by decide +kernel
theorem dX10_init_30 : decode cX10_init 30 = .ok (.dup, 1) := by decide +kernel
theorem dX10_init_31 : decode cX10_init 31 = .ok (.invokespecial 9, 3) := by decide +kernel
theorem dX10_init_34 : decode cX10_init 34 = .ok (.putfield 19, 3) := by decide +kernel
theorem dX10_init_37 : decode cX10_init 37 = .ok (.aload_n 0, 1) := by decide +kernel
theorem dX10_init_38 : decode cX10_init 38 = .ok (.iconst 3, 1) := by decide +kernel
theorem dX10_init_39 : decode cX10_init 39 = .ok (.iconst 2, 1) := by decide +kernel
theorem dX10_init_40 : decode cX10_init 40 = .ok (.multianewarray 22 2, 4) := by decide +kernel
theorem dX10_init_44 : decode cX10_init 44 = .ok (.putfield 24, 3) := by decide +kernel
theorem dX10_init_47 : decode cX10_init 47 = .ok (.aload_n 0, 1) := by decide +kernel
theorem dX10_init_48 : decode cX10_init 48 = .ok (.new 7, 3) := by decide +kernel
theorem dX10_init_51 : decode cX10_init 51 = .ok (.dup, 1) := by decide +kernel
theorem dX10_init_52 : decode cX10_init 52 = .ok (.invokespecial 9, 3) := by decide +kernel
theorem dX10_init_55 : decode cX10_init 55 = .ok (.putfield 27, 3) := by decide +kernel
theorem dX10_init_58 : decode cX10_init 58 = .ok (.aload_n 0, 1) := by decide +kernel
theorem dX10_init_59 : decode cX10_init 59 = .ok (.iconst 3, 1) := by decide +kernel
theorem dX10_init_60 : decode cX10_init 60 = .ok (.putfield 30, 3) := by decide +kernel
theorem dX10_init_63 : decode cX10_init 63 = .ok (.return_, 1) := by decide +kernel
theorem tyX7_ok : ∀ k, k < 7 → parseFieldDescriptor (TX7 k).2.2.1 = some (tyX7 k) := by decide +kernel
theorem tyX8_ok : ∀ k, k < 4 → parseFieldDescriptor (TX8 k).2.2.1 = some (tyX8 k) := by decide +kernel
theorem tyX9_ok : ∀ k, k < 1 → parseFieldDescriptor (TX9 k).2.2.1 = some (tyX9 k) := by decide +kernel
theorem tyX10_ok : ∀ k, k < 10 → parseFieldDescriptor (TX10 k).2.2.1 = some (tyX10 k) := by decide +kernel
theorem tyJx35411_ok : ∀ k, k < 4 → parseFieldDescriptor (TJx35411 k).2.2.1 = some (tyJx35411 k) := by decide +kernel
theorem nmJx35411 : ∀ a, a < 4 → ∀ b, b < 4 → a ≠ b → (TJx35411 a).2.1 ≠ (TJx35411 b).2.1 := by decide +kernel
theorem tyJx4a65c_ok : ∀ k, k < 3 → parseFieldDescriptor (TJx4a65c k).2.2.1 = some (tyJx4a65c k) := by decide +kernel
theorem nmJx4a65c : ∀ a, a < 3 → ∀ b, b < 3 → a ≠ b → (TJx4a65c a).2.1 ≠ (TJx4a65c b).2.1 := by decide +kernel
