theorem dX10_init_0 : decode cX10_init 0 = .ok (.aload_n 0, 1) := by decide +kernel
theorem dX10_init_1 : decode cX10_init 1 = .ok (.invokespecial 1, 3) := by decide +kernel
theorem dX10_init_4 : decode cX10_init 4 = .ok (.aload_n 0, 1) := by decide +kernel
theorem dX10_init_5 : decode cX10_init 5 = .ok (.new 7, 3) := by decide +kernel
theorem dX10_init_8 : decode cX10_init 8 = .ok (.dup, 1) := by decide +kernel
theorem dX10_init_9 : decode cX10_init 9 = .ok (.invokespecial 9, 3) := by decide +kernel
theorem dX10_init_12 : decode cX10_init 12 = .ok (.putfield 10, 3) := by decide +kernel
theorem dX10_init_15 : decode cX10_init 15 = .ok (.aload_n 0, 1) := by decide +kernel
theorem dX10_init_16 : decode cX10_init 16 = .ok (.new 7, 3) := by decide +kernel
theorem dX10_init_19 : decode cX10_init 19 = .ok (.dup, 1) := by decide +kernel
theorem dX10_init_20 : decode cX10_init 20 = .ok (.invokespecial 9, 3) := by decide +kernel
theorem dX10_init_23 : decode cX10_init 23 = .ok (.putfield 16, 3) := by decide +kernel
theorem dX10_init_26 : decode cX10_init 26 = .ok (.aload_n 0, 1) := by decide +kernel
theorem dX10_init_27 : decode cX10_init 27 = .ok (.new 7, 3) := by decide +kernel
theorem dX10_init_30 : decode cX10_init 30 = .ok (.dup, 1) := by decide +kernel
theorem dX10_init_31 : decode cX10_init 31 = .ok (.invokespecial 9, 3) := by decide +kernel
theorem dX10_init_34 : decode cX10_init 34 = .ok (.putfield 19, 3) := by decide +kernel
theorem dX10_init_37 : decode cX10_init 37 = .ok (.aload_n 0, 1) := by decide +kernel
theorem dX10_init_38 : decode cX10_init 38 = .ok (.iconst 3, 1) := by decide +kernel
theorem dX10_init_39 : decode cX10_init 39 = .ok (.iconst 2, 1) := by decide +kernel
theorem dX10_init_40 : decode cX10_init 40 = .ok (.multianewarray 22 2, 4) := by decide +kernel
theorem dX10_init_44 : decode cX10_init 44 = .ok (.putfield 24, 3) := by decide +kernel
theorem dX10_init_47 : decode cX10_init 47 = .ok (.aload_n 0, 1) := by decide +kernel
theorem dX10_init_48 : decode cX10_init 48 = .ok (.new 7, 3) := by decide +kernel
theorem dX10_init_51 : decode cX10_init 51 = .ok (.dup, 1) := by decide +kernel
theorem dX10_init_52 : decode cX10_init 52 = .ok (.invokespecial 9, 3) := by decide +kernel
theorem dX10_init_55 : decode cX10_init 55 = .ok (.putfield 27, 3) := by decide +kernel
theorem dX10_init_58 : decode cX10_init 58 = .ok (.aload_n 0, 1) := by decide +kernel
theorem dX10_init_59 : decode cX10_init 59 = .ok (.iconst 3, 1) := by decide +kernel
theorem dX10_init_60 : decode cX10_init 60 = .ok (.putfield 30, 3) := by decide +kernel
theorem dX10_init_63 : decode cX10_init 63 = .ok (.return_, 1) := by decide +kernel
theorem dX10_thrown_0 : decode cX10_thrown 0 = .ok (.aload_n 0, 1) := by decide +kernel
theorem dX10_thrown_1 : decode cX10_thrown 1 = .ok (.getfield 34, 3) := by decide +kernel
theorem dX10_thrown_4 : decode cX10_thrown 4 = .ok (.ireturn, 1) := by decide +kernel
theorem dX10_isIn_0 : decode cX10_isIn 0 = .ok (.iload_n 0, 1) := by decide +kernel
theorem dX10_isIn_1 : decode cX10_isIn 1 = .ok (.iload_n 1, 1) := by decide +kernel
theorem dX10_isIn_2 : decode cX10_isIn 2 = .ok (.if_icmp .lt 12, 3) := by decide +kernel
theorem dX10_isIn_5 : decode cX10_isIn 5 = .ok (.iload_n 0, 1) := by decide +kernel
theorem dX10_isIn_6 : decode cX10_isIn 6 = .ok (.iload_n 2, 1) := by decide +kernel
theorem dX10_isIn_7 : decode cX10_isIn 7 = .ok (.if_icmp .gt 7, 3) := by decide +kernel
theorem dX10_isIn_10 : decode cX10_isIn 10 = .ok (.iconst 1, 1) := by decide +kernel
theorem dX10_isIn_11 : decode cX10_isIn 11 = .ok (.goto 4, 3) := by decide +kernel
theorem dX10_isIn_14 : decode cX10_isIn 14 = .ok (.iconst 0, 1) := by decide +kernel
theorem dX10_isIn_15 : decode cX10_isIn 15 = .ok (.ireturn, 1) := by decide +kernel
theorem dX10_refuse_0 : decode cX10_refuse 0 = .ok (.iload_n 1, 1) := by decide +kernel
theorem dX10_refuse_1 : decode cX10_refuse 1 = .ok (.ifCond .eq 15, 3) := by decide +kernel
theorem dX10_refuse_4 : decode cX10_refuse 4 = .ok (.aload_n 0, 1) := by decide +kernel
theorem dX10_refuse_5 : decode cX10_refuse 5 = .ok (.getfield 34, 3) := by decide +kernel
theorem dX10_refuse_8 : decode cX10_refuse 8 = .ok (.ifCond .ne 8, 3) := by decide +kernel
theorem dX10_refuse_11 : decode cX10_refuse 11 = .ok (.aload_n 0, 1) := by decide +kernel
theorem dX10_refuse_12 : decode cX10_refuse 12 = .ok (.iload_n 2, 1) := by decide +kernel
theorem dX10_refuse_13 : decode cX10_refuse 13 = .ok (.putfield 34, 3) := by decide +kernel
theorem dX10_refuse_16 : decode cX10_refuse 16 = .ok (.aload_n 0, 1) := by decide +kernel
theorem dX10_refuse_17 : decode cX10_refuse 17 = .ok (.getfield 34, 3) := by decide +kernel
theorem dX10_refuse_20 : decode cX10_refuse 20 = .ok (.ifCond .le 7, 3) := by decide +kernel
theorem dX10_refuse_23 : decode cX10_refuse 23 = .ok (.iconst 1, 1) := by decide +kernel
theorem dX10_refuse_24 : decode cX10_refuse 24 = .ok (.goto 4, 3) := by decide +kernel
theorem dX10_refuse_27 : decode cX10_refuse 27 = .ok (.iconst 0, 1) := by decide +kernel
theorem dX10_refuse_28 : decode cX10_refuse 28 = .ok (.ireturn, 1) := by decide +kernel
theorem dX10_start_0 : decode cX10_start 0 = .ok (.aload_n 0, 1) := by decide +kernel
theorem dX10_start_1 : decode cX10_start 1 = .ok (.iconst 0, 1) := by decide +kernel
theorem dX10_start_2 : decode cX10_start 2 = .ok (.putfield 34, 3) := by decide +kernel
theorem dX10_start_5 : decode cX10_start 5 = .ok (.aload_n 0, 1) := by decide +kernel
theorem dX10_start_6 : decode cX10_start 6 = .ok (.iload_n 1, 1) := by decide +kernel
theorem dX10_start_7 : decode cX10_start 7 = .ok (.iload_n 2, 1) := by decide +kernel
theorem dX10_start_8 : decode cX10_start 8 = .ok (.invokevirtual 37, 3) := by decide +kernel
theorem dX10_start_11 : decode cX10_start 11 = .ok (.ireturn, 1) := by decide +kernel
theorem dX10_isNoQuestion_0 : decode cX10_isNoQuestion 0 = .ok (.iload_n 1, 1) := by decide +kernel
theorem dX10_isNoQuestion_1 : decode cX10_isNoQuestion 1 = .ok (.iconst 0, 1) := by decide +kernel
theorem dX10_isNoQuestion_2 : decode cX10_isNoQuestion 2 = .ok (.aload_n 0, 1) := by decide +kernel
theorem dX10_isNoQuestion_3 : decode cX10_isNoQuestion 3 = .ok (.getfield 10, 3) := by decide +kernel
theorem dX10_isNoQuestion_6 : decode cX10_isNoQuestion 6 = .ok (.invokevirtual 41, 3) := by decide +kernel
theorem dX10_isNoQuestion_9 : decode cX10_isNoQuestion 9 = .ok (.iconst 1, 1) := by decide +kernel
theorem dX10_isNoQuestion_10 : decode cX10_isNoQuestion 10 = .ok (.isub, 1) := by decide +kernel
theorem dX10_isNoQuestion_11 : decode cX10_isNoQuestion 11 = .ok (.invokestatic 45, 3) := by decide +kernel
theorem dX10_isNoQuestion_14 : decode cX10_isNoQuestion 14 = .ok (.ifCond .ne 7, 3) := by decide +kernel
theorem dX10_isNoQuestion_17 : decode cX10_isNoQuestion 17 = .ok (.iconst 1, 1) := by decide +kernel
theorem dX10_isNoQuestion_18 : decode cX10_isNoQuestion 18 = .ok (.goto 4, 3) := by decide +kernel
theorem dX10_isNoQuestion_21 : decode cX10_isNoQuestion 21 = .ok (.iconst 0, 1) := by decide +kernel
theorem dX10_isNoQuestion_22 : decode cX10_isNoQuestion 22 = .ok (.ireturn, 1) := by decide +kernel
theorem dX10_isNoAnswer_0 : decode cX10_isNoAnswer 0 = .ok (.aload_n 0, 1) := by decide +kernel
theorem dX10_isNoAnswer_1 : decode cX10_isNoAnswer 1 = .ok (.iload_n 1, 1) := by decide +kernel
theorem dX10_isNoAnswer_2 : decode cX10_isNoAnswer 2 = .ok (.invokevirtual 49, 3) := by decide +kernel
theorem dX10_isNoAnswer_5 : decode cX10_isNoAnswer 5 = .ok (.ifCond .ne 28, 3) := by decide +kernel
theorem dX10_isNoAnswer_8 : decode cX10_isNoAnswer 8 = .ok (.iload_n 2, 1) := by decide +kernel
theorem dX10_isNoAnswer_9 : decode cX10_isNoAnswer 9 = .ok (.iconst 0, 1) := by decide +kernel
theorem dX10_isNoAnswer_10 : decode cX10_isNoAnswer 10 = .ok (.aload_n 0, 1) := by decide +kernel
theorem dX10_isNoAnswer_11 : decode cX10_isNoAnswer 11 = .ok (.getfield 10, 3) := by decide +kernel
theorem dX10_isNoAnswer_14 : decode cX10_isNoAnswer 14 = .ok (.iload_n 1, 1) := by decide +kernel
theorem dX10_isNoAnswer_15 : decode cX10_isNoAnswer 15 = .ok (.invokevirtual 53, 3) := by decide +kernel
theorem dX10_isNoAnswer_18 : decode cX10_isNoAnswer 18 = .ok (.checkcast 57, 3) := by decide +kernel
theorem dX10_isNoAnswer_21 : decode cX10_isNoAnswer 21 = .ok (.getfield 59, 3) := by decide +kernel
theorem dX10_isNoAnswer_24 : decode cX10_isNoAnswer 24 = .ok (.arraylength, 1) := by decide +kernel
theorem dX10_isNoAnswer_25 : decode cX10_isNoAnswer 25 = .ok (.iconst 1, 1) := by decide +kernel
theorem dX10_isNoAnswer_26 : decode cX10_isNoAnswer 26 = .ok (.isub, 1) := by decide +kernel
theorem dX10_isNoAnswer_27 : decode cX10_isNoAnswer 27 = .ok (.invokestatic 45, 3) := by decide +kernel
theorem dX10_isNoAnswer_30 : decode cX10_isNoAnswer 30 = .ok (.ifCond .ne 7, 3) := by decide +kernel
theorem dX10_isNoAnswer_33 : decode cX10_isNoAnswer 33 = .ok (.iconst 1, 1) := by decide +kernel
theorem dX10_isNoAnswer_34 : decode cX10_isNoAnswer 34 = .ok (.goto 4, 3) := by decide +kernel
theorem dX10_isNoAnswer_37 : decode cX10_isNoAnswer 37 = .ok (.iconst 0, 1) := by decide +kernel
theorem dX10_isNoAnswer_38 : decode cX10_isNoAnswer 38 = .ok (.ireturn, 1) := by decide +kernel
theorem dX10_isNoA_0 : decode cX10_isNoA 0 = .ok (.iload_n 0, 1) := by decide +kernel
theorem dX10_isNoA_1 : decode cX10_isNoA 1 = .ok (.iconst 0, 1) := by decide +kernel
theorem dX10_isNoA_2 : decode cX10_isNoA 2 = .ok (.iconst 2, 1) := by decide +kernel
theorem dX10_isNoA_3 : decode cX10_isNoA 3 = .ok (.invokestatic 45, 3) := by decide +kernel
theorem dX10_isNoA_6 : decode cX10_isNoA 6 = .ok (.ifCond .ne 7, 3) := by decide +kernel
theorem dX10_isNoA_9 : decode cX10_isNoA 9 = .ok (.iconst 1, 1) := by decide +kernel
theorem dX10_isNoA_10 : decode cX10_isNoA 10 = .ok (.goto 4, 3) := by decide +kernel
theorem dX10_isNoA_13 : decode cX10_isNoA 13 = .ok (.iconst 0, 1) := by decide +kernel
theorem dX10_isNoA_14 : decode cX10_isNoA 14 = .ok (.ireturn, 1) := by decide +kernel
theorem dX10_isNoB_0 : decode cX10_isNoB 0 = .ok (.iload_n 0, 1) := by decide +kernel
theorem dX10_isNoB_1 : decode cX10_isNoB 1 = .ok (.iconst 0, 1) := by decide +kernel
theorem dX10_isNoB_2 : decode cX10_isNoB 2 = .ok (.iconst 1, 1) := by decide +kernel
theorem dX10_isNoB_3 : decode cX10_isNoB 3 = .ok (.invokestatic 45, 3) := by decide +kernel
theorem dX10_isNoB_6 : decode cX10_isNoB 6 = .ok (.ifCond .ne 7, 3) := by decide +kernel
theorem dX10_isNoB_9 : decode cX10_isNoB 9 = .ok (.iconst 1, 1) := by decide +kernel
theorem dX10_isNoB_10 : decode cX10_isNoB 10 = .ok (.goto 4, 3) := by decide +kernel
theorem dX10_isNoB_13 : decode cX10_isNoB 13 = .ok (.iconst 0, 1) := by decide +kernel
theorem dX10_isNoB_14 : decode cX10_isNoB 14 = .ok (.ireturn, 1) := by decide +kernel
theorem dX10_question_0 : decode cX10_question 0 = .ok (.aload_n 0, 1) := by decide +kernel
theorem dX10_question_1 : decode cX10_question 1 = .ok (.iload_n 1, 1) := by decide +kernel
theorem dX10_question_2 : decode cX10_question 2 = .ok (.iconst 2, 1) := by decide +kernel
theorem dX10_question_3 : decode cX10_question 3 = .ok (.iconst 5, 1) := by decide +kernel
theorem dX10_question_4 : decode cX10_question 4 = .ok (.invokestatic 45, 3) := by decide +kernel
theorem dX10_question_7 : decode cX10_question 7 = .ok (.ifCond .ne 7, 3) := by decide +kernel
theorem dX10_question_10 : decode cX10_question 10 = .ok (.iconst 1, 1) := by decide +kernel
theorem dX10_question_11 : decode cX10_question 11 = .ok (.goto 4, 3) := by decide +kernel
theorem dX10_question_14 : decode cX10_question 14 = .ok (.iconst 0, 1) := by decide +kernel
theorem dX10_question_15 : decode cX10_question 15 = .ok (.iconst 1, 1) := by decide +kernel
theorem dX10_question_16 : decode cX10_question 16 = .ok (.invokevirtual 63, 3) := by decide +kernel
theorem dX10_question_19 : decode cX10_question 19 = .ok (.ifCond .ne 38, 3) := by decide +kernel
theorem dX10_question_22 : decode cX10_question 22 = .ok (.aload_n 0, 1) := by decide +kernel
theorem dX10_question_23 : decode cX10_question 23 = .ok (.aload_n 0, 1) := by decide +kernel
theorem dX10_question_24 : decode cX10_question 24 = .ok (.getfield 10, 3) := by decide +kernel
theorem dX10_question_27 : decode cX10_question 27 = .ok (.invokevirtual 41, 3) := by decide +kernel
theorem dX10_question_30 : decode cX10_question 30 = .ok (.bipush 10, 2) := by decide +kernel
theorem dX10_question_32 : decode cX10_question 32 = .ok (.if_icmp .eq 13, 3) := by decide +kernel
theorem dX10_question_35 : decode cX10_question 35 = .ok (.aload_n 0, 1) := by decide +kernel
theorem dX10_question_36 : decode cX10_question 36 = .ok (.getfield 19, 3) := by decide +kernel
theorem dX10_question_39 : decode cX10_question 39 = .ok (.invokevirtual 66, 3) := by decide +kernel
theorem dX10_question_42 : decode cX10_question 42 = .ok (.ifCond .ne 7, 3) := by decide +kernel
theorem dX10_question_45 : decode cX10_question 45 = .ok (.iconst 1, 1) := by decide +kernel
theorem dX10_question_46 : decode cX10_question 46 = .ok (.goto 4, 3) := by decide +kernel
theorem dX10_question_49 : decode cX10_question 49 = .ok (.iconst 0, 1) := by decide +kernel
theorem dX10_question_50 : decode cX10_question 50 = .ok (.iconst 2, 1) := by decide +kernel
theorem dX10_question_51 : decode cX10_question 51 = .ok (.invokevirtual 37, 3) := by decide +kernel
theorem dX10_question_54 : decode cX10_question 54 = .ok (.ifCond .eq 5, 3) := by decide +kernel
theorem dX10_question_57 : decode cX10_question 57 = .ok (.iconst 0, 1) := by decide +kernel
theorem dX10_question_58 : decode cX10_question 58 = .ok (.ireturn, 1) := by decide +kernel
theorem dX10_question_59 : decode cX10_question 59 = .ok (.aload_n 0, 1) := by decide +kernel
theorem dX10_question_60 : decode cX10_question 60 = .ok (.getfield 10, 3) := by decide +kernel
theorem dX10_question_63 : decode cX10_question 63 = .ok (.new 57, 3) := by decide +kernel
theorem dX10_question_66 : decode cX10_question 66 = .ok (.dup, 1) := by decide +kernel
theorem dX10_question_67 : decode cX10_question 67 = .ok (.aload_n 0, 1) := by decide +kernel
theorem dX10_question_68 : decode cX10_question 68 = .ok (.getfield 10, 3) := by decide +kernel
theorem dX10_question_71 : decode cX10_question 71 = .ok (.invokevirtual 41, 3) := by decide +kernel
theorem dX10_question_74 : decode cX10_question 74 = .ok (.iload_n 1, 1) := by decide +kernel
theorem dX10_question_75 : decode cX10_question 75 = .ok (.invokespecial 70, 3) := by decide +kernel
theorem dX10_question_78 : decode cX10_question 78 = .ok (.invokevirtual 73, 3) := by decide +kernel
theorem dX10_question_81 : decode cX10_question 81 = .ok (.pop, 1) := by decide +kernel
theorem dX10_question_82 : decode cX10_question 82 = .ok (.aload_n 0, 1) := by decide +kernel
theorem dX10_question_83 : decode cX10_question 83 = .ok (.getfield 10, 3) := by decide +kernel
theorem dX10_question_86 : decode cX10_question 86 = .ok (.invokevirtual 41, 3) := by decide +kernel
theorem dX10_question_89 : decode cX10_question 89 = .ok (.iconst 1, 1) := by decide +kernel
theorem dX10_question_90 : decode cX10_question 90 = .ok (.isub, 1) := by decide +kernel
theorem dX10_question_91 : decode cX10_question 91 = .ok (.ireturn, 1) := by decide +kernel
theorem dX10_orEnd_0 : decode cX10_orEnd 0 = .ok (.iload_n 1, 1) := by decide +kernel
theorem dX10_orEnd_1 : decode cX10_orEnd 1 = .ok (.aload_n 0, 1) := by decide +kernel
theorem dX10_orEnd_2 : decode cX10_orEnd 2 = .ok (.getfield 10, 3) := by decide +kernel
theorem dX10_orEnd_5 : decode cX10_orEnd 5 = .ok (.invokevirtual 41, 3) := by decide +kernel
theorem dX10_orEnd_8 : decode cX10_orEnd 8 = .ok (.if_icmp .ge 7, 3) := by decide +kernel
theorem dX10_orEnd_11 : decode cX10_orEnd 11 = .ok (.iload_n 1, 1) := by decide +kernel
theorem dX10_orEnd_12 : decode cX10_orEnd 12 = .ok (.goto 4, 3) := by decide +kernel
theorem dX10_orEnd_15 : decode cX10_orEnd 15 = .ok (.iconst (-1), 1) := by decide +kernel
theorem dX10_orEnd_16 : decode cX10_orEnd 16 = .ok (.ireturn, 1) := by decide +kernel
theorem dX10_behindNow_0 : decode cX10_behindNow 0 = .ok (.aload_n 0, 1) := by decide +kernel
theorem dX10_behindNow_1 : decode cX10_behindNow 1 = .ok (.getfield 10, 3) := by decide +kernel
theorem dX10_behindNow_4 : decode cX10_behindNow 4 = .ok (.iload_n 1, 1) := by decide +kernel
theorem dX10_behindNow_5 : decode cX10_behindNow 5 = .ok (.invokevirtual 53, 3) := by decide +kernel
theorem dX10_behindNow_8 : decode cX10_behindNow 8 = .ok (.checkcast 57, 3) := by decide +kernel
theorem dX10_behindNow_11 : decode cX10_behindNow 11 = .ok (.getfield 59, 3) := by decide +kernel
theorem dX10_behindNow_14 : decode cX10_behindNow 14 = .ok (.iload_n 2, 1) := by decide +kernel
theorem dX10_behindNow_15 : decode cX10_behindNow 15 = .ok (.iaload, 1) := by decide +kernel
theorem dX10_behindNow_16 : decode cX10_behindNow 16 = .ok (.istore_n 3, 1) := by decide +kernel
theorem dX10_behindNow_17 : decode cX10_behindNow 17 = .ok (.iload_n 3, 1) := by decide +kernel
theorem dX10_behindNow_18 : decode cX10_behindNow 18 = .ok (.iconst (-1), 1) := by decide +kernel
theorem dX10_behindNow_19 : decode cX10_behindNow 19 = .ok (.if_icmp .ne 7, 3) := by decide +kernel
theorem dX10_behindNow_22 : decode cX10_behindNow 22 = .ok (.iconst (-1), 1) := by decide +kernel
theorem dX10_behindNow_23 : decode cX10_behindNow 23 = .ok (.goto 8, 3) := by decide +kernel
theorem dX10_behindNow_26 : decode cX10_behindNow 26 = .ok (.aload_n 0, 1) := by decide +kernel
theorem dX10_behindNow_27 : decode cX10_behindNow 27 = .ok (.iload_n 3, 1) := by decide +kernel
theorem dX10_behindNow_28 : decode cX10_behindNow 28 = .ok (.invokevirtual 77, 3) := by decide +kernel
theorem dX10_behindNow_31 : decode cX10_behindNow 31 = .ok (.ireturn, 1) := by decide +kernel
theorem dX10_route_0 : decode cX10_route 0 = .ok (.aload_n 0, 1) := by decide +kernel
theorem dX10_route_1 : decode cX10_route 1 = .ok (.aload_n 0, 1) := by decide +kernel
theorem dX10_route_2 : decode cX10_route 2 = .ok (.iload_n 1, 1) := by decide +kernel
theorem dX10_route_3 : decode cX10_route 3 = .ok (.iload_n 2, 1) := by decide +kernel
theorem dX10_route_4 : decode cX10_route 4 = .ok (.invokevirtual 81, 3) := by decide +kernel
theorem dX10_route_7 : decode cX10_route 7 = .ok (.ifCond .ne 16, 3) := by decide +kernel
theorem dX10_route_10 : decode cX10_route 10 = .ok (.iload_n 3, 1) := by decide +kernel
theorem dX10_route_11 : decode cX10_route 11 = .ok (.iconst (-1), 1) := by decide +kernel
theorem dX10_route_12 : decode cX10_route 12 = .ok (.if_icmp .eq 15, 3) := by decide +kernel
theorem dX10_route_15 : decode cX10_route 15 = .ok (.aload_n 0, 1) := by decide +kernel
theorem dX10_route_16 : decode cX10_route 16 = .ok (.iload_n 3, 1) := by decide +kernel
theorem dX10_route_17 : decode cX10_route 17 = .ok (.invokevirtual 49, 3) := by decide +kernel
theorem dX10_route_20 : decode cX10_route 20 = .ok (.ifCond .eq 7, 3) := by decide +kernel
theorem dX10_route_23 : decode cX10_route 23 = .ok (.iconst 1, 1) := by decide +kernel
theorem dX10_route_24 : decode cX10_route 24 = .ok (.goto 4, 3) := by decide +kernel
theorem dX10_route_27 : decode cX10_route 27 = .ok (.iconst 0, 1) := by decide +kernel
theorem dX10_route_28 : decode cX10_route 28 = .ok (.iconst 1, 1) := by decide +kernel
theorem dX10_route_29 : decode cX10_route 29 = .ok (.invokevirtual 63, 3) := by decide +kernel
theorem dX10_route_32 : decode cX10_route 32 = .ok (.ifCond .ne 49, 3) := by decide +kernel
theorem dX10_route_35 : decode cX10_route 35 = .ok (.aload_n 0, 1) := by decide +kernel
theorem dX10_route_36 : decode cX10_route 36 = .ok (.iload_n 3, 1) := by decide +kernel
theorem dX10_route_37 : decode cX10_route 37 = .ok (.iconst (-1), 1) := by decide +kernel
theorem dX10_route_38 : decode cX10_route 38 = .ok (.if_icmp .eq 12, 3) := by decide +kernel
theorem dX10_route_41 : decode cX10_route 41 = .ok (.iload_n 3, 1) := by decide +kernel
theorem dX10_route_42 : decode cX10_route 42 = .ok (.iload_n 1, 1) := by decide +kernel
theorem dX10_route_43 : decode cX10_route 43 = .ok (.if_icmp .gt 7, 3) := by decide +kernel
theorem dX10_route_46 : decode cX10_route 46 = .ok (.iconst 1, 1) := by decide +kernel
theorem dX10_route_47 : decode cX10_route 47 = .ok (.goto 4, 3) := by decide +kernel
theorem dX10_route_50 : decode cX10_route 50 = .ok (.iconst 0, 1) := by decide +kernel
theorem dX10_route_51 : decode cX10_route 51 = .ok (.iconst 2, 1) := by decide +kernel
theorem dX10_route_52 : decode cX10_route 52 = .ok (.invokevirtual 37, 3) := by decide +kernel
theorem dX10_route_55 : decode cX10_route 55 = .ok (.ifCond .ne 26, 3) := by decide +kernel
theorem dX10_route_58 : decode cX10_route 58 = .ok (.aload_n 0, 1) := by decide +kernel
theorem dX10_route_59 : decode cX10_route 59 = .ok (.aload_n 0, 1) := by decide +kernel
theorem dX10_route_60 : decode cX10_route 60 = .ok (.getfield 19, 3) := by decide +kernel
theorem dX10_route_63 : decode cX10_route 63 = .ok (.invokevirtual 66, 3) := by decide +kernel
theorem dX10_route_66 : decode cX10_route 66 = .ok (.ifCond .ne 7, 3) := by decide +kernel
theorem dX10_route_69 : decode cX10_route 69 = .ok (.iconst 1, 1) := by decide +kernel
theorem dX10_route_70 : decode cX10_route 70 = .ok (.goto 4, 3) := by decide +kernel
theorem dX10_route_73 : decode cX10_route 73 = .ok (.iconst 0, 1) := by decide +kernel
theorem dX10_route_74 : decode cX10_route 74 = .ok (.iconst 3, 1) := by decide +kernel
theorem dX10_route_75 : decode cX10_route 75 = .ok (.invokevirtual 37, 3) := by decide +kernel
theorem dX10_route_78 : decode cX10_route 78 = .ok (.ifCond .eq 5, 3) := by decide +kernel
theorem dX10_route_81 : decode cX10_route 81 = .ok (.iconst 0, 1) := by decide +kernel
theorem dX10_route_82 : decode cX10_route 82 = .ok (.ireturn, 1) := by decide +kernel
theorem dX10_route_83 : decode cX10_route 83 = .ok (.aload_n 0, 1) := by decide +kernel
theorem dX10_route_84 : decode cX10_route 84 = .ok (.iload_n 1, 1) := by decide +kernel
theorem dX10_route_85 : decode cX10_route 85 = .ok (.iload_n 2, 1) := by decide +kernel
theorem dX10_route_86 : decode cX10_route 86 = .ok (.invokevirtual 85, 3) := by decide +kernel
theorem dX10_route_89 : decode cX10_route 89 = .ok (.istore 4, 2) := by decide +kernel
theorem dX10_route_91 : decode cX10_route 91 = .ok (.aload_n 0, 1) := by decide +kernel
theorem dX10_route_92 : decode cX10_route 92 = .ok (.getfield 10, 3) := by decide +kernel
theorem dX10_route_95 : decode cX10_route 95 = .ok (.iload_n 1, 1) := by decide +kernel
theorem dX10_route_96 : decode cX10_route 96 = .ok (.invokevirtual 53, 3) := by decide +kernel
theorem dX10_route_99 : decode cX10_route 99 = .ok (.checkcast 57, 3) := by decide +kernel
theorem dX10_route_102 : decode cX10_route 102 = .ok (.getfield 59, 3) := by decide +kernel
theorem dX10_route_105 : decode cX10_route 105 = .ok (.iload_n 2, 1) := by decide +kernel
theorem dX10_route_106 : decode cX10_route 106 = .ok (.iload_n 3, 1) := by decide +kernel
theorem dX10_route_107 : decode cX10_route 107 = .ok (.iastore, 1) := by decide +kernel
theorem dX10_route_108 : decode cX10_route 108 = .ok (.iload 4, 2) := by decide +kernel
theorem dX10_route_110 : decode cX10_route 110 = .ok (.ireturn, 1) := by decide +kernel
theorem dX10_rotate_0 : decode cX10_rotate 0 = .ok (.aload_n 0, 1) := by decide +kernel
theorem dX10_rotate_1 : decode cX10_rotate 1 = .ok (.iload_n 1, 1) := by decide +kernel
theorem dX10_rotate_2 : decode cX10_rotate 2 = .ok (.iconst 0, 1) := by decide +kernel
theorem dX10_rotate_3 : decode cX10_rotate 3 = .ok (.iconst 3, 1) := by decide +kernel
theorem dX10_rotate_4 : decode cX10_rotate 4 = .ok (.invokestatic 45, 3) := by decide +kernel
theorem dX10_rotate_7 : decode cX10_rotate 7 = .ok (.ifCond .eq 14, 3) := by decide +kernel
theorem dX10_rotate_10 : decode cX10_rotate 10 = .ok (.iload_n 1, 1) := by decide +kernel
theorem dX10_rotate_11 : decode cX10_rotate 11 = .ok (.aload_n 0, 1) := by decide +kernel
theorem dX10_rotate_12 : decode cX10_rotate 12 = .ok (.getfield 10, 3) := by decide +kernel
theorem dX10_rotate_15 : decode cX10_rotate 15 = .ok (.invokevirtual 41, 3) := by decide +kernel
theorem dX10_rotate_18 : decode cX10_rotate 18 = .ok (.if_icmp .le 7, 3) := by decide +kernel
theorem dX10_rotate_21 : decode cX10_rotate 21 = .ok (.iconst 1, 1) := by decide +kernel
theorem dX10_rotate_22 : decode cX10_rotate 22 = .ok (.goto 4, 3) := by decide +kernel
theorem dX10_rotate_25 : decode cX10_rotate 25 = .ok (.iconst 0, 1) := by decide +kernel
theorem dX10_rotate_26 : decode cX10_rotate 26 = .ok (.iconst 1, 1) := by decide +kernel
theorem dX10_rotate_27 : decode cX10_rotate 27 = .ok (.invokevirtual 63, 3) := by decide +kernel
theorem dX10_rotate_30 : decode cX10_rotate 30 = .ok (.ifCond .ne 26, 3) := by decide +kernel
theorem dX10_rotate_33 : decode cX10_rotate 33 = .ok (.aload_n 0, 1) := by decide +kernel
theorem dX10_rotate_34 : decode cX10_rotate 34 = .ok (.aload_n 0, 1) := by decide +kernel
theorem dX10_rotate_35 : decode cX10_rotate 35 = .ok (.getfield 19, 3) := by decide +kernel
theorem dX10_rotate_38 : decode cX10_rotate 38 = .ok (.invokevirtual 66, 3) := by decide +kernel
theorem dX10_rotate_41 : decode cX10_rotate 41 = .ok (.ifCond .ne 7, 3) := by decide +kernel
theorem dX10_rotate_44 : decode cX10_rotate 44 = .ok (.iconst 1, 1) := by decide +kernel
theorem dX10_rotate_45 : decode cX10_rotate 45 = .ok (.goto 4, 3) := by decide +kernel
theorem dX10_rotate_48 : decode cX10_rotate 48 = .ok (.iconst 0, 1) := by decide +kernel
theorem dX10_rotate_49 : decode cX10_rotate 49 = .ok (.iconst 2, 1) := by decide +kernel
theorem dX10_rotate_50 : decode cX10_rotate 50 = .ok (.invokevirtual 37, 3) := by decide +kernel
theorem dX10_rotate_53 : decode cX10_rotate 53 = .ok (.ifCond .eq 5, 3) := by decide +kernel
theorem dX10_rotate_56 : decode cX10_rotate 56 = .ok (.iconst 0, 1) := by decide +kernel
theorem dX10_rotate_57 : decode cX10_rotate 57 = .ok (.ireturn, 1) := by decide +kernel
theorem dX10_rotate_58 : decode cX10_rotate 58 = .ok (.aload_n 0, 1) := by decide +kernel
theorem dX10_rotate_59 : decode cX10_rotate 59 = .ok (.getfield 89, 3) := by decide +kernel
theorem dX10_rotate_62 : decode cX10_rotate 62 = .ok (.istore_n 2, 1) := by decide +kernel
theorem dX10_rotate_63 : decode cX10_rotate 63 = .ok (.aload_n 0, 1) := by decide +kernel
theorem dX10_rotate_64 : decode cX10_rotate 64 = .ok (.iload_n 1, 1) := by decide +kernel
theorem dX10_rotate_65 : decode cX10_rotate 65 = .ok (.putfield 89, 3) := by decide +kernel
theorem dX10_rotate_68 : decode cX10_rotate 68 = .ok (.iload_n 2, 1) := by decide +kernel
theorem dX10_rotate_69 : decode cX10_rotate 69 = .ok (.ireturn, 1) := by decide +kernel
theorem dX10_behind_0 : decode cX10_behind 0 = .ok (.aload_n 0, 1) := by decide +kernel
theorem dX10_behind_1 : decode cX10_behind 1 = .ok (.aload_n 0, 1) := by decide +kernel
theorem dX10_behind_2 : decode cX10_behind 2 = .ok (.iload_n 1, 1) := by decide +kernel
theorem dX10_behind_3 : decode cX10_behind 3 = .ok (.iload_n 2, 1) := by decide +kernel
theorem dX10_behind_4 : decode cX10_behind 4 = .ok (.invokevirtual 81, 3) := by decide +kernel
theorem dX10_behind_7 : decode cX10_behind 7 = .ok (.iconst 1, 1) := by decide +kernel
theorem dX10_behind_8 : decode cX10_behind 8 = .ok (.invokevirtual 63, 3) := by decide +kernel
theorem dX10_behind_11 : decode cX10_behind 11 = .ok (.ifCond .eq 7, 3) := by decide +kernel
theorem dX10_behind_14 : decode cX10_behind 14 = .ok (.iconst 0, 1) := by decide +kernel
theorem dX10_behind_15 : decode cX10_behind 15 = .ok (.goto 9, 3) := by decide +kernel
theorem dX10_behind_18 : decode cX10_behind 18 = .ok (.aload_n 0, 1) := by decide +kernel
theorem dX10_behind_19 : decode cX10_behind 19 = .ok (.iload_n 1, 1) := by decide +kernel
theorem dX10_behind_20 : decode cX10_behind 20 = .ok (.iload_n 2, 1) := by decide +kernel
theorem dX10_behind_21 : decode cX10_behind 21 = .ok (.invokevirtual 85, 3) := by decide +kernel
theorem dX10_behind_24 : decode cX10_behind 24 = .ok (.ireturn, 1) := by decide +kernel
theorem dX10_person_0 : decode cX10_person 0 = .ok (.aload_n 0, 1) := by decide +kernel
theorem dX10_person_1 : decode cX10_person 1 = .ok (.iload_n 1, 1) := by decide +kernel
theorem dX10_person_2 : decode cX10_person 2 = .ok (.invokestatic 92, 3) := by decide +kernel
theorem dX10_person_5 : decode cX10_person 5 = .ok (.ifCond .ne 10, 3) := by decide +kernel
theorem dX10_person_8 : decode cX10_person 8 = .ok (.iload_n 2, 1) := by decide +kernel
theorem dX10_person_9 : decode cX10_person 9 = .ok (.invokestatic 95, 3) := by decide +kernel
theorem dX10_person_12 : decode cX10_person 12 = .ok (.ifCond .eq 7, 3) := by decide +kernel
theorem dX10_person_15 : decode cX10_person 15 = .ok (.iconst 1, 1) := by decide +kernel
theorem dX10_person_16 : decode cX10_person 16 = .ok (.goto 4, 3) := by decide +kernel
theorem dX10_person_19 : decode cX10_person 19 = .ok (.iconst 0, 1) := by decide +kernel
theorem dX10_person_20 : decode cX10_person 20 = .ok (.iconst 1, 1) := by decide +kernel
theorem dX10_person_21 : decode cX10_person 21 = .ok (.invokevirtual 63, 3) := by decide +kernel
theorem dX10_person_24 : decode cX10_person 24 = .ok (.ifCond .ne 28, 3) := by decide +kernel
theorem dX10_person_27 : decode cX10_person 27 = .ok (.aload_n 0, 1) := by decide +kernel
theorem dX10_person_28 : decode cX10_person 28 = .ok (.aload_n 0, 1) := by decide +kernel
theorem dX10_person_29 : decode cX10_person 29 = .ok (.getfield 16, 3) := by decide +kernel
theorem dX10_person_32 : decode cX10_person 32 = .ok (.invokevirtual 41, 3) := by decide +kernel
theorem dX10_person_35 : decode cX10_person 35 = .ok (.bipush 24, 2) := by decide +kernel
theorem dX10_person_37 : decode cX10_person 37 = .ok (.if_icmp .ne 7, 3) := by decide +kernel
theorem dX10_person_40 : decode cX10_person 40 = .ok (.iconst 1, 1) := by decide +kernel
theorem dX10_person_41 : decode cX10_person 41 = .ok (.goto 4, 3) := by decide +kernel
theorem dX10_person_44 : decode cX10_person 44 = .ok (.iconst 0, 1) := by decide +kernel
theorem dX10_person_45 : decode cX10_person 45 = .ok (.iconst 2, 1) := by decide +kernel
theorem dX10_person_46 : decode cX10_person 46 = .ok (.invokevirtual 37, 3) := by decide +kernel
theorem dX10_person_49 : decode cX10_person 49 = .ok (.ifCond .eq 5, 3) := by decide +kernel
theorem dX10_person_52 : decode cX10_person 52 = .ok (.iconst 0, 1) := by decide +kernel
theorem dX10_person_53 : decode cX10_person 53 = .ok (.ireturn, 1) := by decide +kernel
theorem dX10_person_54 : decode cX10_person 54 = .ok (.aload_n 0, 1) := by decide +kernel
theorem dX10_person_55 : decode cX10_person 55 = .ok (.getfield 16, 3) := by decide +kernel
theorem dX10_person_58 : decode cX10_person 58 = .ok (.new 98, 3) := by decide +kernel
theorem dX10_person_61 : decode cX10_person 61 = .ok (.dup, 1) := by decide +kernel
theorem dX10_person_62 : decode cX10_person 62 = .ok (.iload_n 1, 1) := by decide +kernel
theorem dX10_person_63 : decode cX10_person 63 = .ok (.iload_n 2, 1) := by decide +kernel
theorem dX10_person_64 : decode cX10_person 64 = .ok (.invokespecial 100, 3) := by decide +kernel
theorem dX10_person_67 : decode cX10_person 67 = .ok (.invokevirtual 73, 3) := by decide +kernel
theorem dX10_person_70 : decode cX10_person 70 = .ok (.pop, 1) := by decide +kernel
theorem dX10_person_71 : decode cX10_person 71 = .ok (.aload_n 0, 1) := by decide +kernel
theorem dX10_person_72 : decode cX10_person 72 = .ok (.getfield 16, 3) := by decide +kernel
theorem dX10_person_75 : decode cX10_person 75 = .ok (.invokevirtual 41, 3) := by decide +kernel
theorem dX10_person_78 : decode cX10_person 78 = .ok (.iconst 1, 1) := by decide +kernel
theorem dX10_person_79 : decode cX10_person 79 = .ok (.isub, 1) := by decide +kernel
theorem dX10_person_80 : decode cX10_person 80 = .ok (.ireturn, 1) := by decide +kernel
theorem dX10_target_0 : decode cX10_target 0 = .ok (.aload_n 0, 1) := by decide +kernel
theorem dX10_target_1 : decode cX10_target 1 = .ok (.iload_n 1, 1) := by decide +kernel
theorem dX10_target_2 : decode cX10_target 2 = .ok (.invokestatic 92, 3) := by decide +kernel
theorem dX10_target_5 : decode cX10_target 5 = .ok (.ifCond .ne 10, 3) := by decide +kernel
theorem dX10_target_8 : decode cX10_target 8 = .ok (.iload_n 2, 1) := by decide +kernel
theorem dX10_target_9 : decode cX10_target 9 = .ok (.invokestatic 95, 3) := by decide +kernel
theorem dX10_target_12 : decode cX10_target 12 = .ok (.ifCond .eq 7, 3) := by decide +kernel
theorem dX10_target_15 : decode cX10_target 15 = .ok (.iconst 1, 1) := by decide +kernel
theorem dX10_target_16 : decode cX10_target 16 = .ok (.goto 4, 3) := by decide +kernel
theorem dX10_target_19 : decode cX10_target 19 = .ok (.iconst 0, 1) := by decide +kernel
theorem dX10_target_20 : decode cX10_target 20 = .ok (.iconst 1, 1) := by decide +kernel
theorem dX10_target_21 : decode cX10_target 21 = .ok (.invokevirtual 63, 3) := by decide +kernel
theorem dX10_target_24 : decode cX10_target 24 = .ok (.ifCond .ne 26, 3) := by decide +kernel
theorem dX10_target_27 : decode cX10_target 27 = .ok (.aload_n 0, 1) := by decide +kernel
theorem dX10_target_28 : decode cX10_target 28 = .ok (.iload_n 3, 1) := by decide +kernel
theorem dX10_target_29 : decode cX10_target 29 = .ok (.iconst 0, 1) := by decide +kernel
theorem dX10_target_30 : decode cX10_target 30 = .ok (.bipush 9, 2) := by decide +kernel
theorem dX10_target_32 : decode cX10_target 32 = .ok (.invokestatic 45, 3) := by decide +kernel
theorem dX10_target_35 : decode cX10_target 35 = .ok (.ifCond .ne 7, 3) := by decide +kernel
theorem dX10_target_38 : decode cX10_target 38 = .ok (.iconst 1, 1) := by decide +kernel
theorem dX10_target_39 : decode cX10_target 39 = .ok (.goto 4, 3) := by decide +kernel
theorem dX10_target_42 : decode cX10_target 42 = .ok (.iconst 0, 1) := by decide +kernel
theorem dX10_target_43 : decode cX10_target 43 = .ok (.iconst 2, 1) := by decide +kernel
theorem dX10_target_44 : decode cX10_target 44 = .ok (.invokevirtual 37, 3) := by decide +kernel
theorem dX10_target_47 : decode cX10_target 47 = .ok (.ifCond .eq 5, 3) := by decide +kernel
theorem dX10_target_50 : decode cX10_target 50 = .ok (.iconst 0, 1) := by decide +kernel
theorem dX10_target_51 : decode cX10_target 51 = .ok (.ireturn, 1) := by decide +kernel
theorem dX10_target_52 : decode cX10_target 52 = .ok (.aload_n 0, 1) := by decide +kernel
theorem dX10_target_53 : decode cX10_target 53 = .ok (.getfield 24, 3) := by decide +kernel
theorem dX10_target_56 : decode cX10_target 56 = .ok (.iload_n 1, 1) := by decide +kernel
theorem dX10_target_57 : decode cX10_target 57 = .ok (.aaload, 1) := by decide +kernel
theorem dX10_target_58 : decode cX10_target 58 = .ok (.iload_n 2, 1) := by decide +kernel
theorem dX10_target_59 : decode cX10_target 59 = .ok (.iaload, 1) := by decide +kernel
theorem dX10_target_60 : decode cX10_target 60 = .ok (.istore 4, 2) := by decide +kernel
theorem dX10_target_62 : decode cX10_target 62 = .ok (.aload_n 0, 1) := by decide +kernel
theorem dX10_target_63 : decode cX10_target 63 = .ok (.getfield 24, 3) := by decide +kernel
theorem dX10_target_66 : decode cX10_target 66 = .ok (.iload_n 1, 1) := by decide +kernel
theorem dX10_target_67 : decode cX10_target 67 = .ok (.aaload, 1) := by decide +kernel
theorem dX10_target_68 : decode cX10_target 68 = .ok (.iload_n 2, 1) := by decide +kernel
theorem dX10_target_69 : decode cX10_target 69 = .ok (.iload_n 3, 1) := by decide +kernel
theorem dX10_target_70 : decode cX10_target 70 = .ok (.iastore, 1) := by decide +kernel
theorem dX10_target_71 : decode cX10_target 71 = .ok (.iload 4, 2) := by decide +kernel
theorem dX10_target_73 : decode cX10_target 73 = .ok (.ireturn, 1) := by decide +kernel
theorem dX10_soft_0 : decode cX10_soft 0 = .ok (.aload_n 0, 1) := by decide +kernel
theorem dX10_soft_1 : decode cX10_soft 1 = .ok (.iload_n 1, 1) := by decide +kernel
theorem dX10_soft_2 : decode cX10_soft 2 = .ok (.iconst 0, 1) := by decide +kernel
theorem dX10_soft_3 : decode cX10_soft 3 = .ok (.iconst 3, 1) := by decide +kernel
theorem dX10_soft_4 : decode cX10_soft 4 = .ok (.invokestatic 45, 3) := by decide +kernel
theorem dX10_soft_7 : decode cX10_soft 7 = .ok (.ifCond .ne 7, 3) := by decide +kernel
theorem dX10_soft_10 : decode cX10_soft 10 = .ok (.iconst 1, 1) := by decide +kernel
theorem dX10_soft_11 : decode cX10_soft 11 = .ok (.goto 4, 3) := by decide +kernel
theorem dX10_soft_14 : decode cX10_soft 14 = .ok (.iconst 0, 1) := by decide +kernel
theorem dX10_soft_15 : decode cX10_soft 15 = .ok (.iconst 1, 1) := by decide +kernel
theorem dX10_soft_16 : decode cX10_soft 16 = .ok (.invokevirtual 63, 3) := by decide +kernel
theorem dX10_soft_19 : decode cX10_soft 19 = .ok (.ifCond .eq 5, 3) := by decide +kernel
theorem dX10_soft_22 : decode cX10_soft 22 = .ok (.iconst 0, 1) := by decide +kernel
theorem dX10_soft_23 : decode cX10_soft 23 = .ok (.ireturn, 1) := by decide +kernel
theorem dX10_soft_24 : decode cX10_soft 24 = .ok (.aload_n 0, 1) := by decide +kernel
theorem dX10_soft_25 : decode cX10_soft 25 = .ok (.getfield 101, 3) := by decide +kernel
theorem dX10_soft_28 : decode cX10_soft 28 = .ok (.istore_n 2, 1) := by decide +kernel
theorem dX10_soft_29 : decode cX10_soft 29 = .ok (.aload_n 0, 1) := by decide +kernel
theorem dX10_soft_30 : decode cX10_soft 30 = .ok (.iload_n 1, 1) := by decide +kernel
theorem dX10_soft_31 : decode cX10_soft 31 = .ok (.putfield 101, 3) := by decide +kernel
theorem dX10_soft_34 : decode cX10_soft 34 = .ok (.iload_n 2, 1) := by decide +kernel
theorem dX10_soft_35 : decode cX10_soft 35 = .ok (.ireturn, 1) := by decide +kernel
theorem dX10_personOf_0 : decode cX10_personOf 0 = .ok (.aload_n 0, 1) := by decide +kernel
theorem dX10_personOf_1 : decode cX10_personOf 1 = .ok (.getfield 16, 3) := by decide +kernel
theorem dX10_personOf_4 : decode cX10_personOf 4 = .ok (.aload_n 1, 1) := by decide +kernel
theorem dX10_personOf_5 : decode cX10_personOf 5 = .ok (.getfield 104, 3) := by decide +kernel
theorem dX10_personOf_8 : decode cX10_personOf 8 = .ok (.invokevirtual 53, 3) := by decide +kernel
theorem dX10_personOf_11 : decode cX10_personOf 11 = .ok (.checkcast 98, 3) := by decide +kernel
theorem dX10_personOf_14 : decode cX10_personOf 14 = .ok (.areturn, 1) := by decide +kernel
theorem dX10_filled_0 : decode cX10_filled 0 = .ok (.iconst 3, 1) := by decide +kernel
theorem dX10_filled_1 : decode cX10_filled 1 = .ok (.iconst 2, 1) := by decide +kernel
theorem dX10_filled_2 : decode cX10_filled 2 = .ok (.multianewarray 22 2, 4) := by decide +kernel
theorem dX10_filled_6 : decode cX10_filled 6 = .ok (.astore_n 2, 1) := by decide +kernel
theorem dX10_filled_7 : decode cX10_filled 7 = .ok (.aload_n 0, 1) := by decide +kernel
theorem dX10_filled_8 : decode cX10_filled 8 = .ok (.getfield 19, 3) := by decide +kernel
theorem dX10_filled_11 : decode cX10_filled 11 = .ok (.invokevirtual 109, 3) := by decide +kernel
theorem dX10_filled_14 : decode cX10_filled 14 = .ok (.astore_n 3, 1) := by decide +kernel
theorem dX10_filled_15 : decode cX10_filled 15 = .ok (.aload_n 3, 1) := by decide +kernel
theorem dX10_filled_16 : decode cX10_filled 16 = .ok (.invokeinterface 113 1, 5) := by decide +kernel
theorem dX10_filled_21 : decode cX10_filled 21 = .ok (.ifCond .eq 63, 3) := by decide +kernel
theorem dX10_filled_24 : decode cX10_filled 24 = .ok (.aload_n 3, 1) := by decide +kernel
theorem dX10_filled_25 : decode cX10_filled 25 = .ok (.invokeinterface 118 1, 5) := by decide +kernel
theorem dX10_filled_30 : decode cX10_filled 30 = .ok (.checkcast 105, 3) := by decide +kernel
theorem dX10_filled_33 : decode cX10_filled 33 = .ok (.astore 4, 2) := by decide +kernel
theorem dX10_filled_35 : decode cX10_filled 35 = .ok (.aload 4, 2) := by decide +kernel
theorem dX10_filled_37 : decode cX10_filled 37 = .ok (.getfield 122, 3) := by decide +kernel
theorem dX10_filled_40 : decode cX10_filled 40 = .ok (.iconst 1, 1) := by decide +kernel
theorem dX10_filled_41 : decode cX10_filled 41 = .ok (.if_icmp .ne 40, 3) := by decide +kernel
theorem dX10_filled_44 : decode cX10_filled 44 = .ok (.iload_n 1, 1) := by decide +kernel
theorem dX10_filled_45 : decode cX10_filled 45 = .ok (.ifCond .eq 11, 3) := by decide +kernel
theorem dX10_filled_48 : decode cX10_filled 48 = .ok (.aload 4, 2) := by decide +kernel
theorem dX10_filled_50 : decode cX10_filled 50 = .ok (.invokevirtual 125, 3) := by decide +kernel
theorem dX10_filled_53 : decode cX10_filled 53 = .ok (.ifCond .ne 28, 3) := by decide +kernel
theorem dX10_filled_56 : decode cX10_filled 56 = .ok (.aload_n 2, 1) := by decide +kernel
theorem dX10_filled_57 : decode cX10_filled 57 = .ok (.aload_n 0, 1) := by decide +kernel
theorem dX10_filled_58 : decode cX10_filled 58 = .ok (.aload 4, 2) := by decide +kernel
theorem dX10_filled_60 : decode cX10_filled 60 = .ok (.invokevirtual 128, 3) := by decide +kernel
theorem dX10_filled_63 : decode cX10_filled 63 = .ok (.getfield 132, 3) := by decide +kernel
theorem dX10_filled_66 : decode cX10_filled 66 = .ok (.aaload, 1) := by decide +kernel
theorem dX10_filled_67 : decode cX10_filled 67 = .ok (.aload_n 0, 1) := by decide +kernel
theorem dX10_filled_68 : decode cX10_filled 68 = .ok (.aload 4, 2) := by decide +kernel
theorem dX10_filled_70 : decode cX10_filled 70 = .ok (.invokevirtual 128, 3) := by decide +kernel
theorem dX10_filled_73 : decode cX10_filled 73 = .ok (.getfield 135, 3) := by decide +kernel
theorem dX10_filled_76 : decode cX10_filled 76 = .ok (.dup2, 1) := by decide +kernel
theorem dX10_filled_77 : decode cX10_filled 77 = .ok (.iaload, 1) := by decide +kernel
theorem dX10_filled_78 : decode cX10_filled 78 = .ok (.iconst 1, 1) := by decide +kernel
theorem dX10_filled_79 : decode cX10_filled 79 = .ok (.iadd, 1) := by decide +kernel
theorem dX10_filled_80 : decode cX10_filled 80 = .ok (.iastore, 1) := by decide +kernel
theorem dX10_filled_81 : decode cX10_filled 81 = .ok (.goto (-66), 3) := by decide +kernel
theorem dX10_filled_84 : decode cX10_filled 84 = .ok (.aload_n 2, 1) := by decide +kernel
theorem dX10_filled_85 : decode cX10_filled 85 = .ok (.areturn, 1) := by decide +kernel
theorem dX10_sum_0 : decode cX10_sum 0 = .ok (.iconst 0, 1) := by decide +kernel
theorem dX10_sum_1 : decode cX10_sum 1 = .ok (.istore_n 1, 1) := by decide +kernel
theorem dX10_sum_2 : decode cX10_sum 2 = .ok (.aload_n 0, 1) := by decide +kernel
theorem dX10_sum_3 : decode cX10_sum 3 = .ok (.astore_n 2, 1) := by decide +kernel
theorem dX10_sum_4 : decode cX10_sum 4 = .ok (.aload_n 2, 1) := by decide +kernel
theorem dX10_sum_5 : decode cX10_sum 5 = .ok (.arraylength, 1) := by decide +kernel
theorem dX10_sum_6 : decode cX10_sum 6 = .ok (.istore_n 3, 1) := by decide +kernel
theorem dX10_sum_7 : decode cX10_sum 7 = .ok (.iconst 0, 1) := by decide +kernel
theorem dX10_sum_8 : decode cX10_sum 8 = .ok (.istore 4, 2) := by decide +kernel
theorem dX10_sum_10 : decode cX10_sum 10 = .ok (.iload 4, 2) := by decide +kernel
theorem dX10_sum_12 : decode cX10_sum 12 = .ok (.iload_n 3, 1) := by decide +kernel
theorem dX10_sum_13 : decode cX10_sum 13 = .ok (.if_icmp .ge 52, 3) := by decide +kernel
theorem dX10_sum_16 : decode cX10_sum 16 = .ok (.aload_n 2, 1) := by decide +kernel
theorem dX10_sum_17 : decode cX10_sum 17 = .ok (.iload 4, 2) := by decide +kernel
theorem dX10_sum_19 : decode cX10_sum 19 = .ok (.aaload, 1) := by decide +kernel
theorem dX10_sum_20 : decode cX10_sum 20 = .ok (.astore 5, 2) := by decide +kernel
theorem dX10_sum_22 : decode cX10_sum 22 = .ok (.aload 5, 2) := by decide +kernel
theorem dX10_sum_24 : decode cX10_sum 24 = .ok (.astore 6, 2) := by decide +kernel
theorem dX10_sum_26 : decode cX10_sum 26 = .ok (.aload 6, 2) := by decide +kernel
theorem dX10_sum_28 : decode cX10_sum 28 = .ok (.arraylength, 1) := by decide +kernel
theorem dX10_sum_29 : decode cX10_sum 29 = .ok (.istore 7, 2) := by decide +kernel
theorem dX10_sum_31 : decode cX10_sum 31 = .ok (.iconst 0, 1) := by decide +kernel
theorem dX10_sum_32 : decode cX10_sum 32 = .ok (.istore 8, 2) := by decide +kernel
theorem dX10_sum_34 : decode cX10_sum 34 = .ok (.iload 8, 2) := by decide +kernel
theorem dX10_sum_36 : decode cX10_sum 36 = .ok (.iload 7, 2) := by decide +kernel
theorem dX10_sum_38 : decode cX10_sum 38 = .ok (.if_icmp .ge 21, 3) := by decide +kernel
theorem dX10_sum_41 : decode cX10_sum 41 = .ok (.aload 6, 2) := by decide +kernel
theorem dX10_sum_43 : decode cX10_sum 43 = .ok (.iload 8, 2) := by decide +kernel
theorem dX10_sum_45 : decode cX10_sum 45 = .ok (.iaload, 1) := by decide +kernel
theorem dX10_sum_46 : decode cX10_sum 46 = .ok (.istore 9, 2) := by decide +kernel
theorem dX10_sum_48 : decode cX10_sum 48 = .ok (.iload_n 1, 1) := by decide +kernel
theorem dX10_sum_49 : decode cX10_sum 49 = .ok (.iload 9, 2) := by decide +kernel
theorem dX10_sum_51 : decode cX10_sum 51 = .ok (.iadd, 1) := by decide +kernel
theorem dX10_sum_52 : decode cX10_sum 52 = .ok (.istore_n 1, 1) := by decide +kernel
theorem dX10_sum_53 : decode cX10_sum 53 = .ok (.iinc 8 1, 3) := by decide +kernel
theorem dX10_sum_56 : decode cX10_sum 56 = .ok (.goto (-22), 3) := by decide +kernel
theorem dX10_sum_59 : decode cX10_sum 59 = .ok (.iinc 4 1, 3) := by decide +kernel
theorem dX10_sum_62 : decode cX10_sum 62 = .ok (.goto (-52), 3) := by decide +kernel
theorem dX10_sum_65 : decode cX10_sum 65 = .ok (.iload_n 1, 1) := by decide +kernel
theorem dX10_sum_66 : decode cX10_sum 66 = .ok (.ireturn, 1) := by decide +kernel
theorem dX10_isOpen_0 : decode cX10_isOpen 0 = .ok (.aload_n 1, 1) := by decide +kernel
theorem dX10_isOpen_1 : decode cX10_isOpen 1 = .ok (.iload_n 2, 1) := by decide +kernel
theorem dX10_isOpen_2 : decode cX10_isOpen 2 = .ok (.aaload, 1) := by decide +kernel
theorem dX10_isOpen_3 : decode cX10_isOpen 3 = .ok (.iload_n 3, 1) := by decide +kernel
theorem dX10_isOpen_4 : decode cX10_isOpen 4 = .ok (.iaload, 1) := by decide +kernel
theorem dX10_isOpen_5 : decode cX10_isOpen 5 = .ok (.istore 4, 2) := by decide +kernel
theorem dX10_isOpen_7 : decode cX10_isOpen 7 = .ok (.iload 4, 2) := by decide +kernel
theorem dX10_isOpen_9 : decode cX10_isOpen 9 = .ok (.aload_n 0, 1) := by decide +kernel
theorem dX10_isOpen_10 : decode cX10_isOpen 10 = .ok (.getfield 24, 3) := by decide +kernel
theorem dX10_isOpen_13 : decode cX10_isOpen 13 = .ok (.iload_n 2, 1) := by decide +kernel
theorem dX10_isOpen_14 : decode cX10_isOpen 14 = .ok (.aaload, 1) := by decide +kernel
theorem dX10_isOpen_15 : decode cX10_isOpen 15 = .ok (.iload_n 3, 1) := by decide +kernel
theorem dX10_isOpen_16 : decode cX10_isOpen 16 = .ok (.iaload, 1) := by decide +kernel
theorem dX10_isOpen_17 : decode cX10_isOpen 17 = .ok (.if_icmp .lt 35, 3) := by decide +kernel
theorem dX10_isOpen_20 : decode cX10_isOpen 20 = .ok (.iload 4, 2) := by decide +kernel
theorem dX10_isOpen_22 : decode cX10_isOpen 22 = .ok (.aload_n 0, 1) := by decide +kernel
theorem dX10_isOpen_23 : decode cX10_isOpen 23 = .ok (.getfield 24, 3) := by decide +kernel
theorem dX10_isOpen_26 : decode cX10_isOpen 26 = .ok (.iload_n 2, 1) := by decide +kernel
theorem dX10_isOpen_27 : decode cX10_isOpen 27 = .ok (.aaload, 1) := by decide +kernel
theorem dX10_isOpen_28 : decode cX10_isOpen 28 = .ok (.iload_n 3, 1) := by decide +kernel
theorem dX10_isOpen_29 : decode cX10_isOpen 29 = .ok (.iaload, 1) := by decide +kernel
theorem dX10_isOpen_30 : decode cX10_isOpen 30 = .ok (.aload_n 0, 1) := by decide +kernel
theorem dX10_isOpen_31 : decode cX10_isOpen 31 = .ok (.getfield 101, 3) := by decide +kernel
theorem dX10_isOpen_34 : decode cX10_isOpen 34 = .ok (.iadd, 1) := by decide +kernel
theorem dX10_isOpen_35 : decode cX10_isOpen 35 = .ok (.if_icmp .ge 21, 3) := by decide +kernel
theorem dX10_isOpen_38 : decode cX10_isOpen 38 = .ok (.aload_n 1, 1) := by decide +kernel
theorem dX10_isOpen_39 : decode cX10_isOpen 39 = .ok (.invokestatic 138, 3) := by decide +kernel
theorem dX10_isOpen_42 : decode cX10_isOpen 42 = .ok (.aload_n 0, 1) := by decide +kernel
theorem dX10_isOpen_43 : decode cX10_isOpen 43 = .ok (.getfield 24, 3) := by decide +kernel
theorem dX10_isOpen_46 : decode cX10_isOpen 46 = .ok (.invokestatic 138, 3) := by decide +kernel
theorem dX10_isOpen_49 : decode cX10_isOpen 49 = .ok (.if_icmp .ge 7, 3) := by decide +kernel
theorem dX10_isOpen_52 : decode cX10_isOpen 52 = .ok (.iconst 1, 1) := by decide +kernel
theorem dX10_isOpen_53 : decode cX10_isOpen 53 = .ok (.goto 4, 3) := by decide +kernel
theorem dX10_isOpen_56 : decode cX10_isOpen 56 = .ok (.iconst 0, 1) := by decide +kernel
theorem dX10_isOpen_57 : decode cX10_isOpen 57 = .ok (.ireturn, 1) := by decide +kernel
theorem dX10_isTaken_0 : decode cX10_isTaken 0 = .ok (.aload_n 0, 1) := by decide +kernel
theorem dX10_isTaken_1 : decode cX10_isTaken 1 = .ok (.getfield 19, 3) := by decide +kernel
theorem dX10_isTaken_4 : decode cX10_isTaken 4 = .ok (.invokevirtual 109, 3) := by decide +kernel
theorem dX10_isTaken_7 : decode cX10_isTaken 7 = .ok (.astore_n 2, 1) := by decide +kernel
theorem dX10_isTaken_8 : decode cX10_isTaken 8 = .ok (.aload_n 2, 1) := by decide +kernel
theorem dX10_isTaken_9 : decode cX10_isTaken 9 = .ok (.invokeinterface 113 1, 5) := by decide +kernel
theorem dX10_isTaken_14 : decode cX10_isTaken 14 = .ok (.ifCond .eq 34, 3) := by decide +kernel
theorem dX10_isTaken_17 : decode cX10_isTaken 17 = .ok (.aload_n 2, 1) := by decide +kernel
theorem dX10_isTaken_18 : decode cX10_isTaken 18 = .ok (.invokeinterface 118 1, 5) := by decide +kernel
theorem dX10_isTaken_23 : decode cX10_isTaken 23 = .ok (.checkcast 105, 3) := by decide +kernel
theorem dX10_isTaken_26 : decode cX10_isTaken 26 = .ok (.astore_n 3, 1) := by decide +kernel
theorem dX10_isTaken_27 : decode cX10_isTaken 27 = .ok (.aload_n 3, 1) := by decide +kernel
theorem dX10_isTaken_28 : decode cX10_isTaken 28 = .ok (.getfield 104, 3) := by decide +kernel
theorem dX10_isTaken_31 : decode cX10_isTaken 31 = .ok (.iload_n 1, 1) := by decide +kernel
theorem dX10_isTaken_32 : decode cX10_isTaken 32 = .ok (.if_icmp .ne 13, 3) := by decide +kernel
theorem dX10_isTaken_35 : decode cX10_isTaken 35 = .ok (.aload_n 3, 1) := by decide +kernel
theorem dX10_isTaken_36 : decode cX10_isTaken 36 = .ok (.getfield 122, 3) := by decide +kernel
theorem dX10_isTaken_39 : decode cX10_isTaken 39 = .ok (.iconst 1, 1) := by decide +kernel
theorem dX10_isTaken_40 : decode cX10_isTaken 40 = .ok (.if_icmp .gt 5, 3) := by decide +kernel
theorem dX10_isTaken_43 : decode cX10_isTaken 43 = .ok (.iconst 1, 1) := by decide +kernel
theorem dX10_isTaken_44 : decode cX10_isTaken 44 = .ok (.ireturn, 1) := by decide +kernel
theorem dX10_isTaken_45 : decode cX10_isTaken 45 = .ok (.goto (-37), 3) := by decide +kernel
theorem dX10_isTaken_48 : decode cX10_isTaken 48 = .ok (.iconst 0, 1) := by decide +kernel
theorem dX10_isTaken_49 : decode cX10_isTaken 49 = .ok (.ireturn, 1) := by decide +kernel
theorem dX10_canBeAsked_0 : decode cX10_canBeAsked 0 = .ok (.aload_n 0, 1) := by decide +kernel
theorem dX10_canBeAsked_1 : decode cX10_canBeAsked 1 = .ok (.getfield 16, 3) := by decide +kernel
theorem dX10_canBeAsked_4 : decode cX10_canBeAsked 4 = .ok (.iload_n 1, 1) := by decide +kernel
theorem dX10_canBeAsked_5 : decode cX10_canBeAsked 5 = .ok (.invokevirtual 53, 3) := by decide +kernel
theorem dX10_canBeAsked_8 : decode cX10_canBeAsked 8 = .ok (.checkcast 98, 3) := by decide +kernel
theorem dX10_canBeAsked_11 : decode cX10_canBeAsked 11 = .ok (.astore_n 3, 1) := by decide +kernel
theorem dX10_canBeAsked_12 : decode cX10_canBeAsked 12 = .ok (.aload_n 0, 1) := by decide +kernel
theorem dX10_canBeAsked_13 : decode cX10_canBeAsked 13 = .ok (.iload_n 1, 1) := by decide +kernel
theorem dX10_canBeAsked_14 : decode cX10_canBeAsked 14 = .ok (.invokevirtual 142, 3) := by decide +kernel
theorem dX10_canBeAsked_17 : decode cX10_canBeAsked 17 = .ok (.ifCond .ne 37, 3) := by decide +kernel
theorem dX10_canBeAsked_20 : decode cX10_canBeAsked 20 = .ok (.aload_n 3, 1) := by decide +kernel
theorem dX10_canBeAsked_21 : decode cX10_canBeAsked 21 = .ok (.getfield 145, 3) := by decide +kernel
theorem dX10_canBeAsked_24 : decode cX10_canBeAsked 24 = .ok (.iload_n 2, 1) := by decide +kernel
theorem dX10_canBeAsked_25 : decode cX10_canBeAsked 25 = .ok (.isub, 1) := by decide +kernel
theorem dX10_canBeAsked_26 : decode cX10_canBeAsked 26 = .ok (.iconst 4, 1) := by decide +kernel
theorem dX10_canBeAsked_27 : decode cX10_canBeAsked 27 = .ok (.if_icmp .gt 27, 3) := by decide +kernel
theorem dX10_canBeAsked_30 : decode cX10_canBeAsked 30 = .ok (.aload_n 0, 1) := by decide +kernel
theorem dX10_canBeAsked_31 : decode cX10_canBeAsked 31 = .ok (.aload_n 0, 1) := by decide +kernel
theorem dX10_canBeAsked_32 : decode cX10_canBeAsked 32 = .ok (.iconst 0, 1) := by decide +kernel
theorem dX10_canBeAsked_33 : decode cX10_canBeAsked 33 = .ok (.invokevirtual 148, 3) := by decide +kernel
theorem dX10_canBeAsked_36 : decode cX10_canBeAsked 36 = .ok (.aload_n 3, 1) := by decide +kernel
theorem dX10_canBeAsked_37 : decode cX10_canBeAsked 37 = .ok (.getfield 132, 3) := by decide +kernel
theorem dX10_canBeAsked_40 : decode cX10_canBeAsked 40 = .ok (.aload_n 3, 1) := by decide +kernel
theorem dX10_canBeAsked_41 : decode cX10_canBeAsked 41 = .ok (.getfield 135, 3) := by decide +kernel
theorem dX10_canBeAsked_44 : decode cX10_canBeAsked 44 = .ok (.invokevirtual 152, 3) := by decide +kernel
theorem dX10_canBeAsked_47 : decode cX10_canBeAsked 47 = .ok (.ifCond .eq 7, 3) := by decide +kernel
theorem dX10_canBeAsked_50 : decode cX10_canBeAsked 50 = .ok (.iconst 1, 1) := by decide +kernel
theorem dX10_canBeAsked_51 : decode cX10_canBeAsked 51 = .ok (.goto 4, 3) := by decide +kernel
theorem dX10_canBeAsked_54 : decode cX10_canBeAsked 54 = .ok (.iconst 0, 1) := by decide +kernel
theorem dX10_canBeAsked_55 : decode cX10_canBeAsked 55 = .ok (.ireturn, 1) := by decide +kernel
theorem dX10_ofCellNow_0 : decode cX10_ofCellNow 0 = .ok (.aload_n 0, 1) := by decide +kernel
theorem dX10_ofCellNow_1 : decode cX10_ofCellNow 1 = .ok (.iconst 0, 1) := by decide +kernel
theorem dX10_ofCellNow_2 : decode cX10_ofCellNow 2 = .ok (.invokevirtual 148, 3) := by decide +kernel
theorem dX10_ofCellNow_5 : decode cX10_ofCellNow 5 = .ok (.astore 4, 2) := by decide +kernel
theorem dX10_ofCellNow_7 : decode cX10_ofCellNow 7 = .ok (.iload_n 3, 1) := by decide +kernel
theorem dX10_ofCellNow_8 : decode cX10_ofCellNow 8 = .ok (.ifCond .ne 12, 3) := by decide +kernel
theorem dX10_ofCellNow_11 : decode cX10_ofCellNow 11 = .ok (.aload_n 0, 1) := by decide +kernel
theorem dX10_ofCellNow_12 : decode cX10_ofCellNow 12 = .ok (.getfield 24, 3) := by decide +kernel
theorem dX10_ofCellNow_15 : decode cX10_ofCellNow 15 = .ok (.iload_n 1, 1) := by decide +kernel
theorem dX10_ofCellNow_16 : decode cX10_ofCellNow 16 = .ok (.aaload, 1) := by decide +kernel
theorem dX10_ofCellNow_17 : decode cX10_ofCellNow 17 = .ok (.iload_n 2, 1) := by decide +kernel
theorem dX10_ofCellNow_18 : decode cX10_ofCellNow 18 = .ok (.iaload, 1) := by decide +kernel
theorem dX10_ofCellNow_19 : decode cX10_ofCellNow 19 = .ok (.ireturn, 1) := by decide +kernel
theorem dX10_ofCellNow_20 : decode cX10_ofCellNow 20 = .ok (.iload_n 3, 1) := by decide +kernel
theorem dX10_ofCellNow_21 : decode cX10_ofCellNow 21 = .ok (.iconst 1, 1) := by decide +kernel
theorem dX10_ofCellNow_22 : decode cX10_ofCellNow 22 = .ok (.if_icmp .ne 10, 3) := by decide +kernel
theorem dX10_ofCellNow_25 : decode cX10_ofCellNow 25 = .ok (.aload 4, 2) := by decide +kernel
theorem dX10_ofCellNow_27 : decode cX10_ofCellNow 27 = .ok (.iload_n 1, 1) := by decide +kernel
theorem dX10_ofCellNow_28 : decode cX10_ofCellNow 28 = .ok (.aaload, 1) := by decide +kernel
theorem dX10_ofCellNow_29 : decode cX10_ofCellNow 29 = .ok (.iload_n 2, 1) := by decide +kernel
theorem dX10_ofCellNow_30 : decode cX10_ofCellNow 30 = .ok (.iaload, 1) := by decide +kernel
theorem dX10_ofCellNow_31 : decode cX10_ofCellNow 31 = .ok (.ireturn, 1) := by decide +kernel
theorem dX10_ofCellNow_32 : decode cX10_ofCellNow 32 = .ok (.iload_n 3, 1) := by decide +kernel
theorem dX10_ofCellNow_33 : decode cX10_ofCellNow 33 = .ok (.iconst 2, 1) := by decide +kernel
theorem dX10_ofCellNow_34 : decode cX10_ofCellNow 34 = .ok (.if_icmp .ne 20, 3) := by decide +kernel
theorem dX10_ofCellNow_37 : decode cX10_ofCellNow 37 = .ok (.aload_n 0, 1) := by decide +kernel
theorem dX10_ofCellNow_38 : decode cX10_ofCellNow 38 = .ok (.aload 4, 2) := by decide +kernel
theorem dX10_ofCellNow_40 : decode cX10_ofCellNow 40 = .ok (.iload_n 1, 1) := by decide +kernel
theorem dX10_ofCellNow_41 : decode cX10_ofCellNow 41 = .ok (.iload_n 2, 1) := by decide +kernel
theorem dX10_ofCellNow_42 : decode cX10_ofCellNow 42 = .ok (.invokevirtual 152, 3) := by decide +kernel
theorem dX10_ofCellNow_45 : decode cX10_ofCellNow 45 = .ok (.ifCond .eq 7, 3) := by decide +kernel
theorem dX10_ofCellNow_48 : decode cX10_ofCellNow 48 = .ok (.iconst 1, 1) := by decide +kernel
theorem dX10_ofCellNow_49 : decode cX10_ofCellNow 49 = .ok (.goto 4, 3) := by decide +kernel
theorem dX10_ofCellNow_52 : decode cX10_ofCellNow 52 = .ok (.iconst 0, 1) := by decide +kernel
theorem dX10_ofCellNow_53 : decode cX10_ofCellNow 53 = .ok (.ireturn, 1) := by decide +kernel
theorem dX10_ofCellNow_54 : decode cX10_ofCellNow 54 = .ok (.iconst 0, 1) := by decide +kernel
theorem dX10_ofCellNow_55 : decode cX10_ofCellNow 55 = .ok (.istore 5, 2) := by decide +kernel
theorem dX10_ofCellNow_57 : decode cX10_ofCellNow 57 = .ok (.iconst 0, 1) := by decide +kernel
theorem dX10_ofCellNow_58 : decode cX10_ofCellNow 58 = .ok (.istore 6, 2) := by decide +kernel
theorem dX10_ofCellNow_60 : decode cX10_ofCellNow 60 = .ok (.iload 6, 2) := by decide +kernel
theorem dX10_ofCellNow_62 : decode cX10_ofCellNow 62 = .ok (.aload_n 0, 1) := by decide +kernel
theorem dX10_ofCellNow_63 : decode cX10_ofCellNow 63 = .ok (.getfield 16, 3) := by decide +kernel
theorem dX10_ofCellNow_66 : decode cX10_ofCellNow 66 = .ok (.invokevirtual 41, 3) := by decide +kernel
theorem dX10_ofCellNow_69 : decode cX10_ofCellNow 69 = .ok (.if_icmp .ge 54, 3) := by decide +kernel
theorem dX10_ofCellNow_72 : decode cX10_ofCellNow 72 = .ok (.iload 5, 2) := by decide +kernel
theorem dX10_ofCellNow_74 : decode cX10_ofCellNow 74 = .ok (.aload_n 0, 1) := by decide +kernel
theorem dX10_ofCellNow_75 : decode cX10_ofCellNow 75 = .ok (.getfield 16, 3) := by decide +kernel
theorem dX10_ofCellNow_78 : decode cX10_ofCellNow 78 = .ok (.iload 6, 2) := by decide +kernel
theorem dX10_ofCellNow_80 : decode cX10_ofCellNow 80 = .ok (.invokevirtual 53, 3) := by decide +kernel
theorem dX10_ofCellNow_83 : decode cX10_ofCellNow 83 = .ok (.checkcast 98, 3) := by decide +kernel
theorem dX10_ofCellNow_86 : decode cX10_ofCellNow 86 = .ok (.iload_n 1, 1) := by decide +kernel
theorem dX10_ofCellNow_87 : decode cX10_ofCellNow 87 = .ok (.iload_n 2, 1) := by decide +kernel
theorem dX10_ofCellNow_88 : decode cX10_ofCellNow 88 = .ok (.invokevirtual 156, 3) := by decide +kernel
theorem dX10_ofCellNow_91 : decode cX10_ofCellNow 91 = .ok (.ifCond .eq 22, 3) := by decide +kernel
theorem dX10_ofCellNow_94 : decode cX10_ofCellNow 94 = .ok (.iload_n 3, 1) := by decide +kernel
theorem dX10_ofCellNow_95 : decode cX10_ofCellNow 95 = .ok (.iconst 3, 1) := by decide +kernel
theorem dX10_ofCellNow_96 : decode cX10_ofCellNow 96 = .ok (.if_icmp .eq 13, 3) := by decide +kernel
theorem dX10_ofCellNow_99 : decode cX10_ofCellNow 99 = .ok (.aload_n 0, 1) := by decide +kernel
theorem dX10_ofCellNow_100 : decode cX10_ofCellNow 100 = .ok (.iload 6, 2) := by decide +kernel
theorem dX10_ofCellNow_102 : decode cX10_ofCellNow 102 = .ok (.iconst 0, 1) := by decide +kernel
theorem dX10_ofCellNow_103 : decode cX10_ofCellNow 103 = .ok (.invokevirtual 159, 3) := by decide +kernel
theorem dX10_ofCellNow_106 : decode cX10_ofCellNow 106 = .ok (.ifCond .eq 7, 3) := by decide +kernel
theorem dX10_ofCellNow_109 : decode cX10_ofCellNow 109 = .ok (.iconst 1, 1) := by decide +kernel
theorem dX10_ofCellNow_110 : decode cX10_ofCellNow 110 = .ok (.goto 4, 3) := by decide +kernel
theorem dX10_ofCellNow_113 : decode cX10_ofCellNow 113 = .ok (.iconst 0, 1) := by decide +kernel
theorem dX10_ofCellNow_114 : decode cX10_ofCellNow 114 = .ok (.iadd, 1) := by decide +kernel
theorem dX10_ofCellNow_115 : decode cX10_ofCellNow 115 = .ok (.istore 5, 2) := by decide +kernel
theorem dX10_ofCellNow_117 : decode cX10_ofCellNow 117 = .ok (.iinc 6 1, 3) := by decide +kernel
theorem dX10_ofCellNow_120 : decode cX10_ofCellNow 120 = .ok (.goto (-60), 3) := by decide +kernel
theorem dX10_ofCellNow_123 : decode cX10_ofCellNow 123 = .ok (.iload 5, 2) := by decide +kernel
theorem dX10_ofCellNow_125 : decode cX10_ofCellNow 125 = .ok (.ireturn, 1) := by decide +kernel
theorem dX10_ofCell_0 : decode cX10_ofCell 0 = .ok (.aload_n 0, 1) := by decide +kernel
theorem dX10_ofCell_1 : decode cX10_ofCell 1 = .ok (.iload_n 1, 1) := by decide +kernel
theorem dX10_ofCell_2 : decode cX10_ofCell 2 = .ok (.invokestatic 92, 3) := by decide +kernel
theorem dX10_ofCell_5 : decode cX10_ofCell 5 = .ok (.ifCond .ne 10, 3) := by decide +kernel
theorem dX10_ofCell_8 : decode cX10_ofCell 8 = .ok (.iload_n 2, 1) := by decide +kernel
theorem dX10_ofCell_9 : decode cX10_ofCell 9 = .ok (.invokestatic 95, 3) := by decide +kernel
theorem dX10_ofCell_12 : decode cX10_ofCell 12 = .ok (.ifCond .eq 7, 3) := by decide +kernel
theorem dX10_ofCell_15 : decode cX10_ofCell 15 = .ok (.iconst 1, 1) := by decide +kernel
theorem dX10_ofCell_16 : decode cX10_ofCell 16 = .ok (.goto 4, 3) := by decide +kernel
theorem dX10_ofCell_19 : decode cX10_ofCell 19 = .ok (.iconst 0, 1) := by decide +kernel
theorem dX10_ofCell_20 : decode cX10_ofCell 20 = .ok (.iconst 1, 1) := by decide +kernel
theorem dX10_ofCell_21 : decode cX10_ofCell 21 = .ok (.invokevirtual 63, 3) := by decide +kernel
theorem dX10_ofCell_24 : decode cX10_ofCell 24 = .ok (.ifCond .ne 25, 3) := by decide +kernel
theorem dX10_ofCell_27 : decode cX10_ofCell 27 = .ok (.aload_n 0, 1) := by decide +kernel
theorem dX10_ofCell_28 : decode cX10_ofCell 28 = .ok (.iload_n 3, 1) := by decide +kernel
theorem dX10_ofCell_29 : decode cX10_ofCell 29 = .ok (.iconst 0, 1) := by decide +kernel
theorem dX10_ofCell_30 : decode cX10_ofCell 30 = .ok (.iconst 4, 1) := by decide +kernel
theorem dX10_ofCell_31 : decode cX10_ofCell 31 = .ok (.invokestatic 45, 3) := by decide +kernel
theorem dX10_ofCell_34 : decode cX10_ofCell 34 = .ok (.ifCond .ne 7, 3) := by decide +kernel
theorem dX10_ofCell_37 : decode cX10_ofCell 37 = .ok (.iconst 1, 1) := by decide +kernel
theorem dX10_ofCell_38 : decode cX10_ofCell 38 = .ok (.goto 4, 3) := by decide +kernel
theorem dX10_ofCell_41 : decode cX10_ofCell 41 = .ok (.iconst 0, 1) := by decide +kernel
theorem dX10_ofCell_42 : decode cX10_ofCell 42 = .ok (.iconst 2, 1) := by decide +kernel
theorem dX10_ofCell_43 : decode cX10_ofCell 43 = .ok (.invokevirtual 37, 3) := by decide +kernel
theorem dX10_ofCell_46 : decode cX10_ofCell 46 = .ok (.ifCond .eq 7, 3) := by decide +kernel
theorem dX10_ofCell_49 : decode cX10_ofCell 49 = .ok (.iconst 0, 1) := by decide +kernel
theorem dX10_ofCell_50 : decode cX10_ofCell 50 = .ok (.goto 10, 3) := by decide +kernel
theorem dX10_ofCell_53 : decode cX10_ofCell 53 = .ok (.aload_n 0, 1) := by decide +kernel
theorem dX10_ofCell_54 : decode cX10_ofCell 54 = .ok (.iload_n 1, 1) := by decide +kernel
theorem dX10_ofCell_55 : decode cX10_ofCell 55 = .ok (.iload_n 2, 1) := by decide +kernel
theorem dX10_ofCell_56 : decode cX10_ofCell 56 = .ok (.iload_n 3, 1) := by decide +kernel
theorem dX10_ofCell_57 : decode cX10_ofCell 57 = .ok (.invokevirtual 162, 3) := by decide +kernel
theorem dX10_ofCell_60 : decode cX10_ofCell 60 = .ok (.ireturn, 1) := by decide +kernel
theorem dX10_latest_0 : decode cX10_latest 0 = .ok (.iconst (-1), 1) := by decide +kernel
theorem dX10_latest_1 : decode cX10_latest 1 = .ok (.istore_n 2, 1) := by decide +kernel
theorem dX10_latest_2 : decode cX10_latest 2 = .ok (.aload_n 0, 1) := by decide +kernel
theorem dX10_latest_3 : decode cX10_latest 3 = .ok (.getfield 19, 3) := by decide +kernel
theorem dX10_latest_6 : decode cX10_latest 6 = .ok (.invokevirtual 109, 3) := by decide +kernel
theorem dX10_latest_9 : decode cX10_latest 9 = .ok (.astore_n 3, 1) := by decide +kernel
theorem dX10_latest_10 : decode cX10_latest 10 = .ok (.aload_n 3, 1) := by decide +kernel
theorem dX10_latest_11 : decode cX10_latest 11 = .ok (.invokeinterface 113 1, 5) := by decide +kernel
theorem dX10_latest_16 : decode cX10_latest 16 = .ok (.ifCond .eq 32, 3) := by decide +kernel
theorem dX10_latest_19 : decode cX10_latest 19 = .ok (.aload_n 3, 1) := by decide +kernel
theorem dX10_latest_20 : decode cX10_latest 20 = .ok (.invokeinterface 118 1, 5) := by decide +kernel
theorem dX10_latest_25 : decode cX10_latest 25 = .ok (.checkcast 105, 3) := by decide +kernel
theorem dX10_latest_28 : decode cX10_latest 28 = .ok (.astore 4, 2) := by decide +kernel
theorem dX10_latest_30 : decode cX10_latest 30 = .ok (.aload 4, 2) := by decide +kernel
theorem dX10_latest_32 : decode cX10_latest 32 = .ok (.getfield 104, 3) := by decide +kernel
theorem dX10_latest_35 : decode cX10_latest 35 = .ok (.iload_n 1, 1) := by decide +kernel
theorem dX10_latest_36 : decode cX10_latest 36 = .ok (.if_icmp .ne 9, 3) := by decide +kernel
theorem dX10_latest_39 : decode cX10_latest 39 = .ok (.aload 4, 2) := by decide +kernel
theorem dX10_latest_41 : decode cX10_latest 41 = .ok (.getfield 166, 3) := by decide +kernel
theorem dX10_latest_44 : decode cX10_latest 44 = .ok (.istore_n 2, 1) := by decide +kernel
theorem dX10_latest_45 : decode cX10_latest 45 = .ok (.goto (-35), 3) := by decide +kernel
theorem dX10_latest_48 : decode cX10_latest 48 = .ok (.iload_n 2, 1) := by decide +kernel
theorem dX10_latest_49 : decode cX10_latest 49 = .ok (.ireturn, 1) := by decide +kernel
theorem dX10_ofPersonNow_0 : decode cX10_ofPersonNow 0 = .ok (.aload_n 0, 1) := by decide +kernel
theorem dX10_ofPersonNow_1 : decode cX10_ofPersonNow 1 = .ok (.getfield 16, 3) := by decide +kernel
theorem dX10_ofPersonNow_4 : decode cX10_ofPersonNow 4 = .ok (.iload_n 1, 1) := by decide +kernel
theorem dX10_ofPersonNow_5 : decode cX10_ofPersonNow 5 = .ok (.invokevirtual 53, 3) := by decide +kernel
theorem dX10_ofPersonNow_8 : decode cX10_ofPersonNow 8 = .ok (.checkcast 98, 3) := by decide +kernel
theorem dX10_ofPersonNow_11 : decode cX10_ofPersonNow 11 = .ok (.astore_n 3, 1) := by decide +kernel
theorem dX10_ofPersonNow_12 : decode cX10_ofPersonNow 12 = .ok (.bipush 6, 2) := by decide +kernel
theorem dX10_ofPersonNow_14 : decode cX10_ofPersonNow 14 = .ok (.newarray .int, 2) := by decide +kernel
theorem dX10_ofPersonNow_16 : decode cX10_ofPersonNow 16 = .ok (.dup, 1) := by decide +kernel
theorem dX10_ofPersonNow_17 : decode cX10_ofPersonNow 17 = .ok (.iconst 0, 1) := by decide +kernel
theorem dX10_ofPersonNow_18 : decode cX10_ofPersonNow 18 = .ok (.aload_n 3, 1) := by decide +kernel
theorem dX10_ofPersonNow_19 : decode cX10_ofPersonNow 19 = .ok (.getfield 132, 3) := by decide +kernel
theorem dX10_ofPersonNow_22 : decode cX10_ofPersonNow 22 = .ok (.iastore, 1) := by decide +kernel
theorem dX10_ofPersonNow_23 : decode cX10_ofPersonNow 23 = .ok (.dup, 1) := by decide +kernel
theorem dX10_ofPersonNow_24 : decode cX10_ofPersonNow 24 = .ok (.iconst 1, 1) := by decide +kernel
theorem dX10_ofPersonNow_25 : decode cX10_ofPersonNow 25 = .ok (.aload_n 3, 1) := by decide +kernel
theorem dX10_ofPersonNow_26 : decode cX10_ofPersonNow 26 = .ok (.getfield 135, 3) := by decide +kernel
theorem dX10_ofPersonNow_29 : decode cX10_ofPersonNow 29 = .ok (.iastore, 1) := by decide +kernel
theorem dX10_ofPersonNow_30 : decode cX10_ofPersonNow 30 = .ok (.dup, 1) := by decide +kernel
theorem dX10_ofPersonNow_31 : decode cX10_ofPersonNow 31 = .ok (.iconst 2, 1) := by decide +kernel
theorem dX10_ofPersonNow_32 : decode cX10_ofPersonNow 32 = .ok (.aload_n 3, 1) := by decide +kernel
theorem dX10_ofPersonNow_33 : decode cX10_ofPersonNow 33 = .ok (.getfield 145, 3) := by decide +kernel
theorem dX10_ofPersonNow_36 : decode cX10_ofPersonNow 36 = .ok (.iastore, 1) := by decide +kernel
theorem dX10_ofPersonNow_37 : decode cX10_ofPersonNow 37 = .ok (.dup, 1) := by decide +kernel
theorem dX10_ofPersonNow_38 : decode cX10_ofPersonNow 38 = .ok (.iconst 3, 1) := by decide +kernel
theorem dX10_ofPersonNow_39 : decode cX10_ofPersonNow 39 = .ok (.aload_n 3, 1) := by decide +kernel
theorem dX10_ofPersonNow_40 : decode cX10_ofPersonNow 40 = .ok (.getfield 169, 3) := by decide +kernel
theorem dX10_ofPersonNow_43 : decode cX10_ofPersonNow 43 = .ok (.iastore, 1) := by decide +kernel
theorem dX10_ofPersonNow_44 : decode cX10_ofPersonNow 44 = .ok (.dup, 1) := by decide +kernel
theorem dX10_ofPersonNow_45 : decode cX10_ofPersonNow 45 = .ok (.iconst 4, 1) := by decide +kernel
theorem dX10_ofPersonNow_46 : decode cX10_ofPersonNow 46 = .ok (.aload_n 0, 1) := by decide +kernel
theorem dX10_ofPersonNow_47 : decode cX10_ofPersonNow 47 = .ok (.iload_n 1, 1) := by decide +kernel
theorem dX10_ofPersonNow_48 : decode cX10_ofPersonNow 48 = .ok (.iconst 0, 1) := by decide +kernel
theorem dX10_ofPersonNow_49 : decode cX10_ofPersonNow 49 = .ok (.invokevirtual 159, 3) := by decide +kernel
theorem dX10_ofPersonNow_52 : decode cX10_ofPersonNow 52 = .ok (.ifCond .eq 7, 3) := by decide +kernel
theorem dX10_ofPersonNow_55 : decode cX10_ofPersonNow 55 = .ok (.iconst 1, 1) := by decide +kernel
theorem dX10_ofPersonNow_56 : decode cX10_ofPersonNow 56 = .ok (.goto 4, 3) := by decide +kernel
theorem dX10_ofPersonNow_59 : decode cX10_ofPersonNow 59 = .ok (.iconst 0, 1) := by decide +kernel
theorem dX10_ofPersonNow_60 : decode cX10_ofPersonNow 60 = .ok (.iastore, 1) := by decide +kernel
theorem dX10_ofPersonNow_61 : decode cX10_ofPersonNow 61 = .ok (.dup, 1) := by decide +kernel
theorem dX10_ofPersonNow_62 : decode cX10_ofPersonNow 62 = .ok (.iconst 5, 1) := by decide +kernel
theorem dX10_ofPersonNow_63 : decode cX10_ofPersonNow 63 = .ok (.aload_n 0, 1) := by decide +kernel
theorem dX10_ofPersonNow_64 : decode cX10_ofPersonNow 64 = .ok (.iload_n 1, 1) := by decide +kernel
theorem dX10_ofPersonNow_65 : decode cX10_ofPersonNow 65 = .ok (.invokevirtual 172, 3) := by decide +kernel
theorem dX10_ofPersonNow_68 : decode cX10_ofPersonNow 68 = .ok (.iastore, 1) := by decide +kernel
theorem dX10_ofPersonNow_69 : decode cX10_ofPersonNow 69 = .ok (.astore 4, 2) := by decide +kernel
theorem dX10_ofPersonNow_71 : decode cX10_ofPersonNow 71 = .ok (.aload 4, 2) := by decide +kernel
theorem dX10_ofPersonNow_73 : decode cX10_ofPersonNow 73 = .ok (.iload_n 2, 1) := by decide +kernel
theorem dX10_ofPersonNow_74 : decode cX10_ofPersonNow 74 = .ok (.iaload, 1) := by decide +kernel
theorem dX10_ofPersonNow_75 : decode cX10_ofPersonNow 75 = .ok (.ireturn, 1) := by decide +kernel
theorem dX10_isNoPerson_0 : decode cX10_isNoPerson 0 = .ok (.aload_n 0, 1) := by decide +kernel
theorem dX10_isNoPerson_1 : decode cX10_isNoPerson 1 = .ok (.iload_n 1, 1) := by decide +kernel
theorem dX10_isNoPerson_2 : decode cX10_isNoPerson 2 = .ok (.iconst 0, 1) := by decide +kernel
theorem dX10_isNoPerson_3 : decode cX10_isNoPerson 3 = .ok (.aload_n 0, 1) := by decide +kernel
theorem dX10_isNoPerson_4 : decode cX10_isNoPerson 4 = .ok (.getfield 16, 3) := by decide +kernel
theorem dX10_isNoPerson_7 : decode cX10_isNoPerson 7 = .ok (.invokevirtual 41, 3) := by decide +kernel
theorem dX10_isNoPerson_10 : decode cX10_isNoPerson 10 = .ok (.iconst 1, 1) := by decide +kernel
theorem dX10_isNoPerson_11 : decode cX10_isNoPerson 11 = .ok (.isub, 1) := by decide +kernel
theorem dX10_isNoPerson_12 : decode cX10_isNoPerson 12 = .ok (.invokestatic 45, 3) := by decide +kernel
theorem dX10_isNoPerson_15 : decode cX10_isNoPerson 15 = .ok (.ifCond .ne 7, 3) := by decide +kernel
theorem dX10_isNoPerson_18 : decode cX10_isNoPerson 18 = .ok (.iconst 1, 1) := by decide +kernel
theorem dX10_isNoPerson_19 : decode cX10_isNoPerson 19 = .ok (.goto 4, 3) := by decide +kernel
theorem dX10_isNoPerson_22 : decode cX10_isNoPerson 22 = .ok (.iconst 0, 1) := by decide +kernel
theorem dX10_isNoPerson_23 : decode cX10_isNoPerson 23 = .ok (.iconst 1, 1) := by decide +kernel
theorem dX10_isNoPerson_24 : decode cX10_isNoPerson 24 = .ok (.invokevirtual 63, 3) := by decide +kernel
theorem dX10_isNoPerson_27 : decode cX10_isNoPerson 27 = .ok (.ireturn, 1) := by decide +kernel
theorem dX10_ofPerson_0 : decode cX10_ofPerson 0 = .ok (.aload_n 0, 1) := by decide +kernel
theorem dX10_ofPerson_1 : decode cX10_ofPerson 1 = .ok (.iload_n 1, 1) := by decide +kernel
theorem dX10_ofPerson_2 : decode cX10_ofPerson 2 = .ok (.invokevirtual 175, 3) := by decide +kernel
theorem dX10_ofPerson_5 : decode cX10_ofPerson 5 = .ok (.ifCond .ne 25, 3) := by decide +kernel
theorem dX10_ofPerson_8 : decode cX10_ofPerson 8 = .ok (.aload_n 0, 1) := by decide +kernel
theorem dX10_ofPerson_9 : decode cX10_ofPerson 9 = .ok (.iload_n 2, 1) := by decide +kernel
theorem dX10_ofPerson_10 : decode cX10_ofPerson 10 = .ok (.iconst 0, 1) := by decide +kernel
theorem dX10_ofPerson_11 : decode cX10_ofPerson 11 = .ok (.iconst 5, 1) := by decide +kernel
theorem dX10_ofPerson_12 : decode cX10_ofPerson 12 = .ok (.invokestatic 45, 3) := by decide +kernel
theorem dX10_ofPerson_15 : decode cX10_ofPerson 15 = .ok (.ifCond .ne 7, 3) := by decide +kernel
theorem dX10_ofPerson_18 : decode cX10_ofPerson 18 = .ok (.iconst 1, 1) := by decide +kernel
theorem dX10_ofPerson_19 : decode cX10_ofPerson 19 = .ok (.goto 4, 3) := by decide +kernel
theorem dX10_ofPerson_22 : decode cX10_ofPerson 22 = .ok (.iconst 0, 1) := by decide +kernel
theorem dX10_ofPerson_23 : decode cX10_ofPerson 23 = .ok (.iconst 2, 1) := by decide +kernel
theorem dX10_ofPerson_24 : decode cX10_ofPerson 24 = .ok (.invokevirtual 37, 3) := by decide +kernel
theorem dX10_ofPerson_27 : decode cX10_ofPerson 27 = .ok (.ifCond .eq 7, 3) := by decide +kernel
theorem dX10_ofPerson_30 : decode cX10_ofPerson 30 = .ok (.iconst 0, 1) := by decide +kernel
theorem dX10_ofPerson_31 : decode cX10_ofPerson 31 = .ok (.goto 9, 3) := by decide +kernel
theorem dX10_ofPerson_34 : decode cX10_ofPerson 34 = .ok (.aload_n 0, 1) := by decide +kernel
theorem dX10_ofPerson_35 : decode cX10_ofPerson 35 = .ok (.iload_n 1, 1) := by decide +kernel
theorem dX10_ofPerson_36 : decode cX10_ofPerson 36 = .ok (.iload_n 2, 1) := by decide +kernel
theorem dX10_ofPerson_37 : decode cX10_ofPerson 37 = .ok (.invokevirtual 178, 3) := by decide +kernel
theorem dX10_ofPerson_40 : decode cX10_ofPerson 40 = .ok (.ireturn, 1) := by decide +kernel
theorem dX10_lacks_0 : decode cX10_lacks 0 = .ok (.aload_n 0, 1) := by decide +kernel
theorem dX10_lacks_1 : decode cX10_lacks 1 = .ok (.getfield 24, 3) := by decide +kernel
theorem dX10_lacks_4 : decode cX10_lacks 4 = .ok (.aload_n 1, 1) := by decide +kernel
theorem dX10_lacks_5 : decode cX10_lacks 5 = .ok (.getfield 132, 3) := by decide +kernel
theorem dX10_lacks_8 : decode cX10_lacks 8 = .ok (.aaload, 1) := by decide +kernel
theorem dX10_lacks_9 : decode cX10_lacks 9 = .ok (.aload_n 1, 1) := by decide +kernel
theorem dX10_lacks_10 : decode cX10_lacks 10 = .ok (.getfield 135, 3) := by decide +kernel
theorem dX10_lacks_13 : decode cX10_lacks 13 = .ok (.iaload, 1) := by decide +kernel
theorem dX10_lacks_14 : decode cX10_lacks 14 = .ok (.aload_n 0, 1) := by decide +kernel
theorem dX10_lacks_15 : decode cX10_lacks 15 = .ok (.iconst 0, 1) := by decide +kernel
theorem dX10_lacks_16 : decode cX10_lacks 16 = .ok (.invokevirtual 148, 3) := by decide +kernel
theorem dX10_lacks_19 : decode cX10_lacks 19 = .ok (.aload_n 1, 1) := by decide +kernel
theorem dX10_lacks_20 : decode cX10_lacks 20 = .ok (.getfield 132, 3) := by decide +kernel
theorem dX10_lacks_23 : decode cX10_lacks 23 = .ok (.aaload, 1) := by decide +kernel
theorem dX10_lacks_24 : decode cX10_lacks 24 = .ok (.aload_n 1, 1) := by decide +kernel
theorem dX10_lacks_25 : decode cX10_lacks 25 = .ok (.getfield 135, 3) := by decide +kernel
theorem dX10_lacks_28 : decode cX10_lacks 28 = .ok (.iaload, 1) := by decide +kernel
theorem dX10_lacks_29 : decode cX10_lacks 29 = .ok (.isub, 1) := by decide +kernel
theorem dX10_lacks_30 : decode cX10_lacks 30 = .ok (.ireturn, 1) := by decide +kernel
theorem dX10_nextNow_0 : decode cX10_nextNow 0 = .ok (.iconst (-1), 1) := by decide +kernel
theorem dX10_nextNow_1 : decode cX10_nextNow 1 = .ok (.istore_n 2, 1) := by decide +kernel
theorem dX10_nextNow_2 : decode cX10_nextNow 2 = .ok (.iconst 0, 1) := by decide +kernel
theorem dX10_nextNow_3 : decode cX10_nextNow 3 = .ok (.istore_n 3, 1) := by decide +kernel
theorem dX10_nextNow_4 : decode cX10_nextNow 4 = .ok (.iload_n 3, 1) := by decide +kernel
theorem dX10_nextNow_5 : decode cX10_nextNow 5 = .ok (.aload_n 0, 1) := by decide +kernel
theorem dX10_nextNow_6 : decode cX10_nextNow 6 = .ok (.getfield 16, 3) := by decide +kernel
theorem dX10_nextNow_9 : decode cX10_nextNow 9 = .ok (.invokevirtual 41, 3) := by decide +kernel
theorem dX10_nextNow_12 : decode cX10_nextNow 12 = .ok (.if_icmp .ge 124, 3) := by decide +kernel
theorem dX10_nextNow_15 : decode cX10_nextNow 15 = .ok (.aload_n 0, 1) := by decide +kernel
theorem dX10_nextNow_16 : decode cX10_nextNow 16 = .ok (.iload_n 3, 1) := by decide +kernel
theorem dX10_nextNow_17 : decode cX10_nextNow 17 = .ok (.iload_n 1, 1) := by decide +kernel
theorem dX10_nextNow_18 : decode cX10_nextNow 18 = .ok (.invokevirtual 159, 3) := by decide +kernel
theorem dX10_nextNow_21 : decode cX10_nextNow 21 = .ok (.ifCond .ne 6, 3) := by decide +kernel
theorem dX10_nextNow_24 : decode cX10_nextNow 24 = .ok (.goto 106, 3) := by decide +kernel
theorem dX10_nextNow_27 : decode cX10_nextNow 27 = .ok (.iload_n 2, 1) := by decide +kernel
theorem dX10_nextNow_28 : decode cX10_nextNow 28 = .ok (.iconst (-1), 1) := by decide +kernel
theorem dX10_nextNow_29 : decode cX10_nextNow 29 = .ok (.if_icmp .ne 8, 3) := by decide +kernel
theorem dX10_nextNow_32 : decode cX10_nextNow 32 = .ok (.iload_n 3, 1) := by decide +kernel
theorem dX10_nextNow_33 : decode cX10_nextNow 33 = .ok (.istore_n 2, 1) := by decide +kernel
theorem dX10_nextNow_34 : decode cX10_nextNow 34 = .ok (.goto 96, 3) := by decide +kernel
theorem dX10_nextNow_37 : decode cX10_nextNow 37 = .ok (.aload_n 0, 1) := by decide +kernel
theorem dX10_nextNow_38 : decode cX10_nextNow 38 = .ok (.aload_n 0, 1) := by decide +kernel
theorem dX10_nextNow_39 : decode cX10_nextNow 39 = .ok (.getfield 16, 3) := by decide +kernel
theorem dX10_nextNow_42 : decode cX10_nextNow 42 = .ok (.iload_n 3, 1) := by decide +kernel
theorem dX10_nextNow_43 : decode cX10_nextNow 43 = .ok (.invokevirtual 53, 3) := by decide +kernel
theorem dX10_nextNow_46 : decode cX10_nextNow 46 = .ok (.checkcast 98, 3) := by decide +kernel
theorem dX10_nextNow_49 : decode cX10_nextNow 49 = .ok (.invokevirtual 181, 3) := by decide +kernel
theorem dX10_nextNow_52 : decode cX10_nextNow 52 = .ok (.aload_n 0, 1) := by decide +kernel
theorem dX10_nextNow_53 : decode cX10_nextNow 53 = .ok (.aload_n 0, 1) := by decide +kernel
theorem dX10_nextNow_54 : decode cX10_nextNow 54 = .ok (.getfield 16, 3) := by decide +kernel
theorem dX10_nextNow_57 : decode cX10_nextNow 57 = .ok (.iload_n 2, 1) := by decide +kernel
theorem dX10_nextNow_58 : decode cX10_nextNow 58 = .ok (.invokevirtual 53, 3) := by decide +kernel
theorem dX10_nextNow_61 : decode cX10_nextNow 61 = .ok (.checkcast 98, 3) := by decide +kernel
theorem dX10_nextNow_64 : decode cX10_nextNow 64 = .ok (.invokevirtual 181, 3) := by decide +kernel
theorem dX10_nextNow_67 : decode cX10_nextNow 67 = .ok (.isub, 1) := by decide +kernel
theorem dX10_nextNow_68 : decode cX10_nextNow 68 = .ok (.istore 4, 2) := by decide +kernel
theorem dX10_nextNow_70 : decode cX10_nextNow 70 = .ok (.iconst 0, 1) := by decide +kernel
theorem dX10_nextNow_71 : decode cX10_nextNow 71 = .ok (.aload_n 0, 1) := by decide +kernel
theorem dX10_nextNow_72 : decode cX10_nextNow 72 = .ok (.getfield 16, 3) := by decide +kernel
theorem dX10_nextNow_75 : decode cX10_nextNow 75 = .ok (.iload_n 2, 1) := by decide +kernel
theorem dX10_nextNow_76 : decode cX10_nextNow 76 = .ok (.invokevirtual 53, 3) := by decide +kernel
theorem dX10_nextNow_79 : decode cX10_nextNow 79 = .ok (.checkcast 98, 3) := by decide +kernel
theorem dX10_nextNow_82 : decode cX10_nextNow 82 = .ok (.getfield 145, 3) := by decide +kernel
theorem dX10_nextNow_85 : decode cX10_nextNow 85 = .ok (.iload_n 1, 1) := by decide +kernel
theorem dX10_nextNow_86 : decode cX10_nextNow 86 = .ok (.isub, 1) := by decide +kernel
theorem dX10_nextNow_87 : decode cX10_nextNow 87 = .ok (.invokestatic 185, 3) := by decide +kernel
theorem dX10_nextNow_90 : decode cX10_nextNow 90 = .ok (.iconst 0, 1) := by decide +kernel
theorem dX10_nextNow_91 : decode cX10_nextNow 91 = .ok (.aload_n 0, 1) := by decide +kernel
theorem dX10_nextNow_92 : decode cX10_nextNow 92 = .ok (.getfield 16, 3) := by decide +kernel
theorem dX10_nextNow_95 : decode cX10_nextNow 95 = .ok (.iload_n 3, 1) := by decide +kernel
theorem dX10_nextNow_96 : decode cX10_nextNow 96 = .ok (.invokevirtual 53, 3) := by decide +kernel
theorem dX10_nextNow_99 : decode cX10_nextNow 99 = .ok (.checkcast 98, 3) := by decide +kernel
theorem dX10_nextNow_102 : decode cX10_nextNow 102 = .ok (.getfield 145, 3) := by decide +kernel
theorem dX10_nextNow_105 : decode cX10_nextNow 105 = .ok (.iload_n 1, 1) := by decide +kernel
theorem dX10_nextNow_106 : decode cX10_nextNow 106 = .ok (.isub, 1) := by decide +kernel
theorem dX10_nextNow_107 : decode cX10_nextNow 107 = .ok (.invokestatic 185, 3) := by decide +kernel
theorem dX10_nextNow_110 : decode cX10_nextNow 110 = .ok (.isub, 1) := by decide +kernel
theorem dX10_nextNow_111 : decode cX10_nextNow 111 = .ok (.istore 5, 2) := by decide +kernel
theorem dX10_nextNow_113 : decode cX10_nextNow 113 = .ok (.iload 4, 2) := by decide +kernel
theorem dX10_nextNow_115 : decode cX10_nextNow 115 = .ok (.ifCond .gt 13, 3) := by decide +kernel
theorem dX10_nextNow_118 : decode cX10_nextNow 118 = .ok (.iload 4, 2) := by decide +kernel
theorem dX10_nextNow_120 : decode cX10_nextNow 120 = .ok (.ifCond .ne 10, 3) := by decide +kernel
theorem dX10_nextNow_123 : decode cX10_nextNow 123 = .ok (.iload 5, 2) := by decide +kernel
theorem dX10_nextNow_125 : decode cX10_nextNow 125 = .ok (.ifCond .le 5, 3) := by decide +kernel
theorem dX10_nextNow_128 : decode cX10_nextNow 128 = .ok (.iload_n 3, 1) := by decide +kernel
theorem dX10_nextNow_129 : decode cX10_nextNow 129 = .ok (.istore_n 2, 1) := by decide +kernel
theorem dX10_nextNow_130 : decode cX10_nextNow 130 = .ok (.iinc 3 1, 3) := by decide +kernel
theorem dX10_nextNow_133 : decode cX10_nextNow 133 = .ok (.goto (-129), 3) := by decide +kernel
theorem dX10_nextNow_136 : decode cX10_nextNow 136 = .ok (.iload_n 2, 1) := by decide +kernel
theorem dX10_nextNow_137 : decode cX10_nextNow 137 = .ok (.ireturn, 1) := by decide +kernel
theorem dX10_next_0 : decode cX10_next 0 = .ok (.aload_n 0, 1) := by decide +kernel
theorem dX10_next_1 : decode cX10_next 1 = .ok (.iconst 0, 1) := by decide +kernel
theorem dX10_next_2 : decode cX10_next 2 = .ok (.putfield 34, 3) := by decide +kernel
theorem dX10_next_5 : decode cX10_next 5 = .ok (.aload_n 0, 1) := by decide +kernel
theorem dX10_next_6 : decode cX10_next 6 = .ok (.iconst 0, 1) := by decide +kernel
theorem dX10_next_7 : decode cX10_next 7 = .ok (.invokevirtual 190, 3) := by decide +kernel
theorem dX10_next_10 : decode cX10_next 10 = .ok (.ireturn, 1) := by decide +kernel
theorem dX10_day_0 : decode cX10_day 0 = .ok (.aload_n 0, 1) := by decide +kernel
theorem dX10_day_1 : decode cX10_day 1 = .ok (.iconst 0, 1) := by decide +kernel
theorem dX10_day_2 : decode cX10_day 2 = .ok (.putfield 34, 3) := by decide +kernel
theorem dX10_day_5 : decode cX10_day 5 = .ok (.aload_n 0, 1) := by decide +kernel
theorem dX10_day_6 : decode cX10_day 6 = .ok (.dup, 1) := by decide +kernel
theorem dX10_day_7 : decode cX10_day 7 = .ok (.getfield 193, 3) := by decide +kernel
theorem dX10_day_10 : decode cX10_day 10 = .ok (.iconst 1, 1) := by decide +kernel
theorem dX10_day_11 : decode cX10_day 11 = .ok (.iadd, 1) := by decide +kernel
theorem dX10_day_12 : decode cX10_day 12 = .ok (.putfield 193, 3) := by decide +kernel
theorem dX10_day_15 : decode cX10_day 15 = .ok (.aload_n 0, 1) := by decide +kernel
theorem dX10_day_16 : decode cX10_day 16 = .ok (.getfield 16, 3) := by decide +kernel
theorem dX10_day_19 : decode cX10_day 19 = .ok (.invokevirtual 109, 3) := by decide +kernel
theorem dX10_day_22 : decode cX10_day 22 = .ok (.astore_n 1, 1) := by decide +kernel
theorem dX10_day_23 : decode cX10_day 23 = .ok (.aload_n 1, 1) := by decide +kernel
theorem dX10_day_24 : decode cX10_day 24 = .ok (.invokeinterface 113 1, 5) := by decide +kernel
theorem dX10_day_29 : decode cX10_day 29 = .ok (.ifCond .eq 30, 3) := by decide +kernel
theorem dX10_day_32 : decode cX10_day 32 = .ok (.aload_n 1, 1) := by decide +kernel
theorem dX10_day_33 : decode cX10_day 33 = .ok (.invokeinterface 118 1, 5) := by decide +kernel
theorem dX10_day_38 : decode cX10_day 38 = .ok (.checkcast 98, 3) := by decide +kernel
theorem dX10_day_41 : decode cX10_day 41 = .ok (.astore_n 2, 1) := by decide +kernel
theorem dX10_day_42 : decode cX10_day 42 = .ok (.aload_n 2, 1) := by decide +kernel
theorem dX10_day_43 : decode cX10_day 43 = .ok (.iconst 0, 1) := by decide +kernel
theorem dX10_day_44 : decode cX10_day 44 = .ok (.aload_n 2, 1) := by decide +kernel
theorem dX10_day_45 : decode cX10_day 45 = .ok (.getfield 145, 3) := by decide +kernel
theorem dX10_day_48 : decode cX10_day 48 = .ok (.iconst 1, 1) := by decide +kernel
theorem dX10_day_49 : decode cX10_day 49 = .ok (.isub, 1) := by decide +kernel
theorem dX10_day_50 : decode cX10_day 50 = .ok (.invokestatic 185, 3) := by decide +kernel
theorem dX10_day_53 : decode cX10_day 53 = .ok (.putfield 145, 3) := by decide +kernel
theorem dX10_day_56 : decode cX10_day 56 = .ok (.goto (-33), 3) := by decide +kernel
theorem dX10_day_59 : decode cX10_day 59 = .ok (.aload_n 0, 1) := by decide +kernel
theorem dX10_day_60 : decode cX10_day 60 = .ok (.getfield 193, 3) := by decide +kernel
theorem dX10_day_63 : decode cX10_day 63 = .ok (.ireturn, 1) := by decide +kernel
theorem dX10_begin_0 : decode cX10_begin 0 = .ok (.aload_n 0, 1) := by decide +kernel
theorem dX10_begin_1 : decode cX10_begin 1 = .ok (.iload_n 1, 1) := by decide +kernel
theorem dX10_begin_2 : decode cX10_begin 2 = .ok (.invokevirtual 175, 3) := by decide +kernel
theorem dX10_begin_5 : decode cX10_begin 5 = .ok (.ifCond .ne 47, 3) := by decide +kernel
theorem dX10_begin_8 : decode cX10_begin 8 = .ok (.aload_n 0, 1) := by decide +kernel
theorem dX10_begin_9 : decode cX10_begin 9 = .ok (.aload_n 0, 1) := by decide +kernel
theorem dX10_begin_10 : decode cX10_begin 10 = .ok (.iload_n 1, 1) := by decide +kernel
theorem dX10_begin_11 : decode cX10_begin 11 = .ok (.iconst 0, 1) := by decide +kernel
theorem dX10_begin_12 : decode cX10_begin 12 = .ok (.invokevirtual 159, 3) := by decide +kernel
theorem dX10_begin_15 : decode cX10_begin 15 = .ok (.ifCond .eq 25, 3) := by decide +kernel
theorem dX10_begin_18 : decode cX10_begin 18 = .ok (.aload_n 0, 1) := by decide +kernel
theorem dX10_begin_19 : decode cX10_begin 19 = .ok (.getfield 10, 3) := by decide +kernel
theorem dX10_begin_22 : decode cX10_begin 22 = .ok (.invokevirtual 66, 3) := by decide +kernel
theorem dX10_begin_25 : decode cX10_begin 25 = .ok (.ifCond .ne 15, 3) := by decide +kernel
theorem dX10_begin_28 : decode cX10_begin 28 = .ok (.aload_n 0, 1) := by decide +kernel
theorem dX10_begin_29 : decode cX10_begin 29 = .ok (.getfield 19, 3) := by decide +kernel
theorem dX10_begin_32 : decode cX10_begin 32 = .ok (.invokevirtual 41, 3) := by decide +kernel
theorem dX10_begin_35 : decode cX10_begin 35 = .ok (.bipush 40, 2) := by decide +kernel
theorem dX10_begin_37 : decode cX10_begin 37 = .ok (.if_icmp .ne 7, 3) := by decide +kernel
theorem dX10_begin_40 : decode cX10_begin 40 = .ok (.iconst 1, 1) := by decide +kernel
theorem dX10_begin_41 : decode cX10_begin 41 = .ok (.goto 4, 3) := by decide +kernel
theorem dX10_begin_44 : decode cX10_begin 44 = .ok (.iconst 0, 1) := by decide +kernel
theorem dX10_begin_45 : decode cX10_begin 45 = .ok (.iconst 2, 1) := by decide +kernel
theorem dX10_begin_46 : decode cX10_begin 46 = .ok (.invokevirtual 37, 3) := by decide +kernel
theorem dX10_begin_49 : decode cX10_begin 49 = .ok (.ifCond .eq 5, 3) := by decide +kernel
theorem dX10_begin_52 : decode cX10_begin 52 = .ok (.iconst 0, 1) := by decide +kernel
theorem dX10_begin_53 : decode cX10_begin 53 = .ok (.ireturn, 1) := by decide +kernel
theorem dX10_begin_54 : decode cX10_begin 54 = .ok (.aload_n 0, 1) := by decide +kernel
theorem dX10_begin_55 : decode cX10_begin 55 = .ok (.getfield 16, 3) := by decide +kernel
theorem dX10_begin_58 : decode cX10_begin 58 = .ok (.iload_n 1, 1) := by decide +kernel
theorem dX10_begin_59 : decode cX10_begin 59 = .ok (.invokevirtual 53, 3) := by decide +kernel
theorem dX10_begin_62 : decode cX10_begin 62 = .ok (.checkcast 98, 3) := by decide +kernel
theorem dX10_begin_65 : decode cX10_begin 65 = .ok (.bipush 9, 2) := by decide +kernel
theorem dX10_begin_67 : decode cX10_begin 67 = .ok (.aload_n 0, 1) := by decide +kernel
theorem dX10_begin_68 : decode cX10_begin 68 = .ok (.getfield 16, 3) := by decide +kernel
theorem dX10_begin_71 : decode cX10_begin 71 = .ok (.iload_n 1, 1) := by decide +kernel
theorem dX10_begin_72 : decode cX10_begin 72 = .ok (.invokevirtual 53, 3) := by decide +kernel
theorem dX10_begin_75 : decode cX10_begin 75 = .ok (.checkcast 98, 3) := by decide +kernel
theorem dX10_begin_78 : decode cX10_begin 78 = .ok (.getfield 145, 3) := by decide +kernel
theorem dX10_begin_81 : decode cX10_begin 81 = .ok (.iconst 2, 1) := by decide +kernel
theorem dX10_begin_82 : decode cX10_begin 82 = .ok (.iadd, 1) := by decide +kernel
theorem dX10_begin_83 : decode cX10_begin 83 = .ok (.invokestatic 196, 3) := by decide +kernel
theorem dX10_begin_86 : decode cX10_begin 86 = .ok (.putfield 145, 3) := by decide +kernel
theorem dX10_begin_89 : decode cX10_begin 89 = .ok (.aload_n 0, 1) := by decide +kernel
theorem dX10_begin_90 : decode cX10_begin 90 = .ok (.getfield 19, 3) := by decide +kernel
theorem dX10_begin_93 : decode cX10_begin 93 = .ok (.invokevirtual 41, 3) := by decide +kernel
theorem dX10_begin_96 : decode cX10_begin 96 = .ok (.istore_n 2, 1) := by decide +kernel
theorem dX10_begin_97 : decode cX10_begin 97 = .ok (.aload_n 0, 1) := by decide +kernel
theorem dX10_begin_98 : decode cX10_begin 98 = .ok (.getfield 19, 3) := by decide +kernel
theorem dX10_begin_101 : decode cX10_begin 101 = .ok (.new 105, 3) := by decide +kernel
theorem dX10_begin_104 : decode cX10_begin 104 = .ok (.dup, 1) := by decide +kernel
theorem dX10_begin_105 : decode cX10_begin 105 = .ok (.iload_n 2, 1) := by decide +kernel
theorem dX10_begin_106 : decode cX10_begin 106 = .ok (.iload_n 1, 1) := by decide +kernel
theorem dX10_begin_107 : decode cX10_begin 107 = .ok (.aload_n 0, 1) := by decide +kernel
theorem dX10_begin_108 : decode cX10_begin 108 = .ok (.getfield 89, 3) := by decide +kernel
theorem dX10_begin_111 : decode cX10_begin 111 = .ok (.ifCond .ne 7, 3) := by decide +kernel
theorem dX10_begin_114 : decode cX10_begin 114 = .ok (.iconst 0, 1) := by decide +kernel
theorem dX10_begin_115 : decode cX10_begin 115 = .ok (.goto 9, 3) := by decide +kernel
theorem dX10_begin_118 : decode cX10_begin 118 = .ok (.iload_n 2, 1) := by decide +kernel
theorem dX10_begin_119 : decode cX10_begin 119 = .ok (.aload_n 0, 1) := by decide +kernel
theorem dX10_begin_120 : decode cX10_begin 120 = .ok (.getfield 89, 3) := by decide +kernel
theorem dX10_begin_123 : decode cX10_begin 123 = .ok (.irem, 1) := by decide +kernel
theorem dX10_begin_124 : decode cX10_begin 124 = .ok (.invokespecial 199, 3) := by decide +kernel
theorem dX10_begin_127 : decode cX10_begin 127 = .ok (.invokevirtual 73, 3) := by decide +kernel
theorem dX10_begin_130 : decode cX10_begin 130 = .ok (.pop, 1) := by decide +kernel
theorem dX10_begin_131 : decode cX10_begin 131 = .ok (.iload_n 2, 1) := by decide +kernel
theorem dX10_begin_132 : decode cX10_begin 132 = .ok (.ireturn, 1) := by decide +kernel
theorem dX10_isNoInterview_0 : decode cX10_isNoInterview 0 = .ok (.aload_n 0, 1) := by decide +kernel
theorem dX10_isNoInterview_1 : decode cX10_isNoInterview 1 = .ok (.iload_n 1, 1) := by decide +kernel
theorem dX10_isNoInterview_2 : decode cX10_isNoInterview 2 = .ok (.iconst 0, 1) := by decide +kernel
theorem dX10_isNoInterview_3 : decode cX10_isNoInterview 3 = .ok (.aload_n 0, 1) := by decide +kernel
theorem dX10_isNoInterview_4 : decode cX10_isNoInterview 4 = .ok (.getfield 19, 3) := by decide +kernel
theorem dX10_isNoInterview_7 : decode cX10_isNoInterview 7 = .ok (.invokevirtual 41, 3) := by decide +kernel
theorem dX10_isNoInterview_10 : decode cX10_isNoInterview 10 = .ok (.iconst 1, 1) := by decide +kernel
theorem dX10_isNoInterview_11 : decode cX10_isNoInterview 11 = .ok (.isub, 1) := by decide +kernel
theorem dX10_isNoInterview_12 : decode cX10_isNoInterview 12 = .ok (.invokestatic 45, 3) := by decide +kernel
theorem dX10_isNoInterview_15 : decode cX10_isNoInterview 15 = .ok (.ifCond .ne 7, 3) := by decide +kernel
theorem dX10_isNoInterview_18 : decode cX10_isNoInterview 18 = .ok (.iconst 1, 1) := by decide +kernel
theorem dX10_isNoInterview_19 : decode cX10_isNoInterview 19 = .ok (.goto 4, 3) := by decide +kernel
theorem dX10_isNoInterview_22 : decode cX10_isNoInterview 22 = .ok (.iconst 0, 1) := by decide +kernel
theorem dX10_isNoInterview_23 : decode cX10_isNoInterview 23 = .ok (.iconst 1, 1) := by decide +kernel
theorem dX10_isNoInterview_24 : decode cX10_isNoInterview 24 = .ok (.invokevirtual 63, 3) := by decide +kernel
theorem dX10_isNoInterview_27 : decode cX10_isNoInterview 27 = .ok (.ireturn, 1) := by decide +kernel
theorem dX10_behind__0 : decode cX10_behind_ 0 = .ok (.aload_n 1, 1) := by decide +kernel
theorem dX10_behind__1 : decode cX10_behind_ 1 = .ok (.getfield 202, 3) := by decide +kernel
theorem dX10_behind__4 : decode cX10_behind_ 4 = .ok (.aload_n 0, 1) := by decide +kernel
theorem dX10_behind__5 : decode cX10_behind_ 5 = .ok (.getfield 89, 3) := by decide +kernel
theorem dX10_behind__8 : decode cX10_behind_ 8 = .ok (.if_icmp .lt 13, 3) := by decide +kernel
theorem dX10_behind__11 : decode cX10_behind_ 11 = .ok (.aload_n 0, 1) := by decide +kernel
theorem dX10_behind__12 : decode cX10_behind_ 12 = .ok (.aload_n 1, 1) := by decide +kernel
theorem dX10_behind__13 : decode cX10_behind_ 13 = .ok (.getfield 205, 3) := by decide +kernel
theorem dX10_behind__16 : decode cX10_behind_ 16 = .ok (.iload_n 2, 1) := by decide +kernel
theorem dX10_behind__17 : decode cX10_behind_ 17 = .ok (.invokevirtual 85, 3) := by decide +kernel
theorem dX10_behind__20 : decode cX10_behind_ 20 = .ok (.ireturn, 1) := by decide +kernel
theorem dX10_behind__21 : decode cX10_behind_ 21 = .ok (.aload_n 1, 1) := by decide +kernel
theorem dX10_behind__22 : decode cX10_behind_ 22 = .ok (.getfield 202, 3) := by decide +kernel
theorem dX10_behind__25 : decode cX10_behind_ 25 = .ok (.iconst 1, 1) := by decide +kernel
theorem dX10_behind__26 : decode cX10_behind_ 26 = .ok (.iadd, 1) := by decide +kernel
theorem dX10_behind__27 : decode cX10_behind_ 27 = .ok (.aload_n 0, 1) := by decide +kernel
theorem dX10_behind__28 : decode cX10_behind_ 28 = .ok (.getfield 89, 3) := by decide +kernel
theorem dX10_behind__31 : decode cX10_behind_ 31 = .ok (.if_icmp .ne 14, 3) := by decide +kernel
theorem dX10_behind__34 : decode cX10_behind_ 34 = .ok (.aload_n 0, 1) := by decide +kernel
theorem dX10_behind__35 : decode cX10_behind_ 35 = .ok (.aload_n 0, 1) := by decide +kernel
theorem dX10_behind__36 : decode cX10_behind_ 36 = .ok (.getfield 89, 3) := by decide +kernel
theorem dX10_behind__39 : decode cX10_behind_ 39 = .ok (.invokevirtual 77, 3) := by decide +kernel
theorem dX10_behind__42 : decode cX10_behind_ 42 = .ok (.goto 14, 3) := by decide +kernel
theorem dX10_behind__45 : decode cX10_behind_ 45 = .ok (.aload_n 1, 1) := by decide +kernel
theorem dX10_behind__46 : decode cX10_behind_ 46 = .ok (.getfield 205, 3) := by decide +kernel
theorem dX10_behind__49 : decode cX10_behind_ 49 = .ok (.iconst 1, 1) := by decide +kernel
theorem dX10_behind__50 : decode cX10_behind_ 50 = .ok (.iadd, 1) := by decide +kernel
theorem dX10_behind__51 : decode cX10_behind_ 51 = .ok (.aload_n 0, 1) := by decide +kernel
theorem dX10_behind__52 : decode cX10_behind_ 52 = .ok (.getfield 89, 3) := by decide +kernel
theorem dX10_behind__55 : decode cX10_behind_ 55 = .ok (.irem, 1) := by decide +kernel
theorem dX10_behind__56 : decode cX10_behind_ 56 = .ok (.ireturn, 1) := by decide +kernel
theorem dX10_answer_0 : decode cX10_answer 0 = .ok (.aload_n 0, 1) := by decide +kernel
theorem dX10_answer_1 : decode cX10_answer 1 = .ok (.iload_n 1, 1) := by decide +kernel
theorem dX10_answer_2 : decode cX10_answer 2 = .ok (.invokevirtual 208, 3) := by decide +kernel
theorem dX10_answer_5 : decode cX10_answer 5 = .ok (.ifCond .ne 33, 3) := by decide +kernel
theorem dX10_answer_8 : decode cX10_answer 8 = .ok (.aload_n 0, 1) := by decide +kernel
theorem dX10_answer_9 : decode cX10_answer 9 = .ok (.aload_n 0, 1) := by decide +kernel
theorem dX10_answer_10 : decode cX10_answer 10 = .ok (.getfield 19, 3) := by decide +kernel
theorem dX10_answer_13 : decode cX10_answer 13 = .ok (.iload_n 1, 1) := by decide +kernel
theorem dX10_answer_14 : decode cX10_answer 14 = .ok (.invokevirtual 53, 3) := by decide +kernel
theorem dX10_answer_17 : decode cX10_answer 17 = .ok (.checkcast 105, 3) := by decide +kernel
theorem dX10_answer_20 : decode cX10_answer 20 = .ok (.getfield 122, 3) := by decide +kernel
theorem dX10_answer_23 : decode cX10_answer 23 = .ok (.ifCond .eq 7, 3) := by decide +kernel
theorem dX10_answer_26 : decode cX10_answer 26 = .ok (.iconst 1, 1) := by decide +kernel
theorem dX10_answer_27 : decode cX10_answer 27 = .ok (.goto 4, 3) := by decide +kernel
theorem dX10_answer_30 : decode cX10_answer 30 = .ok (.iconst 0, 1) := by decide +kernel
theorem dX10_answer_31 : decode cX10_answer 31 = .ok (.iconst 2, 1) := by decide +kernel
theorem dX10_answer_32 : decode cX10_answer 32 = .ok (.invokevirtual 37, 3) := by decide +kernel
theorem dX10_answer_35 : decode cX10_answer 35 = .ok (.ifCond .eq 5, 3) := by decide +kernel
theorem dX10_answer_38 : decode cX10_answer 38 = .ok (.iconst 0, 1) := by decide +kernel
theorem dX10_answer_39 : decode cX10_answer 39 = .ok (.ireturn, 1) := by decide +kernel
theorem dX10_answer_40 : decode cX10_answer 40 = .ok (.aload_n 0, 1) := by decide +kernel
theorem dX10_answer_41 : decode cX10_answer 41 = .ok (.getfield 19, 3) := by decide +kernel
theorem dX10_answer_44 : decode cX10_answer 44 = .ok (.iload_n 1, 1) := by decide +kernel
theorem dX10_answer_45 : decode cX10_answer 45 = .ok (.invokevirtual 53, 3) := by decide +kernel
theorem dX10_answer_48 : decode cX10_answer 48 = .ok (.checkcast 105, 3) := by decide +kernel
theorem dX10_answer_51 : decode cX10_answer 51 = .ok (.astore 4, 2) := by decide +kernel
theorem dX10_answer_53 : decode cX10_answer 53 = .ok (.aload_n 0, 1) := by decide +kernel
theorem dX10_answer_54 : decode cX10_answer 54 = .ok (.aload_n 0, 1) := by decide +kernel
theorem dX10_answer_55 : decode cX10_answer 55 = .ok (.aload 4, 2) := by decide +kernel
theorem dX10_answer_57 : decode cX10_answer 57 = .ok (.getfield 205, 3) := by decide +kernel
theorem dX10_answer_60 : decode cX10_answer 60 = .ok (.iload_n 2, 1) := by decide +kernel
theorem dX10_answer_61 : decode cX10_answer 61 = .ok (.invokevirtual 81, 3) := by decide +kernel
theorem dX10_answer_64 : decode cX10_answer 64 = .ok (.ifCond .ne 13, 3) := by decide +kernel
theorem dX10_answer_67 : decode cX10_answer 67 = .ok (.iload_n 3, 1) := by decide +kernel
theorem dX10_answer_68 : decode cX10_answer 68 = .ok (.iconst 1, 1) := by decide +kernel
theorem dX10_answer_69 : decode cX10_answer 69 = .ok (.bipush 99, 2) := by decide +kernel
theorem dX10_answer_71 : decode cX10_answer 71 = .ok (.invokestatic 45, 3) := by decide +kernel
theorem dX10_answer_74 : decode cX10_answer 74 = .ok (.ifCond .ne 7, 3) := by decide +kernel
theorem dX10_answer_77 : decode cX10_answer 77 = .ok (.iconst 1, 1) := by decide +kernel
theorem dX10_answer_78 : decode cX10_answer 78 = .ok (.goto 4, 3) := by decide +kernel
theorem dX10_answer_81 : decode cX10_answer 81 = .ok (.iconst 0, 1) := by decide +kernel
theorem dX10_answer_82 : decode cX10_answer 82 = .ok (.iconst 3, 1) := by decide +kernel
theorem dX10_answer_83 : decode cX10_answer 83 = .ok (.invokevirtual 37, 3) := by decide +kernel
theorem dX10_answer_86 : decode cX10_answer 86 = .ok (.ifCond .eq 5, 3) := by decide +kernel
theorem dX10_answer_89 : decode cX10_answer 89 = .ok (.iconst 0, 1) := by decide +kernel
theorem dX10_answer_90 : decode cX10_answer 90 = .ok (.ireturn, 1) := by decide +kernel
theorem dX10_answer_91 : decode cX10_answer 91 = .ok (.aload 4, 2) := by decide +kernel
theorem dX10_answer_93 : decode cX10_answer 93 = .ok (.getfield 211, 3) := by decide +kernel
theorem dX10_answer_96 : decode cX10_answer 96 = .ok (.aload 4, 2) := by decide +kernel
theorem dX10_answer_98 : decode cX10_answer 98 = .ok (.getfield 205, 3) := by decide +kernel
theorem dX10_answer_101 : decode cX10_answer 101 = .ok (.iload_n 2, 1) := by decide +kernel
theorem dX10_answer_102 : decode cX10_answer 102 = .ok (.iastore, 1) := by decide +kernel
theorem dX10_answer_103 : decode cX10_answer 103 = .ok (.aload_n 0, 1) := by decide +kernel
theorem dX10_answer_104 : decode cX10_answer 104 = .ok (.aload 4, 2) := by decide +kernel
theorem dX10_answer_106 : decode cX10_answer 106 = .ok (.iload_n 2, 1) := by decide +kernel
theorem dX10_answer_107 : decode cX10_answer 107 = .ok (.invokevirtual 214, 3) := by decide +kernel
theorem dX10_answer_110 : decode cX10_answer 110 = .ok (.istore 5, 2) := by decide +kernel
theorem dX10_answer_112 : decode cX10_answer 112 = .ok (.aload 4, 2) := by decide +kernel
theorem dX10_answer_114 : decode cX10_answer 114 = .ok (.dup, 1) := by decide +kernel
theorem dX10_answer_115 : decode cX10_answer 115 = .ok (.getfield 202, 3) := by decide +kernel
theorem dX10_answer_118 : decode cX10_answer 118 = .ok (.iconst 1, 1) := by decide +kernel
theorem dX10_answer_119 : decode cX10_answer 119 = .ok (.iadd, 1) := by decide +kernel
theorem dX10_answer_120 : decode cX10_answer 120 = .ok (.putfield 202, 3) := by decide +kernel
theorem dX10_answer_123 : decode cX10_answer 123 = .ok (.aload 4, 2) := by decide +kernel
theorem dX10_answer_125 : decode cX10_answer 125 = .ok (.dup, 1) := by decide +kernel
theorem dX10_answer_126 : decode cX10_answer 126 = .ok (.getfield 218, 3) := by decide +kernel
theorem dX10_answer_129 : decode cX10_answer 129 = .ok (.iload_n 3, 1) := by decide +kernel
theorem dX10_answer_130 : decode cX10_answer 130 = .ok (.iadd, 1) := by decide +kernel
theorem dX10_answer_131 : decode cX10_answer 131 = .ok (.putfield 218, 3) := by decide +kernel
theorem dX10_answer_134 : decode cX10_answer 134 = .ok (.aload 4, 2) := by decide +kernel
theorem dX10_answer_136 : decode cX10_answer 136 = .ok (.iload 5, 2) := by decide +kernel
theorem dX10_answer_138 : decode cX10_answer 138 = .ok (.putfield 205, 3) := by decide +kernel
theorem dX10_answer_141 : decode cX10_answer 141 = .ok (.iload 5, 2) := by decide +kernel
theorem dX10_answer_143 : decode cX10_answer 143 = .ok (.iconst (-1), 1) := by decide +kernel
theorem dX10_answer_144 : decode cX10_answer 144 = .ok (.if_icmp .eq 6, 3) := by decide +kernel
theorem dX10_answer_147 : decode cX10_answer 147 = .ok (.iload 5, 2) := by decide +kernel
theorem dX10_answer_149 : decode cX10_answer 149 = .ok (.ireturn, 1) := by decide +kernel
theorem dX10_answer_150 : decode cX10_answer 150 = .ok (.aload_n 0, 1) := by decide +kernel
theorem dX10_answer_151 : decode cX10_answer 151 = .ok (.aload 4, 2) := by decide +kernel
theorem dX10_answer_153 : decode cX10_answer 153 = .ok (.invokevirtual 128, 3) := by decide +kernel
theorem dX10_answer_156 : decode cX10_answer 156 = .ok (.astore 6, 2) := by decide +kernel
theorem dX10_answer_158 : decode cX10_answer 158 = .ok (.aload_n 0, 1) := by decide +kernel
theorem dX10_answer_159 : decode cX10_answer 159 = .ok (.aload_n 0, 1) := by decide +kernel
theorem dX10_answer_160 : decode cX10_answer 160 = .ok (.iconst 0, 1) := by decide +kernel
theorem dX10_answer_161 : decode cX10_answer 161 = .ok (.invokevirtual 148, 3) := by decide +kernel
theorem dX10_answer_164 : decode cX10_answer 164 = .ok (.aload 6, 2) := by decide +kernel
theorem dX10_answer_166 : decode cX10_answer 166 = .ok (.getfield 132, 3) := by decide +kernel
theorem dX10_answer_169 : decode cX10_answer 169 = .ok (.aload 6, 2) := by decide +kernel
theorem dX10_answer_171 : decode cX10_answer 171 = .ok (.getfield 135, 3) := by decide +kernel
theorem dX10_answer_174 : decode cX10_answer 174 = .ok (.invokevirtual 152, 3) := by decide +kernel
theorem dX10_answer_177 : decode cX10_answer 177 = .ok (.istore 7, 2) := by decide +kernel
theorem dX10_answer_179 : decode cX10_answer 179 = .ok (.aload 4, 2) := by decide +kernel
theorem dX10_answer_181 : decode cX10_answer 181 = .ok (.iload 7, 2) := by decide +kernel
theorem dX10_answer_183 : decode cX10_answer 183 = .ok (.ifCond .eq 7, 3) := by decide +kernel
theorem dX10_answer_186 : decode cX10_answer 186 = .ok (.iconst 1, 1) := by decide +kernel
theorem dX10_answer_187 : decode cX10_answer 187 = .ok (.goto 4, 3) := by decide +kernel
theorem dX10_answer_190 : decode cX10_answer 190 = .ok (.iconst 2, 1) := by decide +kernel
theorem dX10_answer_191 : decode cX10_answer 191 = .ok (.putfield 122, 3) := by decide +kernel
theorem dX10_answer_194 : decode cX10_answer 194 = .ok (.aload 6, 2) := by decide +kernel
theorem dX10_answer_196 : decode cX10_answer 196 = .ok (.dup, 1) := by decide +kernel
theorem dX10_answer_197 : decode cX10_answer 197 = .ok (.getfield 169, 3) := by decide +kernel
theorem dX10_answer_200 : decode cX10_answer 200 = .ok (.iload 7, 2) := by decide +kernel
theorem dX10_answer_202 : decode cX10_answer 202 = .ok (.ifCond .eq 8, 3) := by decide +kernel
theorem dX10_answer_205 : decode cX10_answer 205 = .ok (.bipush 10, 2) := by decide +kernel
theorem dX10_answer_207 : decode cX10_answer 207 = .ok (.goto 4, 3) := by decide +kernel
theorem dX10_answer_210 : decode cX10_answer 210 = .ok (.iconst 2, 1) := by decide +kernel
theorem dX10_answer_211 : decode cX10_answer 211 = .ok (.iadd, 1) := by decide +kernel
theorem dX10_answer_212 : decode cX10_answer 212 = .ok (.putfield 169, 3) := by decide +kernel
theorem dX10_answer_215 : decode cX10_answer 215 = .ok (.iconst (-1), 1) := by decide +kernel
theorem dX10_answer_216 : decode cX10_answer 216 = .ok (.ireturn, 1) := by decide +kernel
theorem dX10_weights_0 : decode cX10_weights 0 = .ok (.aload_n 0, 1) := by decide +kernel
theorem dX10_weights_1 : decode cX10_weights 1 = .ok (.getfield 19, 3) := by decide +kernel
theorem dX10_weights_4 : decode cX10_weights 4 = .ok (.invokevirtual 41, 3) := by decide +kernel
theorem dX10_weights_7 : decode cX10_weights 7 = .ok (.newarray .long, 2) := by decide +kernel
theorem dX10_weights_9 : decode cX10_weights 9 = .ok (.astore_n 2, 1) := by decide +kernel
theorem dX10_weights_10 : decode cX10_weights 10 = .ok (.iconst 0, 1) := by decide +kernel
theorem dX10_weights_11 : decode cX10_weights 11 = .ok (.istore_n 3, 1) := by decide +kernel
theorem dX10_weights_12 : decode cX10_weights 12 = .ok (.iload_n 3, 1) := by decide +kernel
theorem dX10_weights_13 : decode cX10_weights 13 = .ok (.aload_n 2, 1) := by decide +kernel
theorem dX10_weights_14 : decode cX10_weights 14 = .ok (.arraylength, 1) := by decide +kernel
theorem dX10_weights_15 : decode cX10_weights 15 = .ok (.if_icmp .ge 37, 3) := by decide +kernel
theorem dX10_weights_18 : decode cX10_weights 18 = .ok (.aload_n 2, 1) := by decide +kernel
theorem dX10_weights_19 : decode cX10_weights 19 = .ok (.iload_n 3, 1) := by decide +kernel
theorem dX10_weights_20 : decode cX10_weights 20 = .ok (.aload_n 0, 1) := by decide +kernel
theorem dX10_weights_21 : decode cX10_weights 21 = .ok (.getfield 19, 3) := by decide +kernel
theorem dX10_weights_24 : decode cX10_weights 24 = .ok (.iload_n 3, 1) := by decide +kernel
theorem dX10_weights_25 : decode cX10_weights 25 = .ok (.invokevirtual 53, 3) := by decide +kernel
theorem dX10_weights_28 : decode cX10_weights 28 = .ok (.checkcast 105, 3) := by decide +kernel
theorem dX10_weights_31 : decode cX10_weights 31 = .ok (.getfield 122, 3) := by decide +kernel
theorem dX10_weights_34 : decode cX10_weights 34 = .ok (.iconst 1, 1) := by decide +kernel
theorem dX10_weights_35 : decode cX10_weights 35 = .ok (.if_icmp .ne 9, 3) := by decide +kernel
theorem dX10_weights_38 : decode cX10_weights 38 = .ok (.ldc2_w 221, 3) := by decide +kernel
theorem dX10_weights_41 : decode cX10_weights 41 = .ok (.goto 4, 3) := by decide +kernel
theorem dX10_weights_44 : decode cX10_weights 44 = .ok (.lconst 0, 1) := by decide +kernel
theorem dX10_weights_45 : decode cX10_weights 45 = .ok (.lastore, 1) := by decide +kernel
theorem dX10_weights_46 : decode cX10_weights 46 = .ok (.iinc 3 1, 3) := by decide +kernel
theorem dX10_weights_49 : decode cX10_weights 49 = .ok (.goto (-37), 3) := by decide +kernel
theorem dX10_weights_52 : decode cX10_weights 52 = .ok (.iconst 0, 1) := by decide +kernel
theorem dX10_weights_53 : decode cX10_weights 53 = .ok (.istore_n 3, 1) := by decide +kernel
theorem dX10_weights_54 : decode cX10_weights 54 = .ok (.iload_n 3, 1) := by decide +kernel
theorem dX10_weights_55 : decode cX10_weights 55 = .ok (.iload_n 1, 1) := by decide +kernel
theorem dX10_weights_56 : decode cX10_weights 56 = .ok (.if_icmp .ge 55, 3) := by decide +kernel
theorem dX10_weights_59 : decode cX10_weights 59 = .ok (.iconst 0, 1) := by decide +kernel
theorem dX10_weights_60 : decode cX10_weights 60 = .ok (.istore 4, 2) := by decide +kernel
theorem dX10_weights_62 : decode cX10_weights 62 = .ok (.iload 4, 2) := by decide +kernel
theorem dX10_weights_64 : decode cX10_weights 64 = .ok (.iconst 3, 1) := by decide +kernel
theorem dX10_weights_65 : decode cX10_weights 65 = .ok (.if_icmp .ge 17, 3) := by decide +kernel
theorem dX10_weights_68 : decode cX10_weights 68 = .ok (.aload_n 0, 1) := by decide +kernel
theorem dX10_weights_69 : decode cX10_weights 69 = .ok (.aload_n 2, 1) := by decide +kernel
theorem dX10_weights_70 : decode cX10_weights 70 = .ok (.iload 4, 2) := by decide +kernel
theorem dX10_weights_72 : decode cX10_weights 72 = .ok (.iconst (-1), 1) := by decide +kernel
theorem dX10_weights_73 : decode cX10_weights 73 = .ok (.invokevirtual 223, 3) := by decide +kernel
theorem dX10_weights_76 : decode cX10_weights 76 = .ok (.iinc 4 1, 3) := by decide +kernel
theorem dX10_weights_79 : decode cX10_weights 79 = .ok (.goto (-17), 3) := by decide +kernel
theorem dX10_weights_82 : decode cX10_weights 82 = .ok (.iconst 0, 1) := by decide +kernel
theorem dX10_weights_83 : decode cX10_weights 83 = .ok (.istore 4, 2) := by decide +kernel
theorem dX10_weights_85 : decode cX10_weights 85 = .ok (.iload 4, 2) := by decide +kernel
theorem dX10_weights_87 : decode cX10_weights 87 = .ok (.iconst 2, 1) := by decide +kernel
theorem dX10_weights_88 : decode cX10_weights 88 = .ok (.if_icmp .ge 17, 3) := by decide +kernel
theorem dX10_weights_91 : decode cX10_weights 91 = .ok (.aload_n 0, 1) := by decide +kernel
theorem dX10_weights_92 : decode cX10_weights 92 = .ok (.aload_n 2, 1) := by decide +kernel
theorem dX10_weights_93 : decode cX10_weights 93 = .ok (.iconst (-1), 1) := by decide +kernel
theorem dX10_weights_94 : decode cX10_weights 94 = .ok (.iload 4, 2) := by decide +kernel
theorem dX10_weights_96 : decode cX10_weights 96 = .ok (.invokevirtual 223, 3) := by decide +kernel
theorem dX10_weights_99 : decode cX10_weights 99 = .ok (.iinc 4 1, 3) := by decide +kernel
theorem dX10_weights_102 : decode cX10_weights 102 = .ok (.goto (-17), 3) := by decide +kernel
theorem dX10_weights_105 : decode cX10_weights 105 = .ok (.iinc 3 1, 3) := by decide +kernel
theorem dX10_weights_108 : decode cX10_weights 108 = .ok (.goto (-54), 3) := by decide +kernel
theorem dX10_weights_111 : decode cX10_weights 111 = .ok (.aload_n 2, 1) := by decide +kernel
theorem dX10_weights_112 : decode cX10_weights 112 = .ok (.areturn, 1) := by decide +kernel
theorem dX10_isOf_0 : decode cX10_isOf 0 = .ok (.aload_n 0, 1) := by decide +kernel
theorem dX10_isOf_1 : decode cX10_isOf 1 = .ok (.aload_n 0, 1) := by decide +kernel
theorem dX10_isOf_2 : decode cX10_isOf 2 = .ok (.getfield 19, 3) := by decide +kernel
theorem dX10_isOf_5 : decode cX10_isOf 5 = .ok (.iload_n 1, 1) := by decide +kernel
theorem dX10_isOf_6 : decode cX10_isOf 6 = .ok (.invokevirtual 53, 3) := by decide +kernel
theorem dX10_isOf_9 : decode cX10_isOf 9 = .ok (.checkcast 105, 3) := by decide +kernel
theorem dX10_isOf_12 : decode cX10_isOf 12 = .ok (.invokevirtual 128, 3) := by decide +kernel
theorem dX10_isOf_15 : decode cX10_isOf 15 = .ok (.astore 4, 2) := by decide +kernel
theorem dX10_isOf_17 : decode cX10_isOf 17 = .ok (.iload_n 2, 1) := by decide +kernel
theorem dX10_isOf_18 : decode cX10_isOf 18 = .ok (.iconst (-1), 1) := by decide +kernel
theorem dX10_isOf_19 : decode cX10_isOf 19 = .ok (.if_icmp .eq 12, 3) := by decide +kernel
theorem dX10_isOf_22 : decode cX10_isOf 22 = .ok (.aload 4, 2) := by decide +kernel
theorem dX10_isOf_24 : decode cX10_isOf 24 = .ok (.getfield 132, 3) := by decide +kernel
theorem dX10_isOf_27 : decode cX10_isOf 27 = .ok (.iload_n 2, 1) := by decide +kernel
theorem dX10_isOf_28 : decode cX10_isOf 28 = .ok (.if_icmp .ne 21, 3) := by decide +kernel
theorem dX10_isOf_31 : decode cX10_isOf 31 = .ok (.iload_n 3, 1) := by decide +kernel
theorem dX10_isOf_32 : decode cX10_isOf 32 = .ok (.iconst (-1), 1) := by decide +kernel
theorem dX10_isOf_33 : decode cX10_isOf 33 = .ok (.if_icmp .eq 12, 3) := by decide +kernel
theorem dX10_isOf_36 : decode cX10_isOf 36 = .ok (.aload 4, 2) := by decide +kernel
theorem dX10_isOf_38 : decode cX10_isOf 38 = .ok (.getfield 135, 3) := by decide +kernel
theorem dX10_isOf_41 : decode cX10_isOf 41 = .ok (.iload_n 3, 1) := by decide +kernel
theorem dX10_isOf_42 : decode cX10_isOf 42 = .ok (.if_icmp .ne 7, 3) := by decide +kernel
theorem dX10_isOf_45 : decode cX10_isOf 45 = .ok (.iconst 1, 1) := by decide +kernel
theorem dX10_isOf_46 : decode cX10_isOf 46 = .ok (.goto 4, 3) := by decide +kernel
theorem dX10_isOf_49 : decode cX10_isOf 49 = .ok (.iconst 0, 1) := by decide +kernel
theorem dX10_isOf_50 : decode cX10_isOf 50 = .ok (.ireturn, 1) := by decide +kernel
theorem dX10_margin_0 : decode cX10_margin 0 = .ok (.iconst 0, 1) := by decide +kernel
theorem dX10_margin_1 : decode cX10_margin 1 = .ok (.istore_n 3, 1) := by decide +kernel
theorem dX10_margin_2 : decode cX10_margin 2 = .ok (.iconst 0, 1) := by decide +kernel
theorem dX10_margin_3 : decode cX10_margin 3 = .ok (.istore 4, 2) := by decide +kernel
theorem dX10_margin_5 : decode cX10_margin 5 = .ok (.iload 4, 2) := by decide +kernel
theorem dX10_margin_7 : decode cX10_margin 7 = .ok (.iconst 3, 1) := by decide +kernel
theorem dX10_margin_8 : decode cX10_margin 8 = .ok (.if_icmp .ge 63, 3) := by decide +kernel
theorem dX10_margin_11 : decode cX10_margin 11 = .ok (.iconst 0, 1) := by decide +kernel
theorem dX10_margin_12 : decode cX10_margin 12 = .ok (.istore 5, 2) := by decide +kernel
theorem dX10_margin_14 : decode cX10_margin 14 = .ok (.iload 5, 2) := by decide +kernel
theorem dX10_margin_16 : decode cX10_margin 16 = .ok (.iconst 2, 1) := by decide +kernel
theorem dX10_margin_17 : decode cX10_margin 17 = .ok (.if_icmp .ge 48, 3) := by decide +kernel
theorem dX10_margin_20 : decode cX10_margin 20 = .ok (.iload_n 3, 1) := by decide +kernel
theorem dX10_margin_21 : decode cX10_margin 21 = .ok (.iload_n 1, 1) := by decide +kernel
theorem dX10_margin_22 : decode cX10_margin 22 = .ok (.iconst (-1), 1) := by decide +kernel
theorem dX10_margin_23 : decode cX10_margin 23 = .ok (.if_icmp .eq 9, 3) := by decide +kernel
theorem dX10_margin_26 : decode cX10_margin 26 = .ok (.iload_n 1, 1) := by decide +kernel
theorem dX10_margin_27 : decode cX10_margin 27 = .ok (.iload 4, 2) := by decide +kernel
theorem dX10_margin_29 : decode cX10_margin 29 = .ok (.if_icmp .ne 27, 3) := by decide +kernel
theorem dX10_margin_32 : decode cX10_margin 32 = .ok (.iload_n 2, 1) := by decide +kernel
theorem dX10_margin_33 : decode cX10_margin 33 = .ok (.iconst (-1), 1) := by decide +kernel
theorem dX10_margin_34 : decode cX10_margin 34 = .ok (.if_icmp .eq 9, 3) := by decide +kernel
theorem dX10_margin_37 : decode cX10_margin 37 = .ok (.iload_n 2, 1) := by decide +kernel
theorem dX10_margin_38 : decode cX10_margin 38 = .ok (.iload 5, 2) := by decide +kernel
theorem dX10_margin_40 : decode cX10_margin 40 = .ok (.if_icmp .ne 16, 3) := by decide +kernel
theorem dX10_margin_43 : decode cX10_margin 43 = .ok (.aload_n 0, 1) := by decide +kernel
theorem dX10_margin_44 : decode cX10_margin 44 = .ok (.getfield 24, 3) := by decide +kernel
theorem dX10_margin_47 : decode cX10_margin 47 = .ok (.iload 4, 2) := by decide +kernel
theorem dX10_margin_49 : decode cX10_margin 49 = .ok (.aaload, 1) := by decide +kernel
theorem dX10_margin_50 : decode cX10_margin 50 = .ok (.iload 5, 2) := by decide +kernel
theorem dX10_margin_52 : decode cX10_margin 52 = .ok (.iaload, 1) := by decide +kernel
theorem dX10_margin_53 : decode cX10_margin 53 = .ok (.goto 4, 3) := by decide +kernel
theorem dX10_margin_56 : decode cX10_margin 56 = .ok (.iconst 0, 1) := by decide +kernel
theorem dX10_margin_57 : decode cX10_margin 57 = .ok (.iadd, 1) := by decide +kernel
theorem dX10_margin_58 : decode cX10_margin 58 = .ok (.istore_n 3, 1) := by decide +kernel
theorem dX10_margin_59 : decode cX10_margin 59 = .ok (.iinc 5 1, 3) := by decide +kernel
theorem dX10_margin_62 : decode cX10_margin 62 = .ok (.goto (-48), 3) := by decide +kernel
theorem dX10_margin_65 : decode cX10_margin 65 = .ok (.iinc 4 1, 3) := by decide +kernel
theorem dX10_margin_68 : decode cX10_margin 68 = .ok (.goto (-63), 3) := by decide +kernel
theorem dX10_margin_71 : decode cX10_margin 71 = .ok (.sipush 1000, 3) := by decide +kernel
theorem dX10_margin_74 : decode cX10_margin 74 = .ok (.iload_n 3, 1) := by decide +kernel
theorem dX10_margin_75 : decode cX10_margin 75 = .ok (.imul, 1) := by decide +kernel
theorem dX10_margin_76 : decode cX10_margin 76 = .ok (.ireturn, 1) := by decide +kernel
theorem dX10_sum__0 : decode cX10_sum_ 0 = .ok (.lconst 0, 1) := by decide +kernel
theorem dX10_sum__1 : decode cX10_sum_ 1 = .ok (.lstore 4, 2) := by decide +kernel
theorem dX10_sum__3 : decode cX10_sum_ 3 = .ok (.iconst 0, 1) := by decide +kernel
theorem dX10_sum__4 : decode cX10_sum_ 4 = .ok (.istore 6, 2) := by decide +kernel
theorem dX10_sum__6 : decode cX10_sum_ 6 = .ok (.iload 6, 2) := by decide +kernel
theorem dX10_sum__8 : decode cX10_sum_ 8 = .ok (.aload_n 1, 1) := by decide +kernel
theorem dX10_sum__9 : decode cX10_sum_ 9 = .ok (.arraylength, 1) := by decide +kernel
theorem dX10_sum__10 : decode cX10_sum_ 10 = .ok (.if_icmp .ge 33, 3) := by decide +kernel
theorem dX10_sum__13 : decode cX10_sum_ 13 = .ok (.lload 4, 2) := by decide +kernel
theorem dX10_sum__15 : decode cX10_sum_ 15 = .ok (.aload_n 0, 1) := by decide +kernel
theorem dX10_sum__16 : decode cX10_sum_ 16 = .ok (.iload 6, 2) := by decide +kernel
theorem dX10_sum__18 : decode cX10_sum_ 18 = .ok (.iload_n 2, 1) := by decide +kernel
theorem dX10_sum__19 : decode cX10_sum_ 19 = .ok (.iload_n 3, 1) := by decide +kernel
theorem dX10_sum__20 : decode cX10_sum_ 20 = .ok (.invokevirtual 227, 3) := by decide +kernel
theorem dX10_sum__23 : decode cX10_sum_ 23 = .ok (.ifCond .eq 10, 3) := by decide +kernel
theorem dX10_sum__26 : decode cX10_sum_ 26 = .ok (.aload_n 1, 1) := by decide +kernel
theorem dX10_sum__27 : decode cX10_sum_ 27 = .ok (.iload 6, 2) := by decide +kernel
theorem dX10_sum__29 : decode cX10_sum_ 29 = .ok (.laload, 1) := by decide +kernel
theorem dX10_sum__30 : decode cX10_sum_ 30 = .ok (.goto 4, 3) := by decide +kernel
theorem dX10_sum__33 : decode cX10_sum_ 33 = .ok (.lconst 0, 1) := by decide +kernel
theorem dX10_sum__34 : decode cX10_sum_ 34 = .ok (.ladd, 1) := by decide +kernel
theorem dX10_sum__35 : decode cX10_sum_ 35 = .ok (.lstore 4, 2) := by decide +kernel
theorem dX10_sum__37 : decode cX10_sum_ 37 = .ok (.iinc 6 1, 3) := by decide +kernel
theorem dX10_sum__40 : decode cX10_sum_ 40 = .ok (.goto (-34), 3) := by decide +kernel
theorem dX10_sum__43 : decode cX10_sum_ 43 = .ok (.lload 4, 2) := by decide +kernel
theorem dX10_sum__45 : decode cX10_sum_ 45 = .ok (.lreturn, 1) := by decide +kernel
theorem dX10_rake_0 : decode cX10_rake 0 = .ok (.aload_n 0, 1) := by decide +kernel
theorem dX10_rake_1 : decode cX10_rake 1 = .ok (.aload_n 1, 1) := by decide +kernel
theorem dX10_rake_2 : decode cX10_rake 2 = .ok (.iload_n 2, 1) := by decide +kernel
theorem dX10_rake_3 : decode cX10_rake 3 = .ok (.iload_n 3, 1) := by decide +kernel
theorem dX10_rake_4 : decode cX10_rake 4 = .ok (.invokevirtual 229, 3) := by decide +kernel
theorem dX10_rake_7 : decode cX10_rake 7 = .ok (.lstore 4, 2) := by decide +kernel
theorem dX10_rake_9 : decode cX10_rake 9 = .ok (.iconst 0, 1) := by decide +kernel
theorem dX10_rake_10 : decode cX10_rake 10 = .ok (.istore 6, 2) := by decide +kernel
theorem dX10_rake_12 : decode cX10_rake 12 = .ok (.iload 6, 2) := by decide +kernel
theorem dX10_rake_14 : decode cX10_rake 14 = .ok (.aload_n 1, 1) := by decide +kernel
theorem dX10_rake_15 : decode cX10_rake 15 = .ok (.arraylength, 1) := by decide +kernel
theorem dX10_rake_16 : decode cX10_rake 16 = .ok (.if_icmp .ge 46, 3) := by decide +kernel
theorem dX10_rake_19 : decode cX10_rake 19 = .ok (.lload 4, 2) := by decide +kernel
theorem dX10_rake_21 : decode cX10_rake 21 = .ok (.lconst 0, 1) := by decide +kernel
theorem dX10_rake_22 : decode cX10_rake 22 = .ok (.lcmp, 1) := by decide +kernel
theorem dX10_rake_23 : decode cX10_rake 23 = .ok (.ifCond .le 33, 3) := by decide +kernel
theorem dX10_rake_26 : decode cX10_rake 26 = .ok (.aload_n 0, 1) := by decide +kernel
theorem dX10_rake_27 : decode cX10_rake 27 = .ok (.iload 6, 2) := by decide +kernel
theorem dX10_rake_29 : decode cX10_rake 29 = .ok (.iload_n 2, 1) := by decide +kernel
theorem dX10_rake_30 : decode cX10_rake 30 = .ok (.iload_n 3, 1) := by decide +kernel
theorem dX10_rake_31 : decode cX10_rake 31 = .ok (.invokevirtual 227, 3) := by decide +kernel
theorem dX10_rake_34 : decode cX10_rake 34 = .ok (.ifCond .eq 22, 3) := by decide +kernel
theorem dX10_rake_37 : decode cX10_rake 37 = .ok (.aload_n 1, 1) := by decide +kernel
theorem dX10_rake_38 : decode cX10_rake 38 = .ok (.iload 6, 2) := by decide +kernel
theorem dX10_rake_40 : decode cX10_rake 40 = .ok (.aload_n 1, 1) := by decide +kernel
theorem dX10_rake_41 : decode cX10_rake 41 = .ok (.iload 6, 2) := by decide +kernel
theorem dX10_rake_43 : decode cX10_rake 43 = .ok (.laload, 1) := by decide +kernel
theorem dX10_rake_44 : decode cX10_rake 44 = .ok (.aload_n 0, 1) := by decide +kernel
theorem dX10_rake_45 : decode cX10_rake 45 = .ok (.iload_n 2, 1) := by decide +kernel
theorem dX10_rake_46 : decode cX10_rake 46 = .ok (.iload_n 3, 1) := by decide +kernel
theorem dX10_rake_47 : decode cX10_rake 47 = .ok (.invokevirtual 232, 3) := by decide +kernel
theorem dX10_rake_50 : decode cX10_rake 50 = .ok (.i2l, 1) := by decide +kernel
theorem dX10_rake_51 : decode cX10_rake 51 = .ok (.lmul, 1) := by decide +kernel
theorem dX10_rake_52 : decode cX10_rake 52 = .ok (.lload 4, 2) := by decide +kernel
theorem dX10_rake_54 : decode cX10_rake 54 = .ok (.ldiv, 1) := by decide +kernel
theorem dX10_rake_55 : decode cX10_rake 55 = .ok (.lastore, 1) := by decide +kernel
theorem dX10_rake_56 : decode cX10_rake 56 = .ok (.iinc 6 1, 3) := by decide +kernel
theorem dX10_rake_59 : decode cX10_rake 59 = .ok (.goto (-47), 3) := by decide +kernel
theorem dX10_rake_62 : decode cX10_rake 62 = .ok (.return_, 1) := by decide +kernel
theorem dX10_offNow_0 : decode cX10_offNow 0 = .ok (.aload_n 0, 1) := by decide +kernel
theorem dX10_offNow_1 : decode cX10_offNow 1 = .ok (.iload_n 1, 1) := by decide +kernel
theorem dX10_offNow_2 : decode cX10_offNow 2 = .ok (.invokevirtual 235, 3) := by decide +kernel
theorem dX10_offNow_5 : decode cX10_offNow 5 = .ok (.astore_n 2, 1) := by decide +kernel
theorem dX10_offNow_6 : decode cX10_offNow 6 = .ok (.lconst 0, 1) := by decide +kernel
theorem dX10_offNow_7 : decode cX10_offNow 7 = .ok (.lstore_n 3, 1) := by decide +kernel
theorem dX10_offNow_8 : decode cX10_offNow 8 = .ok (.iconst 0, 1) := by decide +kernel
theorem dX10_offNow_9 : decode cX10_offNow 9 = .ok (.istore 5, 2) := by decide +kernel
theorem dX10_offNow_11 : decode cX10_offNow 11 = .ok (.iload 5, 2) := by decide +kernel
theorem dX10_offNow_13 : decode cX10_offNow 13 = .ok (.iconst 3, 1) := by decide +kernel
theorem dX10_offNow_14 : decode cX10_offNow 14 = .ok (.if_icmp .ge 47, 3) := by decide +kernel
theorem dX10_offNow_17 : decode cX10_offNow 17 = .ok (.aload_n 0, 1) := by decide +kernel
theorem dX10_offNow_18 : decode cX10_offNow 18 = .ok (.aload_n 2, 1) := by decide +kernel
theorem dX10_offNow_19 : decode cX10_offNow 19 = .ok (.iload 5, 2) := by decide +kernel
theorem dX10_offNow_21 : decode cX10_offNow 21 = .ok (.iconst (-1), 1) := by decide +kernel
theorem dX10_offNow_22 : decode cX10_offNow 22 = .ok (.invokevirtual 229, 3) := by decide +kernel
theorem dX10_offNow_25 : decode cX10_offNow 25 = .ok (.lconst 0, 1) := by decide +kernel
theorem dX10_offNow_26 : decode cX10_offNow 26 = .ok (.lcmp, 1) := by decide +kernel
theorem dX10_offNow_27 : decode cX10_offNow 27 = .ok (.ifCond .le 28, 3) := by decide +kernel
theorem dX10_offNow_30 : decode cX10_offNow 30 = .ok (.lload_n 3, 1) := by decide +kernel
theorem dX10_offNow_31 : decode cX10_offNow 31 = .ok (.aload_n 0, 1) := by decide +kernel
theorem dX10_offNow_32 : decode cX10_offNow 32 = .ok (.aload_n 2, 1) := by decide +kernel
theorem dX10_offNow_33 : decode cX10_offNow 33 = .ok (.iload 5, 2) := by decide +kernel
theorem dX10_offNow_35 : decode cX10_offNow 35 = .ok (.iconst (-1), 1) := by decide +kernel
theorem dX10_offNow_36 : decode cX10_offNow 36 = .ok (.invokevirtual 229, 3) := by decide +kernel
theorem dX10_offNow_39 : decode cX10_offNow 39 = .ok (.aload_n 0, 1) := by decide +kernel
theorem dX10_offNow_40 : decode cX10_offNow 40 = .ok (.iload 5, 2) := by decide +kernel
theorem dX10_offNow_42 : decode cX10_offNow 42 = .ok (.iconst (-1), 1) := by decide +kernel
theorem dX10_offNow_43 : decode cX10_offNow 43 = .ok (.invokevirtual 232, 3) := by decide +kernel
theorem dX10_offNow_46 : decode cX10_offNow 46 = .ok (.i2l, 1) := by decide +kernel
theorem dX10_offNow_47 : decode cX10_offNow 47 = .ok (.lsub, 1) := by decide +kernel
theorem dX10_offNow_48 : decode cX10_offNow 48 = .ok (.invokestatic 239, 3) := by decide +kernel
theorem dX10_offNow_51 : decode cX10_offNow 51 = .ok (.invokestatic 243, 3) := by decide +kernel
theorem dX10_offNow_54 : decode cX10_offNow 54 = .ok (.lstore_n 3, 1) := by decide +kernel
theorem dX10_offNow_55 : decode cX10_offNow 55 = .ok (.iinc 5 1, 3) := by decide +kernel
theorem dX10_offNow_58 : decode cX10_offNow 58 = .ok (.goto (-47), 3) := by decide +kernel
theorem dX10_offNow_61 : decode cX10_offNow 61 = .ok (.iconst 0, 1) := by decide +kernel
theorem dX10_offNow_62 : decode cX10_offNow 62 = .ok (.istore 5, 2) := by decide +kernel
theorem dX10_offNow_64 : decode cX10_offNow 64 = .ok (.iload 5, 2) := by decide +kernel
theorem dX10_offNow_66 : decode cX10_offNow 66 = .ok (.iconst 2, 1) := by decide +kernel
theorem dX10_offNow_67 : decode cX10_offNow 67 = .ok (.if_icmp .ge 47, 3) := by decide +kernel
theorem dX10_offNow_70 : decode cX10_offNow 70 = .ok (.aload_n 0, 1) := by decide +kernel
theorem dX10_offNow_71 : decode cX10_offNow 71 = .ok (.aload_n 2, 1) := by decide +kernel
theorem dX10_offNow_72 : decode cX10_offNow 72 = .ok (.iconst (-1), 1) := by decide +kernel
theorem dX10_offNow_73 : decode cX10_offNow 73 = .ok (.iload 5, 2) := by decide +kernel
theorem dX10_offNow_75 : decode cX10_offNow 75 = .ok (.invokevirtual 229, 3) := by decide +kernel
theorem dX10_offNow_78 : decode cX10_offNow 78 = .ok (.lconst 0, 1) := by decide +kernel
theorem dX10_offNow_79 : decode cX10_offNow 79 = .ok (.lcmp, 1) := by decide +kernel
theorem dX10_offNow_80 : decode cX10_offNow 80 = .ok (.ifCond .le 28, 3) := by decide +kernel
theorem dX10_offNow_83 : decode cX10_offNow 83 = .ok (.lload_n 3, 1) := by decide +kernel
theorem dX10_offNow_84 : decode cX10_offNow 84 = .ok (.aload_n 0, 1) := by decide +kernel
theorem dX10_offNow_85 : decode cX10_offNow 85 = .ok (.aload_n 2, 1) := by decide +kernel
theorem dX10_offNow_86 : decode cX10_offNow 86 = .ok (.iconst (-1), 1) := by decide +kernel
theorem dX10_offNow_87 : decode cX10_offNow 87 = .ok (.iload 5, 2) := by decide +kernel
theorem dX10_offNow_89 : decode cX10_offNow 89 = .ok (.invokevirtual 229, 3) := by decide +kernel
theorem dX10_offNow_92 : decode cX10_offNow 92 = .ok (.aload_n 0, 1) := by decide +kernel
theorem dX10_offNow_93 : decode cX10_offNow 93 = .ok (.iconst (-1), 1) := by decide +kernel
theorem dX10_offNow_94 : decode cX10_offNow 94 = .ok (.iload 5, 2) := by decide +kernel
theorem dX10_offNow_96 : decode cX10_offNow 96 = .ok (.invokevirtual 232, 3) := by decide +kernel
theorem dX10_offNow_99 : decode cX10_offNow 99 = .ok (.i2l, 1) := by decide +kernel
theorem dX10_offNow_100 : decode cX10_offNow 100 = .ok (.lsub, 1) := by decide +kernel
theorem dX10_offNow_101 : decode cX10_offNow 101 = .ok (.invokestatic 239, 3) := by decide +kernel
theorem dX10_offNow_104 : decode cX10_offNow 104 = .ok (.invokestatic 243, 3) := by decide +kernel
theorem dX10_offNow_107 : decode cX10_offNow 107 = .ok (.lstore_n 3, 1) := by decide +kernel
theorem dX10_offNow_108 : decode cX10_offNow 108 = .ok (.iinc 5 1, 3) := by decide +kernel
theorem dX10_offNow_111 : decode cX10_offNow 111 = .ok (.goto (-47), 3) := by decide +kernel
theorem dX10_offNow_114 : decode cX10_offNow 114 = .ok (.lload_n 3, 1) := by decide +kernel
theorem dX10_offNow_115 : decode cX10_offNow 115 = .ok (.l2i, 1) := by decide +kernel
theorem dX10_offNow_116 : decode cX10_offNow 116 = .ok (.ireturn, 1) := by decide +kernel
theorem dX10_shareNow_0 : decode cX10_shareNow 0 = .ok (.lconst 0, 1) := by decide +kernel
theorem dX10_shareNow_1 : decode cX10_shareNow 1 = .ok (.lstore 5, 2) := by decide +kernel
theorem dX10_shareNow_3 : decode cX10_shareNow 3 = .ok (.lconst 0, 1) := by decide +kernel
theorem dX10_shareNow_4 : decode cX10_shareNow 4 = .ok (.lstore 7, 2) := by decide +kernel
theorem dX10_shareNow_6 : decode cX10_shareNow 6 = .ok (.iconst 0, 1) := by decide +kernel
theorem dX10_shareNow_7 : decode cX10_shareNow 7 = .ok (.istore 9, 2) := by decide +kernel
theorem dX10_shareNow_9 : decode cX10_shareNow 9 = .ok (.iload 9, 2) := by decide +kernel
theorem dX10_shareNow_11 : decode cX10_shareNow 11 = .ok (.aload_n 1, 1) := by decide +kernel
theorem dX10_shareNow_12 : decode cX10_shareNow 12 = .ok (.arraylength, 1) := by decide +kernel
theorem dX10_shareNow_13 : decode cX10_shareNow 13 = .ok (.if_icmp .ge 77, 3) := by decide +kernel
theorem dX10_shareNow_16 : decode cX10_shareNow 16 = .ok (.aload_n 0, 1) := by decide +kernel
theorem dX10_shareNow_17 : decode cX10_shareNow 17 = .ok (.getfield 19, 3) := by decide +kernel
theorem dX10_shareNow_20 : decode cX10_shareNow 20 = .ok (.iload 9, 2) := by decide +kernel
theorem dX10_shareNow_22 : decode cX10_shareNow 22 = .ok (.invokevirtual 53, 3) := by decide +kernel
theorem dX10_shareNow_25 : decode cX10_shareNow 25 = .ok (.checkcast 105, 3) := by decide +kernel
theorem dX10_shareNow_28 : decode cX10_shareNow 28 = .ok (.getfield 211, 3) := by decide +kernel
theorem dX10_shareNow_31 : decode cX10_shareNow 31 = .ok (.iload_n 2, 1) := by decide +kernel
theorem dX10_shareNow_32 : decode cX10_shareNow 32 = .ok (.iaload, 1) := by decide +kernel
theorem dX10_shareNow_33 : decode cX10_shareNow 33 = .ok (.istore 10, 2) := by decide +kernel
theorem dX10_shareNow_35 : decode cX10_shareNow 35 = .ok (.iload 10, 2) := by decide +kernel
theorem dX10_shareNow_37 : decode cX10_shareNow 37 = .ok (.iconst (-1), 1) := by decide +kernel
theorem dX10_shareNow_38 : decode cX10_shareNow 38 = .ok (.if_icmp .eq 46, 3) := by decide +kernel
theorem dX10_shareNow_41 : decode cX10_shareNow 41 = .ok (.aload_n 0, 1) := by decide +kernel
theorem dX10_shareNow_42 : decode cX10_shareNow 42 = .ok (.iload 9, 2) := by decide +kernel
theorem dX10_shareNow_44 : decode cX10_shareNow 44 = .ok (.iload 4, 2) := by decide +kernel
theorem dX10_shareNow_46 : decode cX10_shareNow 46 = .ok (.iconst (-1), 1) := by decide +kernel
theorem dX10_shareNow_47 : decode cX10_shareNow 47 = .ok (.invokevirtual 227, 3) := by decide +kernel
theorem dX10_shareNow_50 : decode cX10_shareNow 50 = .ok (.ifCond .ne 6, 3) := by decide +kernel
theorem dX10_shareNow_53 : decode cX10_shareNow 53 = .ok (.goto 31, 3) := by decide +kernel
theorem dX10_shareNow_56 : decode cX10_shareNow 56 = .ok (.lload 5, 2) := by decide +kernel
theorem dX10_shareNow_58 : decode cX10_shareNow 58 = .ok (.aload_n 1, 1) := by decide +kernel
theorem dX10_shareNow_59 : decode cX10_shareNow 59 = .ok (.iload 9, 2) := by decide +kernel
theorem dX10_shareNow_61 : decode cX10_shareNow 61 = .ok (.laload, 1) := by decide +kernel
theorem dX10_shareNow_62 : decode cX10_shareNow 62 = .ok (.ladd, 1) := by decide +kernel
theorem dX10_shareNow_63 : decode cX10_shareNow 63 = .ok (.lstore 5, 2) := by decide +kernel
theorem dX10_shareNow_65 : decode cX10_shareNow 65 = .ok (.lload 7, 2) := by decide +kernel
theorem dX10_shareNow_67 : decode cX10_shareNow 67 = .ok (.iload 10, 2) := by decide +kernel
theorem dX10_shareNow_69 : decode cX10_shareNow 69 = .ok (.iload_n 3, 1) := by decide +kernel
theorem dX10_shareNow_70 : decode cX10_shareNow 70 = .ok (.if_icmp .ne 10, 3) := by decide +kernel
theorem dX10_shareNow_73 : decode cX10_shareNow 73 = .ok (.aload_n 1, 1) := by decide +kernel
theorem dX10_shareNow_74 : decode cX10_shareNow 74 = .ok (.iload 9, 2) := by decide +kernel
theorem dX10_shareNow_76 : decode cX10_shareNow 76 = .ok (.laload, 1) := by decide +kernel
theorem dX10_shareNow_77 : decode cX10_shareNow 77 = .ok (.goto 4, 3) := by decide +kernel
theorem dX10_shareNow_80 : decode cX10_shareNow 80 = .ok (.lconst 0, 1) := by decide +kernel
theorem dX10_shareNow_81 : decode cX10_shareNow 81 = .ok (.ladd, 1) := by decide +kernel
theorem dX10_shareNow_82 : decode cX10_shareNow 82 = .ok (.lstore 7, 2) := by decide +kernel
theorem dX10_shareNow_84 : decode cX10_shareNow 84 = .ok (.iinc 9 1, 3) := by decide +kernel
theorem dX10_shareNow_87 : decode cX10_shareNow 87 = .ok (.goto (-78), 3) := by decide +kernel
theorem dX10_shareNow_90 : decode cX10_shareNow 90 = .ok (.lload 5, 2) := by decide +kernel
theorem dX10_shareNow_92 : decode cX10_shareNow 92 = .ok (.lconst 0, 1) := by decide +kernel
theorem dX10_shareNow_93 : decode cX10_shareNow 93 = .ok (.lcmp, 1) := by decide +kernel
theorem dX10_shareNow_94 : decode cX10_shareNow 94 = .ok (.ifCond .ne 7, 3) := by decide +kernel
theorem dX10_shareNow_97 : decode cX10_shareNow 97 = .ok (.iconst (-1), 1) := by decide +kernel
theorem dX10_shareNow_98 : decode cX10_shareNow 98 = .ok (.goto 13, 3) := by decide +kernel
theorem dX10_shareNow_101 : decode cX10_shareNow 101 = .ok (.ldc2_w 246, 3) := by decide +kernel
theorem dX10_shareNow_104 : decode cX10_shareNow 104 = .ok (.lload 7, 2) := by decide +kernel
theorem dX10_shareNow_106 : decode cX10_shareNow 106 = .ok (.lmul, 1) := by decide +kernel
theorem dX10_shareNow_107 : decode cX10_shareNow 107 = .ok (.lload 5, 2) := by decide +kernel
theorem dX10_shareNow_109 : decode cX10_shareNow 109 = .ok (.ldiv, 1) := by decide +kernel
theorem dX10_shareNow_110 : decode cX10_shareNow 110 = .ok (.l2i, 1) := by decide +kernel
theorem dX10_shareNow_111 : decode cX10_shareNow 111 = .ok (.ireturn, 1) := by decide +kernel
theorem dX10_ofInterviewNow_0 : decode cX10_ofInterviewNow 0 = .ok (.bipush 7, 2) := by decide +kernel
theorem dX10_ofInterviewNow_2 : decode cX10_ofInterviewNow 2 = .ok (.newarray .int, 2) := by decide +kernel
theorem dX10_ofInterviewNow_4 : decode cX10_ofInterviewNow 4 = .ok (.dup, 1) := by decide +kernel
theorem dX10_ofInterviewNow_5 : decode cX10_ofInterviewNow 5 = .ok (.iconst 0, 1) := by decide +kernel
theorem dX10_ofInterviewNow_6 : decode cX10_ofInterviewNow 6 = .ok (.aload_n 0, 1) := by decide +kernel
theorem dX10_ofInterviewNow_7 : decode cX10_ofInterviewNow 7 = .ok (.getfield 104, 3) := by decide +kernel
theorem dX10_ofInterviewNow_10 : decode cX10_ofInterviewNow 10 = .ok (.iastore, 1) := by decide +kernel
theorem dX10_ofInterviewNow_11 : decode cX10_ofInterviewNow 11 = .ok (.dup, 1) := by decide +kernel
theorem dX10_ofInterviewNow_12 : decode cX10_ofInterviewNow 12 = .ok (.iconst 1, 1) := by decide +kernel
theorem dX10_ofInterviewNow_13 : decode cX10_ofInterviewNow 13 = .ok (.aload_n 0, 1) := by decide +kernel
theorem dX10_ofInterviewNow_14 : decode cX10_ofInterviewNow 14 = .ok (.getfield 122, 3) := by decide +kernel
theorem dX10_ofInterviewNow_17 : decode cX10_ofInterviewNow 17 = .ok (.iastore, 1) := by decide +kernel
theorem dX10_ofInterviewNow_18 : decode cX10_ofInterviewNow 18 = .ok (.dup, 1) := by decide +kernel
theorem dX10_ofInterviewNow_19 : decode cX10_ofInterviewNow 19 = .ok (.iconst 2, 1) := by decide +kernel
theorem dX10_ofInterviewNow_20 : decode cX10_ofInterviewNow 20 = .ok (.aload_n 0, 1) := by decide +kernel
theorem dX10_ofInterviewNow_21 : decode cX10_ofInterviewNow 21 = .ok (.getfield 205, 3) := by decide +kernel
theorem dX10_ofInterviewNow_24 : decode cX10_ofInterviewNow 24 = .ok (.iastore, 1) := by decide +kernel
theorem dX10_ofInterviewNow_25 : decode cX10_ofInterviewNow 25 = .ok (.dup, 1) := by decide +kernel
theorem dX10_ofInterviewNow_26 : decode cX10_ofInterviewNow 26 = .ok (.iconst 3, 1) := by decide +kernel
theorem dX10_ofInterviewNow_27 : decode cX10_ofInterviewNow 27 = .ok (.aload_n 0, 1) := by decide +kernel
theorem dX10_ofInterviewNow_28 : decode cX10_ofInterviewNow 28 = .ok (.getfield 202, 3) := by decide +kernel
theorem dX10_ofInterviewNow_31 : decode cX10_ofInterviewNow 31 = .ok (.iastore, 1) := by decide +kernel
theorem dX10_ofInterviewNow_32 : decode cX10_ofInterviewNow 32 = .ok (.dup, 1) := by decide +kernel
theorem dX10_ofInterviewNow_33 : decode cX10_ofInterviewNow 33 = .ok (.iconst 4, 1) := by decide +kernel
theorem dX10_ofInterviewNow_34 : decode cX10_ofInterviewNow 34 = .ok (.aload_n 0, 1) := by decide +kernel
theorem dX10_ofInterviewNow_35 : decode cX10_ofInterviewNow 35 = .ok (.getfield 218, 3) := by decide +kernel
theorem dX10_ofInterviewNow_38 : decode cX10_ofInterviewNow 38 = .ok (.iastore, 1) := by decide +kernel
theorem dX10_ofInterviewNow_39 : decode cX10_ofInterviewNow 39 = .ok (.dup, 1) := by decide +kernel
theorem dX10_ofInterviewNow_40 : decode cX10_ofInterviewNow 40 = .ok (.iconst 5, 1) := by decide +kernel
theorem dX10_ofInterviewNow_41 : decode cX10_ofInterviewNow 41 = .ok (.aload_n 1, 1) := by decide +kernel
theorem dX10_ofInterviewNow_42 : decode cX10_ofInterviewNow 42 = .ok (.aload_n 0, 1) := by decide +kernel
theorem dX10_ofInterviewNow_43 : decode cX10_ofInterviewNow 43 = .ok (.getfield 166, 3) := by decide +kernel
theorem dX10_ofInterviewNow_46 : decode cX10_ofInterviewNow 46 = .ok (.laload, 1) := by decide +kernel
theorem dX10_ofInterviewNow_47 : decode cX10_ofInterviewNow 47 = .ok (.l2i, 1) := by decide +kernel
theorem dX10_ofInterviewNow_48 : decode cX10_ofInterviewNow 48 = .ok (.iastore, 1) := by decide +kernel
theorem dX10_ofInterviewNow_49 : decode cX10_ofInterviewNow 49 = .ok (.dup, 1) := by decide +kernel
theorem dX10_ofInterviewNow_50 : decode cX10_ofInterviewNow 50 = .ok (.bipush 6, 2) := by decide +kernel
theorem dX10_ofInterviewNow_52 : decode cX10_ofInterviewNow 52 = .ok (.aload_n 0, 1) := by decide +kernel
theorem dX10_ofInterviewNow_53 : decode cX10_ofInterviewNow 53 = .ok (.invokevirtual 125, 3) := by decide +kernel
theorem dX10_ofInterviewNow_56 : decode cX10_ofInterviewNow 56 = .ok (.ifCond .eq 7, 3) := by decide +kernel
theorem dX10_ofInterviewNow_59 : decode cX10_ofInterviewNow 59 = .ok (.iconst 1, 1) := by decide +kernel
theorem dX10_ofInterviewNow_60 : decode cX10_ofInterviewNow 60 = .ok (.goto 4, 3) := by decide +kernel
theorem dX10_ofInterviewNow_63 : decode cX10_ofInterviewNow 63 = .ok (.iconst 0, 1) := by decide +kernel
theorem dX10_ofInterviewNow_64 : decode cX10_ofInterviewNow 64 = .ok (.iastore, 1) := by decide +kernel
theorem dX10_ofInterviewNow_65 : decode cX10_ofInterviewNow 65 = .ok (.astore_n 3, 1) := by decide +kernel
theorem dX10_ofInterviewNow_66 : decode cX10_ofInterviewNow 66 = .ok (.aload_n 3, 1) := by decide +kernel
theorem dX10_ofInterviewNow_67 : decode cX10_ofInterviewNow 67 = .ok (.iload_n 2, 1) := by decide +kernel
theorem dX10_ofInterviewNow_68 : decode cX10_ofInterviewNow 68 = .ok (.iaload, 1) := by decide +kernel
theorem dX10_ofInterviewNow_69 : decode cX10_ofInterviewNow 69 = .ok (.ireturn, 1) := by decide +kernel
theorem dX10_ofInterview_0 : decode cX10_ofInterview 0 = .ok (.aload_n 0, 1) := by decide +kernel
theorem dX10_ofInterview_1 : decode cX10_ofInterview 1 = .ok (.iload_n 1, 1) := by decide +kernel
theorem dX10_ofInterview_2 : decode cX10_ofInterview 2 = .ok (.invokevirtual 208, 3) := by decide +kernel
theorem dX10_ofInterview_5 : decode cX10_ofInterview 5 = .ok (.ifCond .ne 26, 3) := by decide +kernel
theorem dX10_ofInterview_8 : decode cX10_ofInterview 8 = .ok (.aload_n 0, 1) := by decide +kernel
theorem dX10_ofInterview_9 : decode cX10_ofInterview 9 = .ok (.iload_n 2, 1) := by decide +kernel
theorem dX10_ofInterview_10 : decode cX10_ofInterview 10 = .ok (.iconst 0, 1) := by decide +kernel
theorem dX10_ofInterview_11 : decode cX10_ofInterview 11 = .ok (.bipush 6, 2) := by decide +kernel
theorem dX10_ofInterview_13 : decode cX10_ofInterview 13 = .ok (.invokestatic 45, 3) := by decide +kernel
theorem dX10_ofInterview_16 : decode cX10_ofInterview 16 = .ok (.ifCond .ne 7, 3) := by decide +kernel
theorem dX10_ofInterview_19 : decode cX10_ofInterview 19 = .ok (.iconst 1, 1) := by decide +kernel
theorem dX10_ofInterview_20 : decode cX10_ofInterview 20 = .ok (.goto 4, 3) := by decide +kernel
theorem dX10_ofInterview_23 : decode cX10_ofInterview 23 = .ok (.iconst 0, 1) := by decide +kernel
theorem dX10_ofInterview_24 : decode cX10_ofInterview 24 = .ok (.iconst 2, 1) := by decide +kernel
theorem dX10_ofInterview_25 : decode cX10_ofInterview 25 = .ok (.invokevirtual 37, 3) := by decide +kernel
theorem dX10_ofInterview_28 : decode cX10_ofInterview 28 = .ok (.ifCond .eq 7, 3) := by decide +kernel
theorem dX10_ofInterview_31 : decode cX10_ofInterview 31 = .ok (.iconst 0, 1) := by decide +kernel
theorem dX10_ofInterview_32 : decode cX10_ofInterview 32 = .ok (.goto 26, 3) := by decide +kernel
theorem dX10_ofInterview_35 : decode cX10_ofInterview 35 = .ok (.aload_n 0, 1) := by decide +kernel
theorem dX10_ofInterview_36 : decode cX10_ofInterview 36 = .ok (.getfield 19, 3) := by decide +kernel
theorem dX10_ofInterview_39 : decode cX10_ofInterview 39 = .ok (.iload_n 1, 1) := by decide +kernel
theorem dX10_ofInterview_40 : decode cX10_ofInterview 40 = .ok (.invokevirtual 53, 3) := by decide +kernel
theorem dX10_ofInterview_43 : decode cX10_ofInterview 43 = .ok (.checkcast 105, 3) := by decide +kernel
theorem dX10_ofInterview_46 : decode cX10_ofInterview 46 = .ok (.aload_n 0, 1) := by decide +kernel
theorem dX10_ofInterview_47 : decode cX10_ofInterview 47 = .ok (.aload_n 0, 1) := by decide +kernel
theorem dX10_ofInterview_48 : decode cX10_ofInterview 48 = .ok (.getfield 30, 3) := by decide +kernel
theorem dX10_ofInterview_51 : decode cX10_ofInterview 51 = .ok (.invokevirtual 235, 3) := by decide +kernel
theorem dX10_ofInterview_54 : decode cX10_ofInterview 54 = .ok (.iload_n 2, 1) := by decide +kernel
theorem dX10_ofInterview_55 : decode cX10_ofInterview 55 = .ok (.invokestatic 248, 3) := by decide +kernel
theorem dX10_ofInterview_58 : decode cX10_ofInterview 58 = .ok (.ireturn, 1) := by decide +kernel
theorem dX10_given_0 : decode cX10_given 0 = .ok (.aload_n 0, 1) := by decide +kernel
theorem dX10_given_1 : decode cX10_given 1 = .ok (.iload_n 1, 1) := by decide +kernel
theorem dX10_given_2 : decode cX10_given 2 = .ok (.invokevirtual 208, 3) := by decide +kernel
theorem dX10_given_5 : decode cX10_given 5 = .ok (.ifCond .ne 16, 3) := by decide +kernel
theorem dX10_given_8 : decode cX10_given 8 = .ok (.aload_n 0, 1) := by decide +kernel
theorem dX10_given_9 : decode cX10_given 9 = .ok (.aload_n 0, 1) := by decide +kernel
theorem dX10_given_10 : decode cX10_given 10 = .ok (.iload_n 2, 1) := by decide +kernel
theorem dX10_given_11 : decode cX10_given 11 = .ok (.invokevirtual 49, 3) := by decide +kernel
theorem dX10_given_14 : decode cX10_given 14 = .ok (.iconst 1, 1) := by decide +kernel
theorem dX10_given_15 : decode cX10_given 15 = .ok (.invokevirtual 37, 3) := by decide +kernel
theorem dX10_given_18 : decode cX10_given 18 = .ok (.ifCond .eq 7, 3) := by decide +kernel
theorem dX10_given_21 : decode cX10_given 21 = .ok (.iconst 0, 1) := by decide +kernel
theorem dX10_given_22 : decode cX10_given 22 = .ok (.goto 19, 3) := by decide +kernel
theorem dX10_given_25 : decode cX10_given 25 = .ok (.aload_n 0, 1) := by decide +kernel
theorem dX10_given_26 : decode cX10_given 26 = .ok (.getfield 19, 3) := by decide +kernel
theorem dX10_given_29 : decode cX10_given 29 = .ok (.iload_n 1, 1) := by decide +kernel
theorem dX10_given_30 : decode cX10_given 30 = .ok (.invokevirtual 53, 3) := by decide +kernel
theorem dX10_given_33 : decode cX10_given 33 = .ok (.checkcast 105, 3) := by decide +kernel
theorem dX10_given_36 : decode cX10_given 36 = .ok (.getfield 211, 3) := by decide +kernel
theorem dX10_given_39 : decode cX10_given 39 = .ok (.iload_n 2, 1) := by decide +kernel
theorem dX10_given_40 : decode cX10_given 40 = .ok (.iaload, 1) := by decide +kernel
theorem dX10_given_41 : decode cX10_given 41 = .ok (.ireturn, 1) := by decide +kernel
theorem dX10_dirty_0 : decode cX10_dirty 0 = .ok (.iconst 0, 1) := by decide +kernel
theorem dX10_dirty_1 : decode cX10_dirty 1 = .ok (.istore_n 1, 1) := by decide +kernel
theorem dX10_dirty_2 : decode cX10_dirty 2 = .ok (.aload_n 0, 1) := by decide +kernel
theorem dX10_dirty_3 : decode cX10_dirty 3 = .ok (.getfield 19, 3) := by decide +kernel
theorem dX10_dirty_6 : decode cX10_dirty 6 = .ok (.invokevirtual 109, 3) := by decide +kernel
theorem dX10_dirty_9 : decode cX10_dirty 9 = .ok (.astore_n 2, 1) := by decide +kernel
theorem dX10_dirty_10 : decode cX10_dirty 10 = .ok (.aload_n 2, 1) := by decide +kernel
theorem dX10_dirty_11 : decode cX10_dirty 11 = .ok (.invokeinterface 113 1, 5) := by decide +kernel
theorem dX10_dirty_16 : decode cX10_dirty 16 = .ok (.ifCond .eq 31, 3) := by decide +kernel
theorem dX10_dirty_19 : decode cX10_dirty 19 = .ok (.aload_n 2, 1) := by decide +kernel
theorem dX10_dirty_20 : decode cX10_dirty 20 = .ok (.invokeinterface 118 1, 5) := by decide +kernel
theorem dX10_dirty_25 : decode cX10_dirty 25 = .ok (.checkcast 105, 3) := by decide +kernel
theorem dX10_dirty_28 : decode cX10_dirty 28 = .ok (.astore_n 3, 1) := by decide +kernel
theorem dX10_dirty_29 : decode cX10_dirty 29 = .ok (.iload_n 1, 1) := by decide +kernel
theorem dX10_dirty_30 : decode cX10_dirty 30 = .ok (.aload_n 3, 1) := by decide +kernel
theorem dX10_dirty_31 : decode cX10_dirty 31 = .ok (.invokevirtual 125, 3) := by decide +kernel
theorem dX10_dirty_34 : decode cX10_dirty 34 = .ok (.ifCond .eq 7, 3) := by decide +kernel
theorem dX10_dirty_37 : decode cX10_dirty 37 = .ok (.iconst 1, 1) := by decide +kernel
theorem dX10_dirty_38 : decode cX10_dirty 38 = .ok (.goto 4, 3) := by decide +kernel
theorem dX10_dirty_41 : decode cX10_dirty 41 = .ok (.iconst 0, 1) := by decide +kernel
theorem dX10_dirty_42 : decode cX10_dirty 42 = .ok (.iadd, 1) := by decide +kernel
theorem dX10_dirty_43 : decode cX10_dirty 43 = .ok (.istore_n 1, 1) := by decide +kernel
theorem dX10_dirty_44 : decode cX10_dirty 44 = .ok (.goto (-34), 3) := by decide +kernel
theorem dX10_dirty_47 : decode cX10_dirty 47 = .ok (.iload_n 1, 1) := by decide +kernel
theorem dX10_dirty_48 : decode cX10_dirty 48 = .ok (.ireturn, 1) := by decide +kernel
theorem dX10_clean_0 : decode cX10_clean 0 = .ok (.aload_n 0, 1) := by decide +kernel
theorem dX10_clean_1 : decode cX10_clean 1 = .ok (.iconst 0, 1) := by decide +kernel
theorem dX10_clean_2 : decode cX10_clean 2 = .ok (.putfield 34, 3) := by decide +kernel
theorem dX10_clean_5 : decode cX10_clean 5 = .ok (.aload_n 0, 1) := by decide +kernel
theorem dX10_clean_6 : decode cX10_clean 6 = .ok (.invokevirtual 252, 3) := by decide +kernel
theorem dX10_clean_9 : decode cX10_clean 9 = .ok (.istore_n 1, 1) := by decide +kernel
theorem dX10_clean_10 : decode cX10_clean 10 = .ok (.aload_n 0, 1) := by decide +kernel
theorem dX10_clean_11 : decode cX10_clean 11 = .ok (.getfield 19, 3) := by decide +kernel
theorem dX10_clean_14 : decode cX10_clean 14 = .ok (.invokevirtual 109, 3) := by decide +kernel
theorem dX10_clean_17 : decode cX10_clean 17 = .ok (.astore_n 2, 1) := by decide +kernel
theorem dX10_clean_18 : decode cX10_clean 18 = .ok (.aload_n 2, 1) := by decide +kernel
theorem dX10_clean_19 : decode cX10_clean 19 = .ok (.invokeinterface 113 1, 5) := by decide +kernel
theorem dX10_clean_24 : decode cX10_clean 24 = .ok (.ifCond .eq 46, 3) := by decide +kernel
theorem dX10_clean_27 : decode cX10_clean 27 = .ok (.aload_n 2, 1) := by decide +kernel
theorem dX10_clean_28 : decode cX10_clean 28 = .ok (.invokeinterface 118 1, 5) := by decide +kernel
theorem dX10_clean_33 : decode cX10_clean 33 = .ok (.checkcast 105, 3) := by decide +kernel
theorem dX10_clean_36 : decode cX10_clean 36 = .ok (.astore_n 3, 1) := by decide +kernel
theorem dX10_clean_37 : decode cX10_clean 37 = .ok (.aload_n 3, 1) := by decide +kernel
theorem dX10_clean_38 : decode cX10_clean 38 = .ok (.invokevirtual 125, 3) := by decide +kernel
theorem dX10_clean_41 : decode cX10_clean 41 = .ok (.ifCond .ne 6, 3) := by decide +kernel
theorem dX10_clean_44 : decode cX10_clean 44 = .ok (.goto (-26), 3) := by decide +kernel
theorem dX10_clean_47 : decode cX10_clean 47 = .ok (.aload_n 3, 1) := by decide +kernel
theorem dX10_clean_48 : decode cX10_clean 48 = .ok (.iconst 3, 1) := by decide +kernel
theorem dX10_clean_49 : decode cX10_clean 49 = .ok (.putfield 122, 3) := by decide +kernel
theorem dX10_clean_52 : decode cX10_clean 52 = .ok (.aload_n 0, 1) := by decide +kernel
theorem dX10_clean_53 : decode cX10_clean 53 = .ok (.aload_n 3, 1) := by decide +kernel
theorem dX10_clean_54 : decode cX10_clean 54 = .ok (.invokevirtual 128, 3) := by decide +kernel
theorem dX10_clean_57 : decode cX10_clean 57 = .ok (.dup, 1) := by decide +kernel
theorem dX10_clean_58 : decode cX10_clean 58 = .ok (.getfield 169, 3) := by decide +kernel
theorem dX10_clean_61 : decode cX10_clean 61 = .ok (.bipush 10, 2) := by decide +kernel
theorem dX10_clean_63 : decode cX10_clean 63 = .ok (.isub, 1) := by decide +kernel
theorem dX10_clean_64 : decode cX10_clean 64 = .ok (.putfield 169, 3) := by decide +kernel
theorem dX10_clean_67 : decode cX10_clean 67 = .ok (.goto (-49), 3) := by decide +kernel
theorem dX10_clean_70 : decode cX10_clean 70 = .ok (.iload_n 1, 1) := by decide +kernel
theorem dX10_clean_71 : decode cX10_clean 71 = .ok (.ireturn, 1) := by decide +kernel
theorem dX10_in_0 : decode cX10_in 0 = .ok (.iconst 0, 1) := by decide +kernel
theorem dX10_in_1 : decode cX10_in 1 = .ok (.istore_n 2, 1) := by decide +kernel
theorem dX10_in_2 : decode cX10_in 2 = .ok (.aload_n 0, 1) := by decide +kernel
theorem dX10_in_3 : decode cX10_in 3 = .ok (.getfield 19, 3) := by decide +kernel
theorem dX10_in_6 : decode cX10_in 6 = .ok (.invokevirtual 109, 3) := by decide +kernel
theorem dX10_in_9 : decode cX10_in 9 = .ok (.astore_n 3, 1) := by decide +kernel
theorem dX10_in_10 : decode cX10_in 10 = .ok (.aload_n 3, 1) := by decide +kernel
theorem dX10_in_11 : decode cX10_in 11 = .ok (.invokeinterface 113 1, 5) := by decide +kernel
theorem dX10_in_16 : decode cX10_in 16 = .ok (.ifCond .eq 34, 3) := by decide +kernel
theorem dX10_in_19 : decode cX10_in 19 = .ok (.aload_n 3, 1) := by decide +kernel
theorem dX10_in_20 : decode cX10_in 20 = .ok (.invokeinterface 118 1, 5) := by decide +kernel
theorem dX10_in_25 : decode cX10_in 25 = .ok (.checkcast 105, 3) := by decide +kernel
theorem dX10_in_28 : decode cX10_in 28 = .ok (.astore 4, 2) := by decide +kernel
theorem dX10_in_30 : decode cX10_in 30 = .ok (.iload_n 2, 1) := by decide +kernel
theorem dX10_in_31 : decode cX10_in 31 = .ok (.aload 4, 2) := by decide +kernel
theorem dX10_in_33 : decode cX10_in 33 = .ok (.getfield 122, 3) := by decide +kernel
theorem dX10_in_36 : decode cX10_in 36 = .ok (.iload_n 1, 1) := by decide +kernel
theorem dX10_in_37 : decode cX10_in 37 = .ok (.if_icmp .ne 7, 3) := by decide +kernel
theorem dX10_in_40 : decode cX10_in 40 = .ok (.iconst 1, 1) := by decide +kernel
theorem dX10_in_41 : decode cX10_in 41 = .ok (.goto 4, 3) := by decide +kernel
theorem dX10_in_44 : decode cX10_in 44 = .ok (.iconst 0, 1) := by decide +kernel
theorem dX10_in_45 : decode cX10_in 45 = .ok (.iadd, 1) := by decide +kernel
theorem dX10_in_46 : decode cX10_in 46 = .ok (.istore_n 2, 1) := by decide +kernel
theorem dX10_in_47 : decode cX10_in 47 = .ok (.goto (-37), 3) := by decide +kernel
theorem dX10_in_50 : decode cX10_in 50 = .ok (.iload_n 2, 1) := by decide +kernel
theorem dX10_in_51 : decode cX10_in 51 = .ok (.ireturn, 1) := by decide +kernel
theorem dX10_open_0 : decode cX10_open 0 = .ok (.iconst 0, 1) := by decide +kernel
theorem dX10_open_1 : decode cX10_open 1 = .ok (.istore_n 2, 1) := by decide +kernel
theorem dX10_open_2 : decode cX10_open 2 = .ok (.iconst 0, 1) := by decide +kernel
theorem dX10_open_3 : decode cX10_open 3 = .ok (.istore_n 3, 1) := by decide +kernel
theorem dX10_open_4 : decode cX10_open 4 = .ok (.iload_n 3, 1) := by decide +kernel
theorem dX10_open_5 : decode cX10_open 5 = .ok (.iconst 3, 1) := by decide +kernel
theorem dX10_open_6 : decode cX10_open 6 = .ok (.if_icmp .ge 43, 3) := by decide +kernel
theorem dX10_open_9 : decode cX10_open 9 = .ok (.iconst 0, 1) := by decide +kernel
theorem dX10_open_10 : decode cX10_open 10 = .ok (.istore 4, 2) := by decide +kernel
theorem dX10_open_12 : decode cX10_open 12 = .ok (.iload 4, 2) := by decide +kernel
theorem dX10_open_14 : decode cX10_open 14 = .ok (.iconst 2, 1) := by decide +kernel
theorem dX10_open_15 : decode cX10_open 15 = .ok (.if_icmp .ge 28, 3) := by decide +kernel
theorem dX10_open_18 : decode cX10_open 18 = .ok (.iload_n 2, 1) := by decide +kernel
theorem dX10_open_19 : decode cX10_open 19 = .ok (.aload_n 0, 1) := by decide +kernel
theorem dX10_open_20 : decode cX10_open 20 = .ok (.aload_n 1, 1) := by decide +kernel
theorem dX10_open_21 : decode cX10_open 21 = .ok (.iload_n 3, 1) := by decide +kernel
theorem dX10_open_22 : decode cX10_open 22 = .ok (.iload 4, 2) := by decide +kernel
theorem dX10_open_24 : decode cX10_open 24 = .ok (.invokevirtual 152, 3) := by decide +kernel
theorem dX10_open_27 : decode cX10_open 27 = .ok (.ifCond .eq 7, 3) := by decide +kernel
theorem dX10_open_30 : decode cX10_open 30 = .ok (.iconst 1, 1) := by decide +kernel
theorem dX10_open_31 : decode cX10_open 31 = .ok (.goto 4, 3) := by decide +kernel
theorem dX10_open_34 : decode cX10_open 34 = .ok (.iconst 0, 1) := by decide +kernel
theorem dX10_open_35 : decode cX10_open 35 = .ok (.iadd, 1) := by decide +kernel
theorem dX10_open_36 : decode cX10_open 36 = .ok (.istore_n 2, 1) := by decide +kernel
theorem dX10_open_37 : decode cX10_open 37 = .ok (.iinc 4 1, 3) := by decide +kernel
theorem dX10_open_40 : decode cX10_open 40 = .ok (.goto (-28), 3) := by decide +kernel
theorem dX10_open_43 : decode cX10_open 43 = .ok (.iinc 3 1, 3) := by decide +kernel
theorem dX10_open_46 : decode cX10_open 46 = .ok (.goto (-42), 3) := by decide +kernel
theorem dX10_open_49 : decode cX10_open 49 = .ok (.iload_n 2, 1) := by decide +kernel
theorem dX10_open_50 : decode cX10_open 50 = .ok (.ireturn, 1) := by decide +kernel
theorem dX10_count_0 : decode cX10_count 0 = .ok (.iconst 0, 1) := by decide +kernel
theorem dX10_count_1 : decode cX10_count 1 = .ok (.istore_n 2, 1) := by decide +kernel
theorem dX10_count_2 : decode cX10_count 2 = .ok (.iconst 0, 1) := by decide +kernel
theorem dX10_count_3 : decode cX10_count 3 = .ok (.istore_n 3, 1) := by decide +kernel
theorem dX10_count_4 : decode cX10_count 4 = .ok (.iconst 0, 1) := by decide +kernel
theorem dX10_count_5 : decode cX10_count 5 = .ok (.istore 4, 2) := by decide +kernel
theorem dX10_count_7 : decode cX10_count 7 = .ok (.iload 4, 2) := by decide +kernel
theorem dX10_count_9 : decode cX10_count 9 = .ok (.aload_n 0, 1) := by decide +kernel
theorem dX10_count_10 : decode cX10_count 10 = .ok (.getfield 16, 3) := by decide +kernel
theorem dX10_count_13 : decode cX10_count 13 = .ok (.invokevirtual 41, 3) := by decide +kernel
theorem dX10_count_16 : decode cX10_count 16 = .ok (.if_icmp .ge 45, 3) := by decide +kernel
theorem dX10_count_19 : decode cX10_count 19 = .ok (.iload_n 2, 1) := by decide +kernel
theorem dX10_count_20 : decode cX10_count 20 = .ok (.aload_n 0, 1) := by decide +kernel
theorem dX10_count_21 : decode cX10_count 21 = .ok (.iload 4, 2) := by decide +kernel
theorem dX10_count_23 : decode cX10_count 23 = .ok (.iconst 0, 1) := by decide +kernel
theorem dX10_count_24 : decode cX10_count 24 = .ok (.invokevirtual 159, 3) := by decide +kernel
theorem dX10_count_27 : decode cX10_count 27 = .ok (.ifCond .eq 7, 3) := by decide +kernel
theorem dX10_count_30 : decode cX10_count 30 = .ok (.iconst 1, 1) := by decide +kernel
theorem dX10_count_31 : decode cX10_count 31 = .ok (.goto 4, 3) := by decide +kernel
theorem dX10_count_34 : decode cX10_count 34 = .ok (.iconst 0, 1) := by decide +kernel
theorem dX10_count_35 : decode cX10_count 35 = .ok (.iadd, 1) := by decide +kernel
theorem dX10_count_36 : decode cX10_count 36 = .ok (.istore_n 2, 1) := by decide +kernel
theorem dX10_count_37 : decode cX10_count 37 = .ok (.iload_n 3, 1) := by decide +kernel
theorem dX10_count_38 : decode cX10_count 38 = .ok (.aload_n 0, 1) := by decide +kernel
theorem dX10_count_39 : decode cX10_count 39 = .ok (.getfield 16, 3) := by decide +kernel
theorem dX10_count_42 : decode cX10_count 42 = .ok (.iload 4, 2) := by decide +kernel
theorem dX10_count_44 : decode cX10_count 44 = .ok (.invokevirtual 53, 3) := by decide +kernel
theorem dX10_count_47 : decode cX10_count 47 = .ok (.checkcast 98, 3) := by decide +kernel
theorem dX10_count_50 : decode cX10_count 50 = .ok (.getfield 169, 3) := by decide +kernel
theorem dX10_count_53 : decode cX10_count 53 = .ok (.iadd, 1) := by decide +kernel
theorem dX10_count_54 : decode cX10_count 54 = .ok (.istore_n 3, 1) := by decide +kernel
theorem dX10_count_55 : decode cX10_count 55 = .ok (.iinc 4 1, 3) := by decide +kernel
theorem dX10_count_58 : decode cX10_count 58 = .ok (.goto (-51), 3) := by decide +kernel
theorem dX10_count_61 : decode cX10_count 61 = .ok (.bipush 12, 2) := by decide +kernel
theorem dX10_count_63 : decode cX10_count 63 = .ok (.newarray .int, 2) := by decide +kernel
theorem dX10_count_65 : decode cX10_count 65 = .ok (.dup, 1) := by decide +kernel
theorem dX10_count_66 : decode cX10_count 66 = .ok (.iconst 0, 1) := by decide +kernel
theorem dX10_count_67 : decode cX10_count 67 = .ok (.aload_n 0, 1) := by decide +kernel
theorem dX10_count_68 : decode cX10_count 68 = .ok (.getfield 10, 3) := by decide +kernel
theorem dX10_count_71 : decode cX10_count 71 = .ok (.invokevirtual 41, 3) := by decide +kernel
theorem dX10_count_74 : decode cX10_count 74 = .ok (.iastore, 1) := by decide +kernel
theorem dX10_count_75 : decode cX10_count 75 = .ok (.dup, 1) := by decide +kernel
theorem dX10_count_76 : decode cX10_count 76 = .ok (.iconst 1, 1) := by decide +kernel
theorem dX10_count_77 : decode cX10_count 77 = .ok (.aload_n 0, 1) := by decide +kernel
theorem dX10_count_78 : decode cX10_count 78 = .ok (.getfield 16, 3) := by decide +kernel
theorem dX10_count_81 : decode cX10_count 81 = .ok (.invokevirtual 41, 3) := by decide +kernel
theorem dX10_count_84 : decode cX10_count 84 = .ok (.iastore, 1) := by decide +kernel
theorem dX10_count_85 : decode cX10_count 85 = .ok (.dup, 1) := by decide +kernel
theorem dX10_count_86 : decode cX10_count 86 = .ok (.iconst 2, 1) := by decide +kernel
theorem dX10_count_87 : decode cX10_count 87 = .ok (.aload_n 0, 1) := by decide +kernel
theorem dX10_count_88 : decode cX10_count 88 = .ok (.iconst 0, 1) := by decide +kernel
theorem dX10_count_89 : decode cX10_count 89 = .ok (.invokevirtual 255, 3) := by decide +kernel
theorem dX10_count_92 : decode cX10_count 92 = .ok (.iastore, 1) := by decide +kernel
theorem dX10_count_93 : decode cX10_count 93 = .ok (.dup, 1) := by decide +kernel
theorem dX10_count_94 : decode cX10_count 94 = .ok (.iconst 3, 1) := by decide +kernel
theorem dX10_count_95 : decode cX10_count 95 = .ok (.aload_n 0, 1) := by decide +kernel
theorem dX10_count_96 : decode cX10_count 96 = .ok (.iconst 1, 1) := by decide +kernel
theorem dX10_count_97 : decode cX10_count 97 = .ok (.invokevirtual 255, 3) := by decide +kernel
theorem dX10_count_100 : decode cX10_count 100 = .ok (.iastore, 1) := by decide +kernel
theorem dX10_count_101 : decode cX10_count 101 = .ok (.dup, 1) := by decide +kernel
theorem dX10_count_102 : decode cX10_count 102 = .ok (.iconst 4, 1) := by decide +kernel
theorem dX10_count_103 : decode cX10_count 103 = .ok (.aload_n 0, 1) := by decide +kernel
theorem dX10_count_104 : decode cX10_count 104 = .ok (.iconst 2, 1) := by decide +kernel
theorem dX10_count_105 : decode cX10_count 105 = .ok (.invokevirtual 255, 3) := by decide +kernel
theorem dX10_count_108 : decode cX10_count 108 = .ok (.iastore, 1) := by decide +kernel
theorem dX10_count_109 : decode cX10_count 109 = .ok (.dup, 1) := by decide +kernel
theorem dX10_count_110 : decode cX10_count 110 = .ok (.iconst 5, 1) := by decide +kernel
theorem dX10_count_111 : decode cX10_count 111 = .ok (.aload_n 0, 1) := by decide +kernel
theorem dX10_count_112 : decode cX10_count 112 = .ok (.iconst 3, 1) := by decide +kernel
theorem dX10_count_113 : decode cX10_count 113 = .ok (.invokevirtual 255, 3) := by decide +kernel
theorem dX10_count_116 : decode cX10_count 116 = .ok (.iastore, 1) := by decide +kernel
theorem dX10_count_117 : decode cX10_count 117 = .ok (.dup, 1) := by decide +kernel
theorem dX10_count_118 : decode cX10_count 118 = .ok (.bipush 6, 2) := by decide +kernel
theorem dX10_count_120 : decode cX10_count 120 = .ok (.aload_n 0, 1) := by decide +kernel
theorem dX10_count_121 : decode cX10_count 121 = .ok (.getfield 24, 3) := by decide +kernel
theorem dX10_count_124 : decode cX10_count 124 = .ok (.invokestatic 138, 3) := by decide +kernel
theorem dX10_count_127 : decode cX10_count 127 = .ok (.iastore, 1) := by decide +kernel
theorem dX10_count_128 : decode cX10_count 128 = .ok (.dup, 1) := by decide +kernel
theorem dX10_count_129 : decode cX10_count 129 = .ok (.bipush 7, 2) := by decide +kernel
theorem dX10_count_131 : decode cX10_count 131 = .ok (.aload_n 0, 1) := by decide +kernel
theorem dX10_count_132 : decode cX10_count 132 = .ok (.aload_n 0, 1) := by decide +kernel
theorem dX10_count_133 : decode cX10_count 133 = .ok (.iconst 0, 1) := by decide +kernel
theorem dX10_count_134 : decode cX10_count 134 = .ok (.invokevirtual 148, 3) := by decide +kernel
theorem dX10_count_137 : decode cX10_count 137 = .ok (.invokevirtual 258, 3) := by decide +kernel
theorem dX10_count_140 : decode cX10_count 140 = .ok (.iastore, 1) := by decide +kernel
theorem dX10_count_141 : decode cX10_count 141 = .ok (.dup, 1) := by decide +kernel
theorem dX10_count_142 : decode cX10_count 142 = .ok (.bipush 8, 2) := by decide +kernel
theorem dX10_count_144 : decode cX10_count 144 = .ok (.iload_n 2, 1) := by decide +kernel
theorem dX10_count_145 : decode cX10_count 145 = .ok (.iastore, 1) := by decide +kernel
theorem dX10_count_146 : decode cX10_count 146 = .ok (.dup, 1) := by decide +kernel
theorem dX10_count_147 : decode cX10_count 147 = .ok (.bipush 9, 2) := by decide +kernel
theorem dX10_count_149 : decode cX10_count 149 = .ok (.iload_n 3, 1) := by decide +kernel
theorem dX10_count_150 : decode cX10_count 150 = .ok (.iastore, 1) := by decide +kernel
theorem dX10_count_151 : decode cX10_count 151 = .ok (.dup, 1) := by decide +kernel
theorem dX10_count_152 : decode cX10_count 152 = .ok (.bipush 10, 2) := by decide +kernel
theorem dX10_count_154 : decode cX10_count 154 = .ok (.aload_n 0, 1) := by decide +kernel
theorem dX10_count_155 : decode cX10_count 155 = .ok (.getfield 27, 3) := by decide +kernel
theorem dX10_count_158 : decode cX10_count 158 = .ok (.invokevirtual 41, 3) := by decide +kernel
theorem dX10_count_161 : decode cX10_count 161 = .ok (.iastore, 1) := by decide +kernel
theorem dX10_count_162 : decode cX10_count 162 = .ok (.dup, 1) := by decide +kernel
theorem dX10_count_163 : decode cX10_count 163 = .ok (.bipush 11, 2) := by decide +kernel
theorem dX10_count_165 : decode cX10_count 165 = .ok (.aload_n 0, 1) := by decide +kernel
theorem dX10_count_166 : decode cX10_count 166 = .ok (.getfield 193, 3) := by decide +kernel
theorem dX10_count_169 : decode cX10_count 169 = .ok (.iastore, 1) := by decide +kernel
theorem dX10_count_170 : decode cX10_count 170 = .ok (.astore 4, 2) := by decide +kernel
theorem dX10_count_172 : decode cX10_count 172 = .ok (.aload 4, 2) := by decide +kernel
theorem dX10_count_174 : decode cX10_count 174 = .ok (.iload_n 1, 1) := by decide +kernel
theorem dX10_count_175 : decode cX10_count 175 = .ok (.iaload, 1) := by decide +kernel
theorem dX10_count_176 : decode cX10_count 176 = .ok (.ireturn, 1) := by decide +kernel
theorem dX10_many_0 : decode cX10_many 0 = .ok (.aload_n 0, 1) := by decide +kernel
theorem dX10_many_1 : decode cX10_many 1 = .ok (.iload_n 1, 1) := by decide +kernel
theorem dX10_many_2 : decode cX10_many 2 = .ok (.iconst 0, 1) := by decide +kernel
theorem dX10_many_3 : decode cX10_many 3 = .ok (.bipush 11, 2) := by decide +kernel
theorem dX10_many_5 : decode cX10_many 5 = .ok (.invokestatic 45, 3) := by decide +kernel
theorem dX10_many_8 : decode cX10_many 8 = .ok (.ifCond .ne 7, 3) := by decide +kernel
theorem dX10_many_11 : decode cX10_many 11 = .ok (.iconst 1, 1) := by decide +kernel
theorem dX10_many_12 : decode cX10_many 12 = .ok (.goto 4, 3) := by decide +kernel
theorem dX10_many_15 : decode cX10_many 15 = .ok (.iconst 0, 1) := by decide +kernel
theorem dX10_many_16 : decode cX10_many 16 = .ok (.iconst 1, 1) := by decide +kernel
theorem dX10_many_17 : decode cX10_many 17 = .ok (.invokevirtual 63, 3) := by decide +kernel
theorem dX10_many_20 : decode cX10_many 20 = .ok (.ifCond .eq 7, 3) := by decide +kernel
theorem dX10_many_23 : decode cX10_many 23 = .ok (.iconst 0, 1) := by decide +kernel
theorem dX10_many_24 : decode cX10_many 24 = .ok (.goto 8, 3) := by decide +kernel
theorem dX10_many_27 : decode cX10_many 27 = .ok (.aload_n 0, 1) := by decide +kernel
theorem dX10_many_28 : decode cX10_many 28 = .ok (.iload_n 1, 1) := by decide +kernel
theorem dX10_many_29 : decode cX10_many 29 = .ok (.invokevirtual 261, 3) := by decide +kernel
theorem dX10_many_32 : decode cX10_many 32 = .ok (.ireturn, 1) := by decide +kernel
theorem dX10_isNoRounds_0 : decode cX10_isNoRounds 0 = .ok (.iload_n 0, 1) := by decide +kernel
theorem dX10_isNoRounds_1 : decode cX10_isNoRounds 1 = .ok (.iconst 0, 1) := by decide +kernel
theorem dX10_isNoRounds_2 : decode cX10_isNoRounds 2 = .ok (.bipush 9, 2) := by decide +kernel
theorem dX10_isNoRounds_4 : decode cX10_isNoRounds 4 = .ok (.invokestatic 45, 3) := by decide +kernel
theorem dX10_isNoRounds_7 : decode cX10_isNoRounds 7 = .ok (.ifCond .ne 7, 3) := by decide +kernel
theorem dX10_isNoRounds_10 : decode cX10_isNoRounds 10 = .ok (.iconst 1, 1) := by decide +kernel
theorem dX10_isNoRounds_11 : decode cX10_isNoRounds 11 = .ok (.goto 4, 3) := by decide +kernel
theorem dX10_isNoRounds_14 : decode cX10_isNoRounds 14 = .ok (.iconst 0, 1) := by decide +kernel
theorem dX10_isNoRounds_15 : decode cX10_isNoRounds 15 = .ok (.ireturn, 1) := by decide +kernel
theorem dX10_rounds_0 : decode cX10_rounds 0 = .ok (.aload_n 0, 1) := by decide +kernel
theorem dX10_rounds_1 : decode cX10_rounds 1 = .ok (.iload_n 1, 1) := by decide +kernel
theorem dX10_rounds_2 : decode cX10_rounds 2 = .ok (.invokestatic 264, 3) := by decide +kernel
theorem dX10_rounds_5 : decode cX10_rounds 5 = .ok (.iconst 1, 1) := by decide +kernel
theorem dX10_rounds_6 : decode cX10_rounds 6 = .ok (.invokevirtual 63, 3) := by decide +kernel
theorem dX10_rounds_9 : decode cX10_rounds 9 = .ok (.ifCond .eq 5, 3) := by decide +kernel
theorem dX10_rounds_12 : decode cX10_rounds 12 = .ok (.iconst 0, 1) := by decide +kernel
theorem dX10_rounds_13 : decode cX10_rounds 13 = .ok (.ireturn, 1) := by decide +kernel
theorem dX10_rounds_14 : decode cX10_rounds 14 = .ok (.aload_n 0, 1) := by decide +kernel
theorem dX10_rounds_15 : decode cX10_rounds 15 = .ok (.getfield 30, 3) := by decide +kernel
theorem dX10_rounds_18 : decode cX10_rounds 18 = .ok (.istore_n 2, 1) := by decide +kernel
theorem dX10_rounds_19 : decode cX10_rounds 19 = .ok (.aload_n 0, 1) := by decide +kernel
theorem dX10_rounds_20 : decode cX10_rounds 20 = .ok (.iload_n 1, 1) := by decide +kernel
theorem dX10_rounds_21 : decode cX10_rounds 21 = .ok (.putfield 30, 3) := by decide +kernel
theorem dX10_rounds_24 : decode cX10_rounds 24 = .ok (.iload_n 2, 1) := by decide +kernel
theorem dX10_rounds_25 : decode cX10_rounds 25 = .ok (.ireturn, 1) := by decide +kernel
theorem dX10_off_0 : decode cX10_off 0 = .ok (.aload_n 0, 1) := by decide +kernel
theorem dX10_off_1 : decode cX10_off 1 = .ok (.iconst 0, 1) := by decide +kernel
theorem dX10_off_2 : decode cX10_off 2 = .ok (.putfield 34, 3) := by decide +kernel
theorem dX10_off_5 : decode cX10_off 5 = .ok (.aload_n 0, 1) := by decide +kernel
theorem dX10_off_6 : decode cX10_off 6 = .ok (.aload_n 0, 1) := by decide +kernel
theorem dX10_off_7 : decode cX10_off 7 = .ok (.getfield 30, 3) := by decide +kernel
theorem dX10_off_10 : decode cX10_off 10 = .ok (.invokevirtual 267, 3) := by decide +kernel
theorem dX10_off_13 : decode cX10_off 13 = .ok (.ireturn, 1) := by decide +kernel
theorem dX10_share_0 : decode cX10_share 0 = .ok (.aload_n 0, 1) := by decide +kernel
theorem dX10_share_1 : decode cX10_share 1 = .ok (.aload_n 0, 1) := by decide +kernel
theorem dX10_share_2 : decode cX10_share 2 = .ok (.iload_n 1, 1) := by decide +kernel
theorem dX10_share_3 : decode cX10_share 3 = .ok (.iload_n 2, 1) := by decide +kernel
theorem dX10_share_4 : decode cX10_share 4 = .ok (.invokevirtual 81, 3) := by decide +kernel
theorem dX10_share_7 : decode cX10_share 7 = .ok (.ifCond .ne 15, 3) := by decide +kernel
theorem dX10_share_10 : decode cX10_share 10 = .ok (.iload_n 3, 1) := by decide +kernel
theorem dX10_share_11 : decode cX10_share 11 = .ok (.iconst (-1), 1) := by decide +kernel
theorem dX10_share_12 : decode cX10_share 12 = .ok (.if_icmp .eq 14, 3) := by decide +kernel
theorem dX10_share_15 : decode cX10_share 15 = .ok (.iload_n 3, 1) := by decide +kernel
theorem dX10_share_16 : decode cX10_share 16 = .ok (.invokestatic 92, 3) := by decide +kernel
theorem dX10_share_19 : decode cX10_share 19 = .ok (.ifCond .eq 7, 3) := by decide +kernel
theorem dX10_share_22 : decode cX10_share 22 = .ok (.iconst 1, 1) := by decide +kernel
theorem dX10_share_23 : decode cX10_share 23 = .ok (.goto 4, 3) := by decide +kernel
theorem dX10_share_26 : decode cX10_share 26 = .ok (.iconst 0, 1) := by decide +kernel
theorem dX10_share_27 : decode cX10_share 27 = .ok (.iconst 1, 1) := by decide +kernel
theorem dX10_share_28 : decode cX10_share 28 = .ok (.invokevirtual 63, 3) := by decide +kernel
theorem dX10_share_31 : decode cX10_share 31 = .ok (.ifCond .eq 7, 3) := by decide +kernel
theorem dX10_share_34 : decode cX10_share 34 = .ok (.iconst 0, 1) := by decide +kernel
theorem dX10_share_35 : decode cX10_share 35 = .ok (.goto 18, 3) := by decide +kernel
theorem dX10_share_38 : decode cX10_share 38 = .ok (.aload_n 0, 1) := by decide +kernel
theorem dX10_share_39 : decode cX10_share 39 = .ok (.aload_n 0, 1) := by decide +kernel
theorem dX10_share_40 : decode cX10_share 40 = .ok (.aload_n 0, 1) := by decide +kernel
theorem dX10_share_41 : decode cX10_share 41 = .ok (.getfield 30, 3) := by decide +kernel
theorem dX10_share_44 : decode cX10_share 44 = .ok (.invokevirtual 235, 3) := by decide +kernel
theorem dX10_share_47 : decode cX10_share 47 = .ok (.iload_n 1, 1) := by decide +kernel
theorem dX10_share_48 : decode cX10_share 48 = .ok (.iload_n 2, 1) := by decide +kernel
theorem dX10_share_49 : decode cX10_share 49 = .ok (.iload_n 3, 1) := by decide +kernel
theorem dX10_share_50 : decode cX10_share 50 = .ok (.invokevirtual 270, 3) := by decide +kernel
theorem dX10_share_53 : decode cX10_share 53 = .ok (.ireturn, 1) := by decide +kernel
theorem dX10_answered_0 : decode cX10_answered 0 = .ok (.iconst 0, 1) := by decide +kernel
theorem dX10_answered_1 : decode cX10_answered 1 = .ok (.istore_n 3, 1) := by decide +kernel
theorem dX10_answered_2 : decode cX10_answered 2 = .ok (.aload_n 0, 1) := by decide +kernel
theorem dX10_answered_3 : decode cX10_answered 3 = .ok (.getfield 19, 3) := by decide +kernel
theorem dX10_answered_6 : decode cX10_answered 6 = .ok (.invokevirtual 109, 3) := by decide +kernel
theorem dX10_answered_9 : decode cX10_answered 9 = .ok (.astore 4, 2) := by decide +kernel
theorem dX10_answered_11 : decode cX10_answered 11 = .ok (.aload 4, 2) := by decide +kernel
theorem dX10_answered_13 : decode cX10_answered 13 = .ok (.invokeinterface 113 1, 5) := by decide +kernel
theorem dX10_answered_18 : decode cX10_answered 18 = .ok (.ifCond .eq 59, 3) := by decide +kernel
theorem dX10_answered_21 : decode cX10_answered 21 = .ok (.aload 4, 2) := by decide +kernel
theorem dX10_answered_23 : decode cX10_answered 23 = .ok (.invokeinterface 118 1, 5) := by decide +kernel
theorem dX10_answered_28 : decode cX10_answered 28 = .ok (.checkcast 105, 3) := by decide +kernel
theorem dX10_answered_31 : decode cX10_answered 31 = .ok (.astore 5, 2) := by decide +kernel
theorem dX10_answered_33 : decode cX10_answered 33 = .ok (.iload_n 3, 1) := by decide +kernel
theorem dX10_answered_34 : decode cX10_answered 34 = .ok (.aload 5, 2) := by decide +kernel
theorem dX10_answered_36 : decode cX10_answered 36 = .ok (.getfield 122, 3) := by decide +kernel
theorem dX10_answered_39 : decode cX10_answered 39 = .ok (.iconst 1, 1) := by decide +kernel
theorem dX10_answered_40 : decode cX10_answered 40 = .ok (.if_icmp .ne 31, 3) := by decide +kernel
theorem dX10_answered_43 : decode cX10_answered 43 = .ok (.aload 5, 2) := by decide +kernel
theorem dX10_answered_45 : decode cX10_answered 45 = .ok (.getfield 211, 3) := by decide +kernel
theorem dX10_answered_48 : decode cX10_answered 48 = .ok (.iload_n 1, 1) := by decide +kernel
theorem dX10_answered_49 : decode cX10_answered 49 = .ok (.iaload, 1) := by decide +kernel
theorem dX10_answered_50 : decode cX10_answered 50 = .ok (.iconst (-1), 1) := by decide +kernel
theorem dX10_answered_51 : decode cX10_answered 51 = .ok (.if_icmp .eq 20, 3) := by decide +kernel
theorem dX10_answered_54 : decode cX10_answered 54 = .ok (.aload_n 0, 1) := by decide +kernel
theorem dX10_answered_55 : decode cX10_answered 55 = .ok (.aload 5, 2) := by decide +kernel
theorem dX10_answered_57 : decode cX10_answered 57 = .ok (.invokevirtual 128, 3) := by decide +kernel
theorem dX10_answered_60 : decode cX10_answered 60 = .ok (.getfield 132, 3) := by decide +kernel
theorem dX10_answered_63 : decode cX10_answered 63 = .ok (.iload_n 2, 1) := by decide +kernel
theorem dX10_answered_64 : decode cX10_answered 64 = .ok (.if_icmp .ne 7, 3) := by decide +kernel
theorem dX10_answered_67 : decode cX10_answered 67 = .ok (.iconst 1, 1) := by decide +kernel
theorem dX10_answered_68 : decode cX10_answered 68 = .ok (.goto 4, 3) := by decide +kernel
theorem dX10_answered_71 : decode cX10_answered 71 = .ok (.iconst 0, 1) := by decide +kernel
theorem dX10_answered_72 : decode cX10_answered 72 = .ok (.iadd, 1) := by decide +kernel
theorem dX10_answered_73 : decode cX10_answered 73 = .ok (.istore_n 3, 1) := by decide +kernel
theorem dX10_answered_74 : decode cX10_answered 74 = .ok (.goto (-63), 3) := by decide +kernel
theorem dX10_answered_77 : decode cX10_answered 77 = .ok (.iload_n 3, 1) := by decide +kernel
theorem dX10_answered_78 : decode cX10_answered 78 = .ok (.ireturn, 1) := by decide +kernel
theorem dX10_isMarked_0 : decode cX10_isMarked 0 = .ok (.aload_n 0, 1) := by decide +kernel
theorem dX10_isMarked_1 : decode cX10_isMarked 1 = .ok (.aload_n 0, 1) := by decide +kernel
theorem dX10_isMarked_2 : decode cX10_isMarked 2 = .ok (.iload_n 1, 1) := by decide +kernel
theorem dX10_isMarked_3 : decode cX10_isMarked 3 = .ok (.iload_n 2, 1) := by decide +kernel
theorem dX10_isMarked_4 : decode cX10_isMarked 4 = .ok (.invokevirtual 81, 3) := by decide +kernel
theorem dX10_isMarked_7 : decode cX10_isMarked 7 = .ok (.ifCond .ne 18, 3) := by decide +kernel
theorem dX10_isMarked_10 : decode cX10_isMarked 10 = .ok (.iload_n 3, 1) := by decide +kernel
theorem dX10_isMarked_11 : decode cX10_isMarked 11 = .ok (.invokestatic 92, 3) := by decide +kernel
theorem dX10_isMarked_14 : decode cX10_isMarked 14 = .ok (.ifCond .ne 11, 3) := by decide +kernel
theorem dX10_isMarked_17 : decode cX10_isMarked 17 = .ok (.iload 4, 2) := by decide +kernel
theorem dX10_isMarked_19 : decode cX10_isMarked 19 = .ok (.invokestatic 92, 3) := by decide +kernel
theorem dX10_isMarked_22 : decode cX10_isMarked 22 = .ok (.ifCond .eq 7, 3) := by decide +kernel
theorem dX10_isMarked_25 : decode cX10_isMarked 25 = .ok (.iconst 1, 1) := by decide +kernel
theorem dX10_isMarked_26 : decode cX10_isMarked 26 = .ok (.goto 4, 3) := by decide +kernel
theorem dX10_isMarked_29 : decode cX10_isMarked 29 = .ok (.iconst 0, 1) := by decide +kernel
theorem dX10_isMarked_30 : decode cX10_isMarked 30 = .ok (.iconst 1, 1) := by decide +kernel
theorem dX10_isMarked_31 : decode cX10_isMarked 31 = .ok (.invokevirtual 63, 3) := by decide +kernel
theorem dX10_isMarked_34 : decode cX10_isMarked 34 = .ok (.ifCond .ne 22, 3) := by decide +kernel
theorem dX10_isMarked_37 : decode cX10_isMarked 37 = .ok (.aload_n 0, 1) := by decide +kernel
theorem dX10_isMarked_38 : decode cX10_isMarked 38 = .ok (.iload_n 3, 1) := by decide +kernel
theorem dX10_isMarked_39 : decode cX10_isMarked 39 = .ok (.iload 4, 2) := by decide +kernel
theorem dX10_isMarked_41 : decode cX10_isMarked 41 = .ok (.if_icmp .ne 7, 3) := by decide +kernel
theorem dX10_isMarked_44 : decode cX10_isMarked 44 = .ok (.iconst 1, 1) := by decide +kernel
theorem dX10_isMarked_45 : decode cX10_isMarked 45 = .ok (.goto 4, 3) := by decide +kernel
theorem dX10_isMarked_48 : decode cX10_isMarked 48 = .ok (.iconst 0, 1) := by decide +kernel
theorem dX10_isMarked_49 : decode cX10_isMarked 49 = .ok (.iconst 2, 1) := by decide +kernel
theorem dX10_isMarked_50 : decode cX10_isMarked 50 = .ok (.invokevirtual 37, 3) := by decide +kernel
theorem dX10_isMarked_53 : decode cX10_isMarked 53 = .ok (.ifCond .eq 5, 3) := by decide +kernel
theorem dX10_isMarked_56 : decode cX10_isMarked 56 = .ok (.iconst 0, 1) := by decide +kernel
theorem dX10_isMarked_57 : decode cX10_isMarked 57 = .ok (.ireturn, 1) := by decide +kernel
theorem dX10_isMarked_58 : decode cX10_isMarked 58 = .ok (.aload_n 0, 1) := by decide +kernel
theorem dX10_isMarked_59 : decode cX10_isMarked 59 = .ok (.aload_n 0, 1) := by decide +kernel
theorem dX10_isMarked_60 : decode cX10_isMarked 60 = .ok (.getfield 30, 3) := by decide +kernel
theorem dX10_isMarked_63 : decode cX10_isMarked 63 = .ok (.invokevirtual 235, 3) := by decide +kernel
theorem dX10_isMarked_66 : decode cX10_isMarked 66 = .ok (.astore 5, 2) := by decide +kernel
theorem dX10_isMarked_68 : decode cX10_isMarked 68 = .ok (.aload_n 0, 1) := by decide +kernel
theorem dX10_isMarked_69 : decode cX10_isMarked 69 = .ok (.aload 5, 2) := by decide +kernel
theorem dX10_isMarked_71 : decode cX10_isMarked 71 = .ok (.iload_n 1, 1) := by decide +kernel
theorem dX10_isMarked_72 : decode cX10_isMarked 72 = .ok (.iload_n 2, 1) := by decide +kernel
theorem dX10_isMarked_73 : decode cX10_isMarked 73 = .ok (.iload_n 3, 1) := by decide +kernel
theorem dX10_isMarked_74 : decode cX10_isMarked 74 = .ok (.invokevirtual 270, 3) := by decide +kernel
theorem dX10_isMarked_77 : decode cX10_isMarked 77 = .ok (.istore 6, 2) := by decide +kernel
theorem dX10_isMarked_79 : decode cX10_isMarked 79 = .ok (.aload_n 0, 1) := by decide +kernel
theorem dX10_isMarked_80 : decode cX10_isMarked 80 = .ok (.aload 5, 2) := by decide +kernel
theorem dX10_isMarked_82 : decode cX10_isMarked 82 = .ok (.iload_n 1, 1) := by decide +kernel
theorem dX10_isMarked_83 : decode cX10_isMarked 83 = .ok (.iload_n 2, 1) := by decide +kernel
theorem dX10_isMarked_84 : decode cX10_isMarked 84 = .ok (.iload 4, 2) := by decide +kernel
theorem dX10_isMarked_86 : decode cX10_isMarked 86 = .ok (.invokevirtual 270, 3) := by decide +kernel
theorem dX10_isMarked_89 : decode cX10_isMarked 89 = .ok (.istore 7, 2) := by decide +kernel
theorem dX10_isMarked_91 : decode cX10_isMarked 91 = .ok (.aload_n 0, 1) := by decide +kernel
theorem dX10_isMarked_92 : decode cX10_isMarked 92 = .ok (.iload_n 1, 1) := by decide +kernel
theorem dX10_isMarked_93 : decode cX10_isMarked 93 = .ok (.iload_n 3, 1) := by decide +kernel
theorem dX10_isMarked_94 : decode cX10_isMarked 94 = .ok (.invokevirtual 274, 3) := by decide +kernel
theorem dX10_isMarked_97 : decode cX10_isMarked 97 = .ok (.iconst 3, 1) := by decide +kernel
theorem dX10_isMarked_98 : decode cX10_isMarked 98 = .ok (.if_icmp .lt 43, 3) := by decide +kernel
theorem dX10_isMarked_101 : decode cX10_isMarked 101 = .ok (.aload_n 0, 1) := by decide +kernel
theorem dX10_isMarked_102 : decode cX10_isMarked 102 = .ok (.iload_n 1, 1) := by decide +kernel
theorem dX10_isMarked_103 : decode cX10_isMarked 103 = .ok (.iload 4, 2) := by decide +kernel
theorem dX10_isMarked_105 : decode cX10_isMarked 105 = .ok (.invokevirtual 274, 3) := by decide +kernel
theorem dX10_isMarked_108 : decode cX10_isMarked 108 = .ok (.iconst 3, 1) := by decide +kernel
theorem dX10_isMarked_109 : decode cX10_isMarked 109 = .ok (.if_icmp .lt 32, 3) := by decide +kernel
theorem dX10_isMarked_112 : decode cX10_isMarked 112 = .ok (.iload 6, 2) := by decide +kernel
theorem dX10_isMarked_114 : decode cX10_isMarked 114 = .ok (.iconst (-1), 1) := by decide +kernel
theorem dX10_isMarked_115 : decode cX10_isMarked 115 = .ok (.if_icmp .eq 26, 3) := by decide +kernel
theorem dX10_isMarked_118 : decode cX10_isMarked 118 = .ok (.iload 7, 2) := by decide +kernel
theorem dX10_isMarked_120 : decode cX10_isMarked 120 = .ok (.iconst (-1), 1) := by decide +kernel
theorem dX10_isMarked_121 : decode cX10_isMarked 121 = .ok (.if_icmp .eq 20, 3) := by decide +kernel
theorem dX10_isMarked_124 : decode cX10_isMarked 124 = .ok (.iload 6, 2) := by decide +kernel
theorem dX10_isMarked_126 : decode cX10_isMarked 126 = .ok (.iload 7, 2) := by decide +kernel
theorem dX10_isMarked_128 : decode cX10_isMarked 128 = .ok (.isub, 1) := by decide +kernel
theorem dX10_isMarked_129 : decode cX10_isMarked 129 = .ok (.invokestatic 277, 3) := by decide +kernel
theorem dX10_isMarked_132 : decode cX10_isMarked 132 = .ok (.bipush 30, 2) := by decide +kernel
theorem dX10_isMarked_134 : decode cX10_isMarked 134 = .ok (.if_icmp .lt 7, 3) := by decide +kernel
theorem dX10_isMarked_137 : decode cX10_isMarked 137 = .ok (.iconst 1, 1) := by decide +kernel
theorem dX10_isMarked_138 : decode cX10_isMarked 138 = .ok (.goto 4, 3) := by decide +kernel
theorem dX10_isMarked_141 : decode cX10_isMarked 141 = .ok (.iconst 0, 1) := by decide +kernel
theorem dX10_isMarked_142 : decode cX10_isMarked 142 = .ok (.ireturn, 1) := by decide +kernel
theorem dX10_hold_0 : decode cX10_hold 0 = .ok (.aload_n 0, 1) := by decide +kernel
theorem dX10_hold_1 : decode cX10_hold 1 = .ok (.aload_n 0, 1) := by decide +kernel
theorem dX10_hold_2 : decode cX10_hold 2 = .ok (.getfield 27, 3) := by decide +kernel
theorem dX10_hold_5 : decode cX10_hold 5 = .ok (.invokevirtual 41, 3) := by decide +kernel
theorem dX10_hold_8 : decode cX10_hold 8 = .ok (.iconst 5, 1) := by decide +kernel
theorem dX10_hold_9 : decode cX10_hold 9 = .ok (.if_icmp .ne 7, 3) := by decide +kernel
theorem dX10_hold_12 : decode cX10_hold 12 = .ok (.iconst 1, 1) := by decide +kernel
theorem dX10_hold_13 : decode cX10_hold 13 = .ok (.goto 4, 3) := by decide +kernel
theorem dX10_hold_16 : decode cX10_hold 16 = .ok (.iconst 0, 1) := by decide +kernel
theorem dX10_hold_17 : decode cX10_hold 17 = .ok (.iconst 1, 1) := by decide +kernel
theorem dX10_hold_18 : decode cX10_hold 18 = .ok (.invokevirtual 63, 3) := by decide +kernel
theorem dX10_hold_21 : decode cX10_hold 21 = .ok (.ifCond .eq 5, 3) := by decide +kernel
theorem dX10_hold_24 : decode cX10_hold 24 = .ok (.iconst 0, 1) := by decide +kernel
theorem dX10_hold_25 : decode cX10_hold 25 = .ok (.ireturn, 1) := by decide +kernel
theorem dX10_hold_26 : decode cX10_hold 26 = .ok (.aload_n 0, 1) := by decide +kernel
theorem dX10_hold_27 : decode cX10_hold 27 = .ok (.aload_n 0, 1) := by decide +kernel
theorem dX10_hold_28 : decode cX10_hold 28 = .ok (.getfield 30, 3) := by decide +kernel
theorem dX10_hold_31 : decode cX10_hold 31 = .ok (.invokevirtual 235, 3) := by decide +kernel
theorem dX10_hold_34 : decode cX10_hold 34 = .ok (.astore_n 1, 1) := by decide +kernel
theorem dX10_hold_35 : decode cX10_hold 35 = .ok (.aload_n 0, 1) := by decide +kernel
theorem dX10_hold_36 : decode cX10_hold 36 = .ok (.getfield 10, 3) := by decide +kernel
theorem dX10_hold_39 : decode cX10_hold 39 = .ok (.invokevirtual 41, 3) := by decide +kernel
theorem dX10_hold_42 : decode cX10_hold 42 = .ok (.anewarray 279, 3) := by decide +kernel
theorem dX10_hold_45 : decode cX10_hold 45 = .ok (.astore_n 2, 1) := by decide +kernel
theorem dX10_hold_46 : decode cX10_hold 46 = .ok (.iconst 0, 1) := by decide +kernel
theorem dX10_hold_47 : decode cX10_hold 47 = .ok (.istore_n 3, 1) := by decide +kernel
theorem dX10_hold_48 : decode cX10_hold 48 = .ok (.iload_n 3, 1) := by decide +kernel
theorem dX10_hold_49 : decode cX10_hold 49 = .ok (.aload_n 2, 1) := by decide +kernel
theorem dX10_hold_50 : decode cX10_hold 50 = .ok (.arraylength, 1) := by decide +kernel
theorem dX10_hold_51 : decode cX10_hold 51 = .ok (.if_icmp .ge 62, 3) := by decide +kernel
theorem dX10_hold_54 : decode cX10_hold 54 = .ok (.aload_n 2, 1) := by decide +kernel
theorem dX10_hold_55 : decode cX10_hold 55 = .ok (.iload_n 3, 1) := by decide +kernel
theorem dX10_hold_56 : decode cX10_hold 56 = .ok (.aload_n 0, 1) := by decide +kernel
theorem dX10_hold_57 : decode cX10_hold 57 = .ok (.getfield 10, 3) := by decide +kernel
theorem dX10_hold_60 : decode cX10_hold 60 = .ok (.iload_n 3, 1) := by decide +kernel
theorem dX10_hold_61 : decode cX10_hold 61 = .ok (.invokevirtual 53, 3) := by decide +kernel
theorem dX10_hold_64 : decode cX10_hold 64 = .ok (.checkcast 57, 3) := by decide +kernel
theorem dX10_hold_67 : decode cX10_hold 67 = .ok (.getfield 59, 3) := by decide +kernel
theorem dX10_hold_70 : decode cX10_hold 70 = .ok (.arraylength, 1) := by decide +kernel
theorem dX10_hold_71 : decode cX10_hold 71 = .ok (.newarray .int, 2) := by decide +kernel
theorem dX10_hold_73 : decode cX10_hold 73 = .ok (.aastore, 1) := by decide +kernel
theorem dX10_hold_74 : decode cX10_hold 74 = .ok (.iconst 0, 1) := by decide +kernel
theorem dX10_hold_75 : decode cX10_hold 75 = .ok (.istore 4, 2) := by decide +kernel
theorem dX10_hold_77 : decode cX10_hold 77 = .ok (.iload 4, 2) := by decide +kernel
theorem dX10_hold_79 : decode cX10_hold 79 = .ok (.aload_n 2, 1) := by decide +kernel
theorem dX10_hold_80 : decode cX10_hold 80 = .ok (.iload_n 3, 1) := by decide +kernel
theorem dX10_hold_81 : decode cX10_hold 81 = .ok (.aaload, 1) := by decide +kernel
theorem dX10_hold_82 : decode cX10_hold 82 = .ok (.arraylength, 1) := by decide +kernel
theorem dX10_hold_83 : decode cX10_hold 83 = .ok (.if_icmp .ge 24, 3) := by decide +kernel
theorem dX10_hold_86 : decode cX10_hold 86 = .ok (.aload_n 2, 1) := by decide +kernel
theorem dX10_hold_87 : decode cX10_hold 87 = .ok (.iload_n 3, 1) := by decide +kernel
theorem dX10_hold_88 : decode cX10_hold 88 = .ok (.aaload, 1) := by decide +kernel
theorem dX10_hold_89 : decode cX10_hold 89 = .ok (.iload 4, 2) := by decide +kernel
theorem dX10_hold_91 : decode cX10_hold 91 = .ok (.aload_n 0, 1) := by decide +kernel
theorem dX10_hold_92 : decode cX10_hold 92 = .ok (.aload_n 1, 1) := by decide +kernel
theorem dX10_hold_93 : decode cX10_hold 93 = .ok (.iload_n 3, 1) := by decide +kernel
theorem dX10_hold_94 : decode cX10_hold 94 = .ok (.iload 4, 2) := by decide +kernel
theorem dX10_hold_96 : decode cX10_hold 96 = .ok (.iconst (-1), 1) := by decide +kernel
theorem dX10_hold_97 : decode cX10_hold 97 = .ok (.invokevirtual 270, 3) := by decide +kernel
theorem dX10_hold_100 : decode cX10_hold 100 = .ok (.iastore, 1) := by decide +kernel
theorem dX10_hold_101 : decode cX10_hold 101 = .ok (.iinc 4 1, 3) := by decide +kernel
theorem dX10_hold_104 : decode cX10_hold 104 = .ok (.goto (-27), 3) := by decide +kernel
theorem dX10_hold_107 : decode cX10_hold 107 = .ok (.iinc 3 1, 3) := by decide +kernel
theorem dX10_hold_110 : decode cX10_hold 110 = .ok (.goto (-62), 3) := by decide +kernel
theorem dX10_hold_113 : decode cX10_hold 113 = .ok (.aload_n 0, 1) := by decide +kernel
theorem dX10_hold_114 : decode cX10_hold 114 = .ok (.getfield 27, 3) := by decide +kernel
theorem dX10_hold_117 : decode cX10_hold 117 = .ok (.aload_n 2, 1) := by decide +kernel
theorem dX10_hold_118 : decode cX10_hold 118 = .ok (.invokevirtual 73, 3) := by decide +kernel
theorem dX10_hold_121 : decode cX10_hold 121 = .ok (.pop, 1) := by decide +kernel
theorem dX10_hold_122 : decode cX10_hold 122 = .ok (.aload_n 0, 1) := by decide +kernel
theorem dX10_hold_123 : decode cX10_hold 123 = .ok (.getfield 27, 3) := by decide +kernel
theorem dX10_hold_126 : decode cX10_hold 126 = .ok (.invokevirtual 41, 3) := by decide +kernel
theorem dX10_hold_129 : decode cX10_hold 129 = .ok (.iconst 1, 1) := by decide +kernel
theorem dX10_hold_130 : decode cX10_hold 130 = .ok (.isub, 1) := by decide +kernel
theorem dX10_hold_131 : decode cX10_hold 131 = .ok (.ireturn, 1) := by decide +kernel
theorem dX10_held_0 : decode cX10_held 0 = .ok (.aload_n 0, 1) := by decide +kernel
theorem dX10_held_1 : decode cX10_held 1 = .ok (.iload_n 1, 1) := by decide +kernel
theorem dX10_held_2 : decode cX10_held 2 = .ok (.iconst 0, 1) := by decide +kernel
theorem dX10_held_3 : decode cX10_held 3 = .ok (.aload_n 0, 1) := by decide +kernel
theorem dX10_held_4 : decode cX10_held 4 = .ok (.getfield 27, 3) := by decide +kernel
theorem dX10_held_7 : decode cX10_held 7 = .ok (.invokevirtual 41, 3) := by decide +kernel
theorem dX10_held_10 : decode cX10_held 10 = .ok (.iconst 1, 1) := by decide +kernel
theorem dX10_held_11 : decode cX10_held 11 = .ok (.isub, 1) := by decide +kernel
theorem dX10_held_12 : decode cX10_held 12 = .ok (.invokestatic 45, 3) := by decide +kernel
theorem dX10_held_15 : decode cX10_held 15 = .ok (.ifCond .eq 12, 3) := by decide +kernel
theorem dX10_held_18 : decode cX10_held 18 = .ok (.aload_n 0, 1) := by decide +kernel
theorem dX10_held_19 : decode cX10_held 19 = .ok (.iload_n 2, 1) := by decide +kernel
theorem dX10_held_20 : decode cX10_held 20 = .ok (.iload_n 3, 1) := by decide +kernel
theorem dX10_held_21 : decode cX10_held 21 = .ok (.invokevirtual 81, 3) := by decide +kernel
theorem dX10_held_24 : decode cX10_held 24 = .ok (.ifCond .eq 7, 3) := by decide +kernel
theorem dX10_held_27 : decode cX10_held 27 = .ok (.iconst 1, 1) := by decide +kernel
theorem dX10_held_28 : decode cX10_held 28 = .ok (.goto 4, 3) := by decide +kernel
theorem dX10_held_31 : decode cX10_held 31 = .ok (.iconst 0, 1) := by decide +kernel
theorem dX10_held_32 : decode cX10_held 32 = .ok (.iconst 1, 1) := by decide +kernel
theorem dX10_held_33 : decode cX10_held 33 = .ok (.invokevirtual 63, 3) := by decide +kernel
theorem dX10_held_36 : decode cX10_held 36 = .ok (.ifCond .eq 5, 3) := by decide +kernel
theorem dX10_held_39 : decode cX10_held 39 = .ok (.iconst 0, 1) := by decide +kernel
theorem dX10_held_40 : decode cX10_held 40 = .ok (.ireturn, 1) := by decide +kernel
theorem dX10_held_41 : decode cX10_held 41 = .ok (.iload_n 2, 1) := by decide +kernel
theorem dX10_held_42 : decode cX10_held 42 = .ok (.aload_n 0, 1) := by decide +kernel
theorem dX10_held_43 : decode cX10_held 43 = .ok (.getfield 27, 3) := by decide +kernel
theorem dX10_held_46 : decode cX10_held 46 = .ok (.iload_n 1, 1) := by decide +kernel
theorem dX10_held_47 : decode cX10_held 47 = .ok (.invokevirtual 53, 3) := by decide +kernel
theorem dX10_held_50 : decode cX10_held 50 = .ok (.checkcast 22, 3) := by decide +kernel
theorem dX10_held_53 : decode cX10_held 53 = .ok (.arraylength, 1) := by decide +kernel
theorem dX10_held_54 : decode cX10_held 54 = .ok (.if_icmp .ge 21, 3) := by decide +kernel
theorem dX10_held_57 : decode cX10_held 57 = .ok (.aload_n 0, 1) := by decide +kernel
theorem dX10_held_58 : decode cX10_held 58 = .ok (.getfield 27, 3) := by decide +kernel
theorem dX10_held_61 : decode cX10_held 61 = .ok (.iload_n 1, 1) := by decide +kernel
theorem dX10_held_62 : decode cX10_held 62 = .ok (.invokevirtual 53, 3) := by decide +kernel
theorem dX10_held_65 : decode cX10_held 65 = .ok (.checkcast 22, 3) := by decide +kernel
theorem dX10_held_68 : decode cX10_held 68 = .ok (.iload_n 2, 1) := by decide +kernel
theorem dX10_held_69 : decode cX10_held 69 = .ok (.aaload, 1) := by decide +kernel
theorem dX10_held_70 : decode cX10_held 70 = .ok (.iload_n 3, 1) := by decide +kernel
theorem dX10_held_71 : decode cX10_held 71 = .ok (.iaload, 1) := by decide +kernel
theorem dX10_held_72 : decode cX10_held 72 = .ok (.goto 4, 3) := by decide +kernel
theorem dX10_held_75 : decode cX10_held 75 = .ok (.iconst (-1), 1) := by decide +kernel
theorem dX10_held_76 : decode cX10_held 76 = .ok (.ireturn, 1) := by decide +kernel
theorem dX10_meanSeconds_0 : decode cX10_meanSeconds 0 = .ok (.aload_n 0, 1) := by decide +kernel
theorem dX10_meanSeconds_1 : decode cX10_meanSeconds 1 = .ok (.iconst 0, 1) := by decide +kernel
theorem dX10_meanSeconds_2 : decode cX10_meanSeconds 2 = .ok (.putfield 34, 3) := by decide +kernel
theorem dX10_meanSeconds_5 : decode cX10_meanSeconds 5 = .ok (.iconst 0, 1) := by decide +kernel
theorem dX10_meanSeconds_6 : decode cX10_meanSeconds 6 = .ok (.istore_n 1, 1) := by decide +kernel
theorem dX10_meanSeconds_7 : decode cX10_meanSeconds 7 = .ok (.iconst 0, 1) := by decide +kernel
theorem dX10_meanSeconds_8 : decode cX10_meanSeconds 8 = .ok (.istore_n 2, 1) := by decide +kernel
theorem dX10_meanSeconds_9 : decode cX10_meanSeconds 9 = .ok (.aload_n 0, 1) := by decide +kernel
theorem dX10_meanSeconds_10 : decode cX10_meanSeconds 10 = .ok (.getfield 19, 3) := by decide +kernel
theorem dX10_meanSeconds_13 : decode cX10_meanSeconds 13 = .ok (.invokevirtual 109, 3) := by decide +kernel
theorem dX10_meanSeconds_16 : decode cX10_meanSeconds 16 = .ok (.astore_n 3, 1) := by decide +kernel
theorem dX10_meanSeconds_17 : decode cX10_meanSeconds 17 = .ok (.aload_n 3, 1) := by decide +kernel
theorem dX10_meanSeconds_18 : decode cX10_meanSeconds 18 = .ok (.invokeinterface 113 1, 5) := by decide +kernel
theorem dX10_meanSeconds_23 : decode cX10_meanSeconds 23 = .ok (.ifCond .eq 45, 3) := by decide +kernel
theorem dX10_meanSeconds_26 : decode cX10_meanSeconds 26 = .ok (.aload_n 3, 1) := by decide +kernel
theorem dX10_meanSeconds_27 : decode cX10_meanSeconds 27 = .ok (.invokeinterface 118 1, 5) := by decide +kernel
theorem dX10_meanSeconds_32 : decode cX10_meanSeconds 32 = .ok (.checkcast 105, 3) := by decide +kernel
theorem dX10_meanSeconds_35 : decode cX10_meanSeconds 35 = .ok (.astore 4, 2) := by decide +kernel
theorem dX10_meanSeconds_37 : decode cX10_meanSeconds 37 = .ok (.aload 4, 2) := by decide +kernel
theorem dX10_meanSeconds_39 : decode cX10_meanSeconds 39 = .ok (.getfield 122, 3) := by decide +kernel
theorem dX10_meanSeconds_42 : decode cX10_meanSeconds 42 = .ok (.iconst 1, 1) := by decide +kernel
theorem dX10_meanSeconds_43 : decode cX10_meanSeconds 43 = .ok (.if_icmp .eq 6, 3) := by decide +kernel
theorem dX10_meanSeconds_46 : decode cX10_meanSeconds 46 = .ok (.goto (-29), 3) := by decide +kernel
theorem dX10_meanSeconds_49 : decode cX10_meanSeconds 49 = .ok (.iload_n 1, 1) := by decide +kernel
theorem dX10_meanSeconds_50 : decode cX10_meanSeconds 50 = .ok (.aload 4, 2) := by decide +kernel
theorem dX10_meanSeconds_52 : decode cX10_meanSeconds 52 = .ok (.getfield 202, 3) := by decide +kernel
theorem dX10_meanSeconds_55 : decode cX10_meanSeconds 55 = .ok (.iadd, 1) := by decide +kernel
theorem dX10_meanSeconds_56 : decode cX10_meanSeconds 56 = .ok (.istore_n 1, 1) := by decide +kernel
theorem dX10_meanSeconds_57 : decode cX10_meanSeconds 57 = .ok (.iload_n 2, 1) := by decide +kernel
theorem dX10_meanSeconds_58 : decode cX10_meanSeconds 58 = .ok (.aload 4, 2) := by decide +kernel
theorem dX10_meanSeconds_60 : decode cX10_meanSeconds 60 = .ok (.getfield 218, 3) := by decide +kernel
theorem dX10_meanSeconds_63 : decode cX10_meanSeconds 63 = .ok (.iadd, 1) := by decide +kernel
theorem dX10_meanSeconds_64 : decode cX10_meanSeconds 64 = .ok (.istore_n 2, 1) := by decide +kernel
theorem dX10_meanSeconds_65 : decode cX10_meanSeconds 65 = .ok (.goto (-48), 3) := by decide +kernel
theorem dX10_meanSeconds_68 : decode cX10_meanSeconds 68 = .ok (.iload_n 1, 1) := by decide +kernel
theorem dX10_meanSeconds_69 : decode cX10_meanSeconds 69 = .ok (.ifCond .ne 7, 3) := by decide +kernel
theorem dX10_meanSeconds_72 : decode cX10_meanSeconds 72 = .ok (.dconst 0, 1) := by decide +kernel
theorem dX10_meanSeconds_73 : decode cX10_meanSeconds 73 = .ok (.goto 8, 3) := by decide +kernel
theorem dX10_meanSeconds_76 : decode cX10_meanSeconds 76 = .ok (.iload_n 2, 1) := by decide +kernel
theorem dX10_meanSeconds_77 : decode cX10_meanSeconds 77 = .ok (.i2d, 1) := by decide +kernel
theorem dX10_meanSeconds_78 : decode cX10_meanSeconds 78 = .ok (.iload_n 1, 1) := by decide +kernel
theorem dX10_meanSeconds_79 : decode cX10_meanSeconds 79 = .ok (.i2d, 1) := by decide +kernel
theorem dX10_meanSeconds_80 : decode cX10_meanSeconds 80 = .ok (.ddiv, 1) := by decide +kernel
theorem dX10_meanSeconds_81 : decode cX10_meanSeconds 81 = .ok (.dreturn, 1) := by decide +kernel
theorem dX10_cleanedNow_0 : decode cX10_cleanedNow 0 = .ok (.aload_n 0, 1) := by decide +kernel
theorem dX10_cleanedNow_1 : decode cX10_cleanedNow 1 = .ok (.invokevirtual 252, 3) := by decide +kernel
theorem dX10_cleanedNow_4 : decode cX10_cleanedNow 4 = .ok (.istore_n 1, 1) := by decide +kernel
theorem dX10_cleanedNow_5 : decode cX10_cleanedNow 5 = .ok (.aload_n 0, 1) := by decide +kernel
theorem dX10_cleanedNow_6 : decode cX10_cleanedNow 6 = .ok (.iconst 0, 1) := by decide +kernel
theorem dX10_cleanedNow_7 : decode cX10_cleanedNow 7 = .ok (.invokevirtual 148, 3) := by decide +kernel
theorem dX10_cleanedNow_10 : decode cX10_cleanedNow 10 = .ok (.astore_n 2, 1) := by decide +kernel
theorem dX10_cleanedNow_11 : decode cX10_cleanedNow 11 = .ok (.aload_n 0, 1) := by decide +kernel
theorem dX10_cleanedNow_12 : decode cX10_cleanedNow 12 = .ok (.iconst 1, 1) := by decide +kernel
theorem dX10_cleanedNow_13 : decode cX10_cleanedNow 13 = .ok (.invokevirtual 148, 3) := by decide +kernel
theorem dX10_cleanedNow_16 : decode cX10_cleanedNow 16 = .ok (.astore_n 3, 1) := by decide +kernel
theorem dX10_cleanedNow_17 : decode cX10_cleanedNow 17 = .ok (.iconst 0, 1) := by decide +kernel
theorem dX10_cleanedNow_18 : decode cX10_cleanedNow 18 = .ok (.istore 4, 2) := by decide +kernel
theorem dX10_cleanedNow_20 : decode cX10_cleanedNow 20 = .ok (.iload 4, 2) := by decide +kernel
theorem dX10_cleanedNow_22 : decode cX10_cleanedNow 22 = .ok (.iconst 3, 1) := by decide +kernel
theorem dX10_cleanedNow_23 : decode cX10_cleanedNow 23 = .ok (.if_icmp .ge 57, 3) := by decide +kernel
theorem dX10_cleanedNow_26 : decode cX10_cleanedNow 26 = .ok (.iconst 0, 1) := by decide +kernel
theorem dX10_cleanedNow_27 : decode cX10_cleanedNow 27 = .ok (.istore 5, 2) := by decide +kernel
theorem dX10_cleanedNow_29 : decode cX10_cleanedNow 29 = .ok (.iload 5, 2) := by decide +kernel
theorem dX10_cleanedNow_31 : decode cX10_cleanedNow 31 = .ok (.iconst 2, 1) := by decide +kernel
theorem dX10_cleanedNow_32 : decode cX10_cleanedNow 32 = .ok (.if_icmp .ge 42, 3) := by decide +kernel
theorem dX10_cleanedNow_35 : decode cX10_cleanedNow 35 = .ok (.iload_n 1, 1) := by decide +kernel
theorem dX10_cleanedNow_36 : decode cX10_cleanedNow 36 = .ok (.aload_n 0, 1) := by decide +kernel
theorem dX10_cleanedNow_37 : decode cX10_cleanedNow 37 = .ok (.aload_n 2, 1) := by decide +kernel
theorem dX10_cleanedNow_38 : decode cX10_cleanedNow 38 = .ok (.iload 4, 2) := by decide +kernel
theorem dX10_cleanedNow_40 : decode cX10_cleanedNow 40 = .ok (.iload 5, 2) := by decide +kernel
theorem dX10_cleanedNow_42 : decode cX10_cleanedNow 42 = .ok (.invokevirtual 152, 3) := by decide +kernel
theorem dX10_cleanedNow_45 : decode cX10_cleanedNow 45 = .ok (.ifCond .ne 20, 3) := by decide +kernel
theorem dX10_cleanedNow_48 : decode cX10_cleanedNow 48 = .ok (.aload_n 0, 1) := by decide +kernel
theorem dX10_cleanedNow_49 : decode cX10_cleanedNow 49 = .ok (.aload_n 3, 1) := by decide +kernel
theorem dX10_cleanedNow_50 : decode cX10_cleanedNow 50 = .ok (.iload 4, 2) := by decide +kernel
theorem dX10_cleanedNow_52 : decode cX10_cleanedNow 52 = .ok (.iload 5, 2) := by decide +kernel
theorem dX10_cleanedNow_54 : decode cX10_cleanedNow 54 = .ok (.invokevirtual 152, 3) := by decide +kernel
theorem dX10_cleanedNow_57 : decode cX10_cleanedNow 57 = .ok (.ifCond .eq 8, 3) := by decide +kernel
theorem dX10_cleanedNow_60 : decode cX10_cleanedNow 60 = .ok (.bipush 100, 2) := by decide +kernel
theorem dX10_cleanedNow_62 : decode cX10_cleanedNow 62 = .ok (.goto 4, 3) := by decide +kernel
theorem dX10_cleanedNow_65 : decode cX10_cleanedNow 65 = .ok (.iconst 0, 1) := by decide +kernel
theorem dX10_cleanedNow_66 : decode cX10_cleanedNow 66 = .ok (.iadd, 1) := by decide +kernel
theorem dX10_cleanedNow_67 : decode cX10_cleanedNow 67 = .ok (.istore_n 1, 1) := by decide +kernel
theorem dX10_cleanedNow_68 : decode cX10_cleanedNow 68 = .ok (.iinc 5 1, 3) := by decide +kernel
theorem dX10_cleanedNow_71 : decode cX10_cleanedNow 71 = .ok (.goto (-42), 3) := by decide +kernel
theorem dX10_cleanedNow_74 : decode cX10_cleanedNow 74 = .ok (.iinc 4 1, 3) := by decide +kernel
theorem dX10_cleanedNow_77 : decode cX10_cleanedNow 77 = .ok (.goto (-57), 3) := by decide +kernel
theorem dX10_cleanedNow_80 : decode cX10_cleanedNow 80 = .ok (.iload_n 1, 1) := by decide +kernel
theorem dX10_cleanedNow_81 : decode cX10_cleanedNow 81 = .ok (.ireturn, 1) := by decide +kernel
theorem dX10_cleaned_0 : decode cX10_cleaned 0 = .ok (.aload_n 0, 1) := by decide +kernel
theorem dX10_cleaned_1 : decode cX10_cleaned 1 = .ok (.iconst 0, 1) := by decide +kernel
theorem dX10_cleaned_2 : decode cX10_cleaned 2 = .ok (.putfield 34, 3) := by decide +kernel
theorem dX10_cleaned_5 : decode cX10_cleaned 5 = .ok (.aload_n 0, 1) := by decide +kernel
theorem dX10_cleaned_6 : decode cX10_cleaned 6 = .ok (.invokevirtual 280, 3) := by decide +kernel
theorem dX10_cleaned_9 : decode cX10_cleaned 9 = .ok (.ireturn, 1) := by decide +kernel
theorem dX10_nextIn_0 : decode cX10_nextIn 0 = .ok (.aload_n 0, 1) := by decide +kernel
theorem dX10_nextIn_1 : decode cX10_nextIn 1 = .ok (.iload_n 1, 1) := by decide +kernel
theorem dX10_nextIn_2 : decode cX10_nextIn 2 = .ok (.iconst 0, 1) := by decide +kernel
theorem dX10_nextIn_3 : decode cX10_nextIn 3 = .ok (.bipush 9, 2) := by decide +kernel
theorem dX10_nextIn_5 : decode cX10_nextIn 5 = .ok (.invokestatic 45, 3) := by decide +kernel
theorem dX10_nextIn_8 : decode cX10_nextIn 8 = .ok (.ifCond .ne 7, 3) := by decide +kernel
theorem dX10_nextIn_11 : decode cX10_nextIn 11 = .ok (.iconst 1, 1) := by decide +kernel
theorem dX10_nextIn_12 : decode cX10_nextIn 12 = .ok (.goto 4, 3) := by decide +kernel
theorem dX10_nextIn_15 : decode cX10_nextIn 15 = .ok (.iconst 0, 1) := by decide +kernel
theorem dX10_nextIn_16 : decode cX10_nextIn 16 = .ok (.iconst 1, 1) := by decide +kernel
theorem dX10_nextIn_17 : decode cX10_nextIn 17 = .ok (.invokevirtual 63, 3) := by decide +kernel
theorem dX10_nextIn_20 : decode cX10_nextIn 20 = .ok (.ifCond .eq 7, 3) := by decide +kernel
theorem dX10_nextIn_23 : decode cX10_nextIn 23 = .ok (.iconst 0, 1) := by decide +kernel
theorem dX10_nextIn_24 : decode cX10_nextIn 24 = .ok (.goto 8, 3) := by decide +kernel
theorem dX10_nextIn_27 : decode cX10_nextIn 27 = .ok (.aload_n 0, 1) := by decide +kernel
theorem dX10_nextIn_28 : decode cX10_nextIn 28 = .ok (.iload_n 1, 1) := by decide +kernel
theorem dX10_nextIn_29 : decode cX10_nextIn 29 = .ok (.invokevirtual 190, 3) := by decide +kernel
theorem dX10_nextIn_32 : decode cX10_nextIn 32 = .ok (.ireturn, 1) := by decide +kernel
theorem dX10_offWith_0 : decode cX10_offWith 0 = .ok (.aload_n 0, 1) := by decide +kernel
theorem dX10_offWith_1 : decode cX10_offWith 1 = .ok (.iload_n 1, 1) := by decide +kernel
theorem dX10_offWith_2 : decode cX10_offWith 2 = .ok (.invokestatic 264, 3) := by decide +kernel
theorem dX10_offWith_5 : decode cX10_offWith 5 = .ok (.iconst 1, 1) := by decide +kernel
theorem dX10_offWith_6 : decode cX10_offWith 6 = .ok (.invokevirtual 63, 3) := by decide +kernel
theorem dX10_offWith_9 : decode cX10_offWith 9 = .ok (.ifCond .eq 7, 3) := by decide +kernel
theorem dX10_offWith_12 : decode cX10_offWith 12 = .ok (.iconst 0, 1) := by decide +kernel
theorem dX10_offWith_13 : decode cX10_offWith 13 = .ok (.goto 8, 3) := by decide +kernel
theorem dX10_offWith_16 : decode cX10_offWith 16 = .ok (.aload_n 0, 1) := by decide +kernel
theorem dX10_offWith_17 : decode cX10_offWith 17 = .ok (.iload_n 1, 1) := by decide +kernel
theorem dX10_offWith_18 : decode cX10_offWith 18 = .ok (.invokevirtual 267, 3) := by decide +kernel
theorem dX10_offWith_21 : decode cX10_offWith 21 = .ok (.ireturn, 1) := by decide +kernel
theorem dX10_shortestNow_0 : decode cX10_shortestNow 0 = .ok (.aload_n 0, 1) := by decide +kernel
theorem dX10_shortestNow_1 : decode cX10_shortestNow 1 = .ok (.getfield 10, 3) := by decide +kernel
theorem dX10_shortestNow_4 : decode cX10_shortestNow 4 = .ok (.invokevirtual 41, 3) := by decide +kernel
theorem dX10_shortestNow_7 : decode cX10_shortestNow 7 = .ok (.newarray .int, 2) := by decide +kernel
theorem dX10_shortestNow_9 : decode cX10_shortestNow 9 = .ok (.astore_n 2, 1) := by decide +kernel
theorem dX10_shortestNow_10 : decode cX10_shortestNow 10 = .ok (.aload_n 0, 1) := by decide +kernel
theorem dX10_shortestNow_11 : decode cX10_shortestNow 11 = .ok (.getfield 10, 3) := by decide +kernel
theorem dX10_shortestNow_14 : decode cX10_shortestNow 14 = .ok (.invokevirtual 41, 3) := by decide +kernel
theorem dX10_shortestNow_17 : decode cX10_shortestNow 17 = .ok (.iconst 1, 1) := by decide +kernel
theorem dX10_shortestNow_18 : decode cX10_shortestNow 18 = .ok (.isub, 1) := by decide +kernel
theorem dX10_shortestNow_19 : decode cX10_shortestNow 19 = .ok (.istore_n 3, 1) := by decide +kernel
theorem dX10_shortestNow_20 : decode cX10_shortestNow 20 = .ok (.iload_n 3, 1) := by decide +kernel
theorem dX10_shortestNow_21 : decode cX10_shortestNow 21 = .ok (.iload_n 1, 1) := by decide +kernel
theorem dX10_shortestNow_22 : decode cX10_shortestNow 22 = .ok (.if_icmp .lt 77, 3) := by decide +kernel
theorem dX10_shortestNow_25 : decode cX10_shortestNow 25 = .ok (.aload_n 2, 1) := by decide +kernel
theorem dX10_shortestNow_26 : decode cX10_shortestNow 26 = .ok (.iload_n 3, 1) := by decide +kernel
theorem dX10_shortestNow_27 : decode cX10_shortestNow 27 = .ok (.bipush 11, 2) := by decide +kernel
theorem dX10_shortestNow_29 : decode cX10_shortestNow 29 = .ok (.iastore, 1) := by decide +kernel
theorem dX10_shortestNow_30 : decode cX10_shortestNow 30 = .ok (.iconst 0, 1) := by decide +kernel
theorem dX10_shortestNow_31 : decode cX10_shortestNow 31 = .ok (.istore 4, 2) := by decide +kernel
theorem dX10_shortestNow_33 : decode cX10_shortestNow 33 = .ok (.iload 4, 2) := by decide +kernel
theorem dX10_shortestNow_35 : decode cX10_shortestNow 35 = .ok (.aload_n 0, 1) := by decide +kernel
theorem dX10_shortestNow_36 : decode cX10_shortestNow 36 = .ok (.getfield 10, 3) := by decide +kernel
theorem dX10_shortestNow_39 : decode cX10_shortestNow 39 = .ok (.iload_n 3, 1) := by decide +kernel
theorem dX10_shortestNow_40 : decode cX10_shortestNow 40 = .ok (.invokevirtual 53, 3) := by decide +kernel
theorem dX10_shortestNow_43 : decode cX10_shortestNow 43 = .ok (.checkcast 57, 3) := by decide +kernel
theorem dX10_shortestNow_46 : decode cX10_shortestNow 46 = .ok (.getfield 59, 3) := by decide +kernel
theorem dX10_shortestNow_49 : decode cX10_shortestNow 49 = .ok (.arraylength, 1) := by decide +kernel
theorem dX10_shortestNow_50 : decode cX10_shortestNow 50 = .ok (.if_icmp .ge 43, 3) := by decide +kernel
theorem dX10_shortestNow_53 : decode cX10_shortestNow 53 = .ok (.aload_n 0, 1) := by decide +kernel
theorem dX10_shortestNow_54 : decode cX10_shortestNow 54 = .ok (.iload_n 3, 1) := by decide +kernel
theorem dX10_shortestNow_55 : decode cX10_shortestNow 55 = .ok (.iload 4, 2) := by decide +kernel
theorem dX10_shortestNow_57 : decode cX10_shortestNow 57 = .ok (.invokevirtual 85, 3) := by decide +kernel
theorem dX10_shortestNow_60 : decode cX10_shortestNow 60 = .ok (.istore 5, 2) := by decide +kernel
theorem dX10_shortestNow_62 : decode cX10_shortestNow 62 = .ok (.aload_n 2, 1) := by decide +kernel
theorem dX10_shortestNow_63 : decode cX10_shortestNow 63 = .ok (.iload_n 3, 1) := by decide +kernel
theorem dX10_shortestNow_64 : decode cX10_shortestNow 64 = .ok (.aload_n 2, 1) := by decide +kernel
theorem dX10_shortestNow_65 : decode cX10_shortestNow 65 = .ok (.iload_n 3, 1) := by decide +kernel
theorem dX10_shortestNow_66 : decode cX10_shortestNow 66 = .ok (.iaload, 1) := by decide +kernel
theorem dX10_shortestNow_67 : decode cX10_shortestNow 67 = .ok (.iload 5, 2) := by decide +kernel
theorem dX10_shortestNow_69 : decode cX10_shortestNow 69 = .ok (.iconst (-1), 1) := by decide +kernel
theorem dX10_shortestNow_70 : decode cX10_shortestNow 70 = .ok (.if_icmp .ne 7, 3) := by decide +kernel
theorem dX10_shortestNow_73 : decode cX10_shortestNow 73 = .ok (.iconst 1, 1) := by decide +kernel
theorem dX10_shortestNow_74 : decode cX10_shortestNow 74 = .ok (.goto 9, 3) := by decide +kernel
theorem dX10_shortestNow_77 : decode cX10_shortestNow 77 = .ok (.iconst 1, 1) := by decide +kernel
theorem dX10_shortestNow_78 : decode cX10_shortestNow 78 = .ok (.aload_n 2, 1) := by decide +kernel
theorem dX10_shortestNow_79 : decode cX10_shortestNow 79 = .ok (.iload 5, 2) := by decide +kernel
theorem dX10_shortestNow_81 : decode cX10_shortestNow 81 = .ok (.iaload, 1) := by decide +kernel
theorem dX10_shortestNow_82 : decode cX10_shortestNow 82 = .ok (.iadd, 1) := by decide +kernel
theorem dX10_shortestNow_83 : decode cX10_shortestNow 83 = .ok (.invokestatic 196, 3) := by decide +kernel
theorem dX10_shortestNow_86 : decode cX10_shortestNow 86 = .ok (.iastore, 1) := by decide +kernel
theorem dX10_shortestNow_87 : decode cX10_shortestNow 87 = .ok (.iinc 4 1, 3) := by decide +kernel
theorem dX10_shortestNow_90 : decode cX10_shortestNow 90 = .ok (.goto (-57), 3) := by decide +kernel
theorem dX10_shortestNow_93 : decode cX10_shortestNow 93 = .ok (.iinc 3 (-1), 3) := by decide +kernel
theorem dX10_shortestNow_96 : decode cX10_shortestNow 96 = .ok (.goto (-76), 3) := by decide +kernel
theorem dX10_shortestNow_99 : decode cX10_shortestNow 99 = .ok (.aload_n 2, 1) := by decide +kernel
theorem dX10_shortestNow_100 : decode cX10_shortestNow 100 = .ok (.iload_n 1, 1) := by decide +kernel
theorem dX10_shortestNow_101 : decode cX10_shortestNow 101 = .ok (.iaload, 1) := by decide +kernel
theorem dX10_shortestNow_102 : decode cX10_shortestNow 102 = .ok (.ireturn, 1) := by decide +kernel
theorem dX10_shortest_0 : decode cX10_shortest 0 = .ok (.aload_n 0, 1) := by decide +kernel
theorem dX10_shortest_1 : decode cX10_shortest 1 = .ok (.aload_n 0, 1) := by decide +kernel
theorem dX10_shortest_2 : decode cX10_shortest 2 = .ok (.iload_n 1, 1) := by decide +kernel
theorem dX10_shortest_3 : decode cX10_shortest 3 = .ok (.invokevirtual 49, 3) := by decide +kernel
theorem dX10_shortest_6 : decode cX10_shortest 6 = .ok (.iconst 1, 1) := by decide +kernel
theorem dX10_shortest_7 : decode cX10_shortest 7 = .ok (.invokevirtual 63, 3) := by decide +kernel
theorem dX10_shortest_10 : decode cX10_shortest 10 = .ok (.ifCond .eq 7, 3) := by decide +kernel
theorem dX10_shortest_13 : decode cX10_shortest 13 = .ok (.iconst 0, 1) := by decide +kernel
theorem dX10_shortest_14 : decode cX10_shortest 14 = .ok (.goto 8, 3) := by decide +kernel
theorem dX10_shortest_17 : decode cX10_shortest 17 = .ok (.aload_n 0, 1) := by decide +kernel
theorem dX10_shortest_18 : decode cX10_shortest 18 = .ok (.iload_n 1, 1) := by decide +kernel
theorem dX10_shortest_19 : decode cX10_shortest 19 = .ok (.invokevirtual 283, 3) := by decide +kernel
theorem dX10_shortest_22 : decode cX10_shortest 22 = .ok (.ireturn, 1) := by decide +kernel
theorem dX10_add_0 : decode cX10_add 0 = .ok (.lload_n 0, 1) := by decide +kernel
theorem dX10_add_1 : decode cX10_add 1 = .ok (.ldc2_w 286, 3) := by decide +kernel
theorem dX10_add_4 : decode cX10_add 4 = .ok (.lmul, 1) := by decide +kernel
theorem dX10_add_5 : decode cX10_add 5 = .ok (.lload_n 2, 1) := by decide +kernel
theorem dX10_add_6 : decode cX10_add 6 = .ok (.ladd, 1) := by decide +kernel
theorem dX10_add_7 : decode cX10_add 7 = .ok (.lreturn, 1) := by decide +kernel
theorem dX10_digest_0 : decode cX10_digest 0 = .ok (.aload_n 0, 1) := by decide +kernel
theorem dX10_digest_1 : decode cX10_digest 1 = .ok (.iconst 0, 1) := by decide +kernel
theorem dX10_digest_2 : decode cX10_digest 2 = .ok (.putfield 34, 3) := by decide +kernel
theorem dX10_digest_5 : decode cX10_digest 5 = .ok (.ldc2_w 288, 3) := by decide +kernel
theorem dX10_digest_8 : decode cX10_digest 8 = .ok (.lstore_n 1, 1) := by decide +kernel
theorem dX10_digest_9 : decode cX10_digest 9 = .ok (.iconst 0, 1) := by decide +kernel
theorem dX10_digest_10 : decode cX10_digest 10 = .ok (.istore_n 3, 1) := by decide +kernel
theorem dX10_digest_11 : decode cX10_digest 11 = .ok (.iload_n 3, 1) := by decide +kernel
theorem dX10_digest_12 : decode cX10_digest 12 = .ok (.bipush 12, 2) := by decide +kernel
theorem dX10_digest_14 : decode cX10_digest 14 = .ok (.if_icmp .ge 20, 3) := by decide +kernel
theorem dX10_digest_17 : decode cX10_digest 17 = .ok (.lload_n 1, 1) := by decide +kernel
theorem dX10_digest_18 : decode cX10_digest 18 = .ok (.aload_n 0, 1) := by decide +kernel
theorem dX10_digest_19 : decode cX10_digest 19 = .ok (.iload_n 3, 1) := by decide +kernel
theorem dX10_digest_20 : decode cX10_digest 20 = .ok (.invokevirtual 261, 3) := by decide +kernel
theorem dX10_digest_23 : decode cX10_digest 23 = .ok (.i2l, 1) := by decide +kernel
theorem dX10_digest_24 : decode cX10_digest 24 = .ok (.invokestatic 290, 3) := by decide +kernel
theorem dX10_digest_27 : decode cX10_digest 27 = .ok (.lstore_n 1, 1) := by decide +kernel
theorem dX10_digest_28 : decode cX10_digest 28 = .ok (.iinc 3 1, 3) := by decide +kernel
theorem dX10_digest_31 : decode cX10_digest 31 = .ok (.goto (-20), 3) := by decide +kernel
theorem dX10_digest_34 : decode cX10_digest 34 = .ok (.iconst 0, 1) := by decide +kernel
theorem dX10_digest_35 : decode cX10_digest 35 = .ok (.istore_n 3, 1) := by decide +kernel
theorem dX10_digest_36 : decode cX10_digest 36 = .ok (.iload_n 3, 1) := by decide +kernel
theorem dX10_digest_37 : decode cX10_digest 37 = .ok (.iconst 3, 1) := by decide +kernel
theorem dX10_digest_38 : decode cX10_digest 38 = .ok (.if_icmp .ge 54, 3) := by decide +kernel
theorem dX10_digest_41 : decode cX10_digest 41 = .ok (.iconst 0, 1) := by decide +kernel
theorem dX10_digest_42 : decode cX10_digest 42 = .ok (.istore 4, 2) := by decide +kernel
theorem dX10_digest_44 : decode cX10_digest 44 = .ok (.iload 4, 2) := by decide +kernel
theorem dX10_digest_46 : decode cX10_digest 46 = .ok (.iconst 2, 1) := by decide +kernel
theorem dX10_digest_47 : decode cX10_digest 47 = .ok (.if_icmp .ge 39, 3) := by decide +kernel
theorem dX10_digest_50 : decode cX10_digest 50 = .ok (.iconst 0, 1) := by decide +kernel
theorem dX10_digest_51 : decode cX10_digest 51 = .ok (.istore 5, 2) := by decide +kernel
theorem dX10_digest_53 : decode cX10_digest 53 = .ok (.iload 5, 2) := by decide +kernel
theorem dX10_digest_55 : decode cX10_digest 55 = .ok (.iconst 5, 1) := by decide +kernel
theorem dX10_digest_56 : decode cX10_digest 56 = .ok (.if_icmp .ge 24, 3) := by decide +kernel
theorem dX10_digest_59 : decode cX10_digest 59 = .ok (.lload_n 1, 1) := by decide +kernel
theorem dX10_digest_60 : decode cX10_digest 60 = .ok (.aload_n 0, 1) := by decide +kernel
theorem dX10_digest_61 : decode cX10_digest 61 = .ok (.iload_n 3, 1) := by decide +kernel
theorem dX10_digest_62 : decode cX10_digest 62 = .ok (.iload 4, 2) := by decide +kernel
theorem dX10_digest_64 : decode cX10_digest 64 = .ok (.iload 5, 2) := by decide +kernel
theorem dX10_digest_66 : decode cX10_digest 66 = .ok (.invokevirtual 162, 3) := by decide +kernel
theorem dX10_digest_69 : decode cX10_digest 69 = .ok (.i2l, 1) := by decide +kernel
theorem dX10_digest_70 : decode cX10_digest 70 = .ok (.invokestatic 290, 3) := by decide +kernel
theorem dX10_digest_73 : decode cX10_digest 73 = .ok (.lstore_n 1, 1) := by decide +kernel
theorem dX10_digest_74 : decode cX10_digest 74 = .ok (.iinc 5 1, 3) := by decide +kernel
theorem dX10_digest_77 : decode cX10_digest 77 = .ok (.goto (-24), 3) := by decide +kernel
theorem dX10_digest_80 : decode cX10_digest 80 = .ok (.iinc 4 1, 3) := by decide +kernel
theorem dX10_digest_83 : decode cX10_digest 83 = .ok (.goto (-39), 3) := by decide +kernel
theorem dX10_digest_86 : decode cX10_digest 86 = .ok (.iinc 3 1, 3) := by decide +kernel
theorem dX10_digest_89 : decode cX10_digest 89 = .ok (.goto (-53), 3) := by decide +kernel
theorem dX10_digest_92 : decode cX10_digest 92 = .ok (.iconst 0, 1) := by decide +kernel
theorem dX10_digest_93 : decode cX10_digest 93 = .ok (.istore_n 3, 1) := by decide +kernel
theorem dX10_digest_94 : decode cX10_digest 94 = .ok (.iload_n 3, 1) := by decide +kernel
theorem dX10_digest_95 : decode cX10_digest 95 = .ok (.aload_n 0, 1) := by decide +kernel
theorem dX10_digest_96 : decode cX10_digest 96 = .ok (.getfield 16, 3) := by decide +kernel
theorem dX10_digest_99 : decode cX10_digest 99 = .ok (.invokevirtual 41, 3) := by decide +kernel
theorem dX10_digest_102 : decode cX10_digest 102 = .ok (.if_icmp .ge 38, 3) := by decide +kernel
theorem dX10_digest_105 : decode cX10_digest 105 = .ok (.iconst 0, 1) := by decide +kernel
theorem dX10_digest_106 : decode cX10_digest 106 = .ok (.istore 4, 2) := by decide +kernel
theorem dX10_digest_108 : decode cX10_digest 108 = .ok (.iload 4, 2) := by decide +kernel
theorem dX10_digest_110 : decode cX10_digest 110 = .ok (.bipush 6, 2) := by decide +kernel
theorem dX10_digest_112 : decode cX10_digest 112 = .ok (.if_icmp .ge 22, 3) := by decide +kernel
theorem dX10_digest_115 : decode cX10_digest 115 = .ok (.lload_n 1, 1) := by decide +kernel
theorem dX10_digest_116 : decode cX10_digest 116 = .ok (.aload_n 0, 1) := by decide +kernel
theorem dX10_digest_117 : decode cX10_digest 117 = .ok (.iload_n 3, 1) := by decide +kernel
theorem dX10_digest_118 : decode cX10_digest 118 = .ok (.iload 4, 2) := by decide +kernel
theorem dX10_digest_120 : decode cX10_digest 120 = .ok (.invokevirtual 178, 3) := by decide +kernel
theorem dX10_digest_123 : decode cX10_digest 123 = .ok (.i2l, 1) := by decide +kernel
theorem dX10_digest_124 : decode cX10_digest 124 = .ok (.invokestatic 290, 3) := by decide +kernel
theorem dX10_digest_127 : decode cX10_digest 127 = .ok (.lstore_n 1, 1) := by decide +kernel
theorem dX10_digest_128 : decode cX10_digest 128 = .ok (.iinc 4 1, 3) := by decide +kernel
theorem dX10_digest_131 : decode cX10_digest 131 = .ok (.goto (-23), 3) := by decide +kernel
theorem dX10_digest_134 : decode cX10_digest 134 = .ok (.iinc 3 1, 3) := by decide +kernel
theorem dX10_digest_137 : decode cX10_digest 137 = .ok (.goto (-43), 3) := by decide +kernel
theorem dX10_digest_140 : decode cX10_digest 140 = .ok (.aload_n 0, 1) := by decide +kernel
theorem dX10_digest_141 : decode cX10_digest 141 = .ok (.aload_n 0, 1) := by decide +kernel
theorem dX10_digest_142 : decode cX10_digest 142 = .ok (.getfield 30, 3) := by decide +kernel
theorem dX10_digest_145 : decode cX10_digest 145 = .ok (.invokevirtual 235, 3) := by decide +kernel
theorem dX10_digest_148 : decode cX10_digest 148 = .ok (.astore_n 3, 1) := by decide +kernel
theorem dX10_digest_149 : decode cX10_digest 149 = .ok (.aload_n 0, 1) := by decide +kernel
theorem dX10_digest_150 : decode cX10_digest 150 = .ok (.getfield 19, 3) := by decide +kernel
theorem dX10_digest_153 : decode cX10_digest 153 = .ok (.invokevirtual 109, 3) := by decide +kernel
theorem dX10_digest_156 : decode cX10_digest 156 = .ok (.astore 4, 2) := by decide +kernel
theorem dX10_digest_158 : decode cX10_digest 158 = .ok (.aload 4, 2) := by decide +kernel
theorem dX10_digest_160 : decode cX10_digest 160 = .ok (.invokeinterface 113 1, 5) := by decide +kernel
theorem dX10_digest_165 : decode cX10_digest 165 = .ok (.ifCond .eq 83, 3) := by decide +kernel
theorem dX10_digest_168 : decode cX10_digest 168 = .ok (.aload 4, 2) := by decide +kernel
theorem dX10_digest_170 : decode cX10_digest 170 = .ok (.invokeinterface 118 1, 5) := by decide +kernel
theorem dX10_digest_175 : decode cX10_digest 175 = .ok (.checkcast 105, 3) := by decide +kernel
theorem dX10_digest_178 : decode cX10_digest 178 = .ok (.astore 5, 2) := by decide +kernel
theorem dX10_digest_180 : decode cX10_digest 180 = .ok (.iconst 0, 1) := by decide +kernel
theorem dX10_digest_181 : decode cX10_digest 181 = .ok (.istore 6, 2) := by decide +kernel
theorem dX10_digest_183 : decode cX10_digest 183 = .ok (.iload 6, 2) := by decide +kernel
theorem dX10_digest_185 : decode cX10_digest 185 = .ok (.bipush 7, 2) := by decide +kernel
theorem dX10_digest_187 : decode cX10_digest 187 = .ok (.if_icmp .ge 23, 3) := by decide +kernel
theorem dX10_digest_190 : decode cX10_digest 190 = .ok (.lload_n 1, 1) := by decide +kernel
theorem dX10_digest_191 : decode cX10_digest 191 = .ok (.aload 5, 2) := by decide +kernel
theorem dX10_digest_193 : decode cX10_digest 193 = .ok (.aload_n 3, 1) := by decide +kernel
theorem dX10_digest_194 : decode cX10_digest 194 = .ok (.iload 6, 2) := by decide +kernel
theorem dX10_digest_196 : decode cX10_digest 196 = .ok (.invokestatic 248, 3) := by decide +kernel
theorem dX10_digest_199 : decode cX10_digest 199 = .ok (.i2l, 1) := by decide +kernel
theorem dX10_digest_200 : decode cX10_digest 200 = .ok (.invokestatic 290, 3) := by decide +kernel
theorem dX10_digest_203 : decode cX10_digest 203 = .ok (.lstore_n 1, 1) := by decide +kernel
theorem dX10_digest_204 : decode cX10_digest 204 = .ok (.iinc 6 1, 3) := by decide +kernel
theorem dX10_digest_207 : decode cX10_digest 207 = .ok (.goto (-24), 3) := by decide +kernel
theorem dX10_digest_210 : decode cX10_digest 210 = .ok (.iconst 0, 1) := by decide +kernel
theorem dX10_digest_211 : decode cX10_digest 211 = .ok (.istore 6, 2) := by decide +kernel
theorem dX10_digest_213 : decode cX10_digest 213 = .ok (.iload 6, 2) := by decide +kernel
theorem dX10_digest_215 : decode cX10_digest 215 = .ok (.aload_n 0, 1) := by decide +kernel
theorem dX10_digest_216 : decode cX10_digest 216 = .ok (.getfield 10, 3) := by decide +kernel
theorem dX10_digest_219 : decode cX10_digest 219 = .ok (.invokevirtual 41, 3) := by decide +kernel
theorem dX10_digest_222 : decode cX10_digest 222 = .ok (.if_icmp .ge 23, 3) := by decide +kernel
theorem dX10_digest_225 : decode cX10_digest 225 = .ok (.lload_n 1, 1) := by decide +kernel
theorem dX10_digest_226 : decode cX10_digest 226 = .ok (.aload 5, 2) := by decide +kernel
theorem dX10_digest_228 : decode cX10_digest 228 = .ok (.getfield 211, 3) := by decide +kernel
theorem dX10_digest_231 : decode cX10_digest 231 = .ok (.iload 6, 2) := by decide +kernel
theorem dX10_digest_233 : decode cX10_digest 233 = .ok (.iaload, 1) := by decide +kernel
theorem dX10_digest_234 : decode cX10_digest 234 = .ok (.i2l, 1) := by decide +kernel
theorem dX10_digest_235 : decode cX10_digest 235 = .ok (.invokestatic 290, 3) := by decide +kernel
theorem dX10_digest_238 : decode cX10_digest 238 = .ok (.lstore_n 1, 1) := by decide +kernel
theorem dX10_digest_239 : decode cX10_digest 239 = .ok (.iinc 6 1, 3) := by decide +kernel
theorem dX10_digest_242 : decode cX10_digest 242 = .ok (.goto (-29), 3) := by decide +kernel
theorem dX10_digest_245 : decode cX10_digest 245 = .ok (.goto (-87), 3) := by decide +kernel
theorem dX10_digest_248 : decode cX10_digest 248 = .ok (.iconst 0, 1) := by decide +kernel
theorem dX10_digest_249 : decode cX10_digest 249 = .ok (.istore 4, 2) := by decide +kernel
theorem dX10_digest_251 : decode cX10_digest 251 = .ok (.iload 4, 2) := by decide +kernel
theorem dX10_digest_253 : decode cX10_digest 253 = .ok (.aload_n 0, 1) := by decide +kernel
theorem dX10_digest_254 : decode cX10_digest 254 = .ok (.getfield 10, 3) := by decide +kernel
theorem dX10_digest_257 : decode cX10_digest 257 = .ok (.invokevirtual 41, 3) := by decide +kernel
theorem dX10_digest_260 : decode cX10_digest 260 = .ok (.if_icmp .ge 67, 3) := by decide +kernel
theorem dX10_digest_263 : decode cX10_digest 263 = .ok (.iconst 0, 1) := by decide +kernel
theorem dX10_digest_264 : decode cX10_digest 264 = .ok (.istore 5, 2) := by decide +kernel
theorem dX10_digest_266 : decode cX10_digest 266 = .ok (.iload 5, 2) := by decide +kernel
theorem dX10_digest_268 : decode cX10_digest 268 = .ok (.aload_n 0, 1) := by decide +kernel
theorem dX10_digest_269 : decode cX10_digest 269 = .ok (.getfield 10, 3) := by decide +kernel
theorem dX10_digest_272 : decode cX10_digest 272 = .ok (.iload 4, 2) := by decide +kernel
theorem dX10_digest_274 : decode cX10_digest 274 = .ok (.invokevirtual 53, 3) := by decide +kernel
theorem dX10_digest_277 : decode cX10_digest 277 = .ok (.checkcast 57, 3) := by decide +kernel
theorem dX10_digest_280 : decode cX10_digest 280 = .ok (.getfield 59, 3) := by decide +kernel
theorem dX10_digest_283 : decode cX10_digest 283 = .ok (.arraylength, 1) := by decide +kernel
theorem dX10_digest_284 : decode cX10_digest 284 = .ok (.if_icmp .ge 25, 3) := by decide +kernel
theorem dX10_digest_287 : decode cX10_digest 287 = .ok (.lload_n 1, 1) := by decide +kernel
theorem dX10_digest_288 : decode cX10_digest 288 = .ok (.aload_n 0, 1) := by decide +kernel
theorem dX10_digest_289 : decode cX10_digest 289 = .ok (.aload_n 3, 1) := by decide +kernel
theorem dX10_digest_290 : decode cX10_digest 290 = .ok (.iload 4, 2) := by decide +kernel
theorem dX10_digest_292 : decode cX10_digest 292 = .ok (.iload 5, 2) := by decide +kernel
theorem dX10_digest_294 : decode cX10_digest 294 = .ok (.iconst (-1), 1) := by decide +kernel
theorem dX10_digest_295 : decode cX10_digest 295 = .ok (.invokevirtual 270, 3) := by decide +kernel
theorem dX10_digest_298 : decode cX10_digest 298 = .ok (.i2l, 1) := by decide +kernel
theorem dX10_digest_299 : decode cX10_digest 299 = .ok (.invokestatic 290, 3) := by decide +kernel
theorem dX10_digest_302 : decode cX10_digest 302 = .ok (.lstore_n 1, 1) := by decide +kernel
theorem dX10_digest_303 : decode cX10_digest 303 = .ok (.iinc 5 1, 3) := by decide +kernel
theorem dX10_digest_306 : decode cX10_digest 306 = .ok (.goto (-40), 3) := by decide +kernel
theorem dX10_digest_309 : decode cX10_digest 309 = .ok (.lload_n 1, 1) := by decide +kernel
theorem dX10_digest_310 : decode cX10_digest 310 = .ok (.aload_n 0, 1) := by decide +kernel
theorem dX10_digest_311 : decode cX10_digest 311 = .ok (.iload 4, 2) := by decide +kernel
theorem dX10_digest_313 : decode cX10_digest 313 = .ok (.invokevirtual 283, 3) := by decide +kernel
theorem dX10_digest_316 : decode cX10_digest 316 = .ok (.i2l, 1) := by decide +kernel
theorem dX10_digest_317 : decode cX10_digest 317 = .ok (.invokestatic 290, 3) := by decide +kernel
theorem dX10_digest_320 : decode cX10_digest 320 = .ok (.lstore_n 1, 1) := by decide +kernel
theorem dX10_digest_321 : decode cX10_digest 321 = .ok (.iinc 4 1, 3) := by decide +kernel
theorem dX10_digest_324 : decode cX10_digest 324 = .ok (.goto (-73), 3) := by decide +kernel
theorem dX10_digest_327 : decode cX10_digest 327 = .ok (.lload_n 1, 1) := by decide +kernel
theorem dX10_digest_328 : decode cX10_digest 328 = .ok (.aload_n 0, 1) := by decide +kernel
theorem dX10_digest_329 : decode cX10_digest 329 = .ok (.iconst 0, 1) := by decide +kernel
theorem dX10_digest_330 : decode cX10_digest 330 = .ok (.invokevirtual 190, 3) := by decide +kernel
theorem dX10_digest_333 : decode cX10_digest 333 = .ok (.i2l, 1) := by decide +kernel
theorem dX10_digest_334 : decode cX10_digest 334 = .ok (.invokestatic 290, 3) := by decide +kernel
theorem dX10_digest_337 : decode cX10_digest 337 = .ok (.aload_n 0, 1) := by decide +kernel
theorem dX10_digest_338 : decode cX10_digest 338 = .ok (.aload_n 0, 1) := by decide +kernel
theorem dX10_digest_339 : decode cX10_digest 339 = .ok (.getfield 30, 3) := by decide +kernel
theorem dX10_digest_342 : decode cX10_digest 342 = .ok (.invokevirtual 267, 3) := by decide +kernel
theorem dX10_digest_345 : decode cX10_digest 345 = .ok (.i2l, 1) := by decide +kernel
theorem dX10_digest_346 : decode cX10_digest 346 = .ok (.invokestatic 290, 3) := by decide +kernel
theorem dX10_digest_349 : decode cX10_digest 349 = .ok (.aload_n 0, 1) := by decide +kernel
theorem dX10_digest_350 : decode cX10_digest 350 = .ok (.invokevirtual 280, 3) := by decide +kernel
theorem dX10_digest_353 : decode cX10_digest 353 = .ok (.i2l, 1) := by decide +kernel
theorem dX10_digest_354 : decode cX10_digest 354 = .ok (.invokestatic 290, 3) := by decide +kernel
theorem dX10_digest_357 : decode cX10_digest 357 = .ok (.aload_n 0, 1) := by decide +kernel
theorem dX10_digest_358 : decode cX10_digest 358 = .ok (.iconst 3, 1) := by decide +kernel
theorem dX10_digest_359 : decode cX10_digest 359 = .ok (.invokevirtual 190, 3) := by decide +kernel
theorem dX10_digest_362 : decode cX10_digest 362 = .ok (.i2l, 1) := by decide +kernel
theorem dX10_digest_363 : decode cX10_digest 363 = .ok (.invokestatic 290, 3) := by decide +kernel
theorem dX10_digest_366 : decode cX10_digest 366 = .ok (.lreturn, 1) := by decide +kernel
