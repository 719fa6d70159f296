theorem dX5_init_0 : decode cX5_init 0 = .ok (.aload_n 0, 1) := by decide +kernel
theorem dX5_init_1 : decode cX5_init 1 = .ok (.invokespecial 1, 3) := by decide +kernel
theorem dX5_init_4 : decode cX5_init 4 = .ok (.aload_n 0, 1) := by decide +kernel
theorem dX5_init_5 : decode cX5_init 5 = .ok (.new 7, 3) := by decide +kernel
theorem dX5_init_8 : decode cX5_init 8 = .ok (.dup, 1) := by decide +kernel
theorem dX5_init_9 : decode cX5_init 9 = .ok (.invokespecial 9, 3) := by decide +kernel
theorem dX5_init_12 : decode cX5_init 12 = .ok (.putfield 10, 3) := by decide +kernel
theorem dX5_init_15 : decode cX5_init 15 = .ok (.aload_n 0, 1) := by decide +kernel
theorem dX5_init_16 : decode cX5_init 16 = .ok (.bipush 8, 2) := by decide +kernel
theorem dX5_init_18 : decode cX5_init 18 = .ok (.anewarray 16, 3) := by decide +kernel
theorem dX5_init_21 : decode cX5_init 21 = .ok (.putfield 18, 3) := by decide +kernel
theorem dX5_init_24 : decode cX5_init 24 = .ok (.iconst 0, 1) := by decide +kernel
theorem dX5_init_25 : decode cX5_init 25 = .ok (.istore_n 1, 1) := by decide +kernel
theorem dX5_init_26 : decode cX5_init 26 = .ok (.iload_n 1, 1) := by decide +kernel
theorem dX5_init_27 : decode cX5_init 27 = .ok (.bipush 8, 2) := by decide +kernel
theorem dX5_init_29 : decode cX5_init 29 = .ok (.if_icmp .ge 23, 3) := by decide +kernel
theorem dX5_init_32 : decode cX5_init 32 = .ok (.aload_n 0, 1) := by decide +kernel
theorem dX5_init_33 : decode cX5_init 33 = .ok (.getfield 18, 3) := by decide +kernel
theorem dX5_init_36 : decode cX5_init 36 = .ok (.iload_n 1, 1) := by decide +kernel
theorem dX5_init_37 : decode cX5_init 37 = .ok (.new 16, 3) := by decide +kernel
theorem dX5_init_40 : decode cX5_init 40 = .ok (.dup, 1) := by decide +kernel
theorem dX5_init_41 : decode cX5_init 41 = .ok (.iload_n 1, 1) := by decide +kernel
theorem dX5_init_42 : decode cX5_init 42 = .ok (.invokespecial 22, 3) := by decide +kernel
theorem dX5_init_45 : decode cX5_init 45 = .ok (.aastore, 1) := by decide +kernel
theorem dX5_init_46 : decode cX5_init 46 = .ok (.iinc 1 1, 3) := by decide +kernel
theorem dX5_init_49 : decode cX5_init 49 = .ok (.goto (-23), 3) := by decide +kernel
theorem dX5_init_52 : decode cX5_init 52 = .ok (.aload_n 0, 1) := by decide +kernel
theorem dX5_init_53 : decode cX5_init 53 = .ok (.iconst 4, 1) := by decide +kernel
theorem dX5_init_54 : decode cX5_init 54 = .ok (.anewarray 25, 3) := by decide +kernel
theorem dX5_init_57 : decode cX5_init 57 = .ok (.putfield 27, 3) := by decide +kernel
theorem dX5_init_60 : decode cX5_init 60 = .ok (.iconst 0, 1) := by decide +kernel
theorem dX5_init_61 : decode cX5_init 61 = .ok (.istore_n 1, 1) := by decide +kernel
theorem dX5_init_62 : decode cX5_init 62 = .ok (.iload_n 1, 1) := by decide +kernel
theorem dX5_init_63 : decode cX5_init 63 = .ok (.iconst 4, 1) := by decide +kernel
theorem dX5_init_64 : decode cX5_init 64 = .ok (.if_icmp .ge 23, 3) := by decide +kernel
theorem dX5_init_67 : decode cX5_init 67 = .ok (.aload_n 0, 1) := by decide +kernel
theorem dX5_init_68 : decode cX5_init 68 = .ok (.getfield 27, 3) := by decide +kernel
theorem dX5_init_71 : decode cX5_init 71 = .ok (.iload_n 1, 1) := by decide +kernel
theorem dX5_init_72 : decode cX5_init 72 = .ok (.new 25, 3) := by decide +kernel
theorem dX5_init_75 : decode cX5_init 75 = .ok (.dup, 1) := by decide +kernel
theorem dX5_init_76 : decode cX5_init 76 = .ok (.iload_n 1, 1) := by decide +kernel
theorem dX5_init_77 : decode cX5_init 77 = .ok (.invokespecial 31, 3) := by decide +kernel
theorem dX5_init_80 : decode cX5_init 80 = .ok (.aastore, 1) := by decide +kernel
theorem dX5_init_81 : decode cX5_init 81 = .ok (.iinc 1 1, 3) := by decide +kernel
theorem dX5_init_84 : decode cX5_init 84 = .ok (.goto (-22), 3) := by decide +kernel
theorem dX5_init_87 : decode cX5_init 87 = .ok (.aload_n 0, 1) := by decide +kernel
theorem dX5_init_88 : decode cX5_init 88 = .ok (.new 32, 3) := by decide +kernel
theorem dX5_init_91 : decode cX5_init 91 = .ok (.dup, 1) := by decide +kernel
theorem dX5_init_92 : decode cX5_init 92 = .ok (.invokespecial 34, 3) := by decide +kernel
theorem dX5_init_95 : decode cX5_init 95 = .ok (.putfield 35, 3) := by decide +kernel
theorem dX5_init_98 : decode cX5_init 98 = .ok (.aload_n 0, 1) := by decide +kernel
theorem dX5_init_99 : decode cX5_init 99 = .ok (.new 32, 3) := by decide +kernel
theorem dX5_init_102 : decode cX5_init 102 = .ok (.dup, 1) := by decide +kernel
theorem dX5_init_103 : decode cX5_init 103 = .ok (.invokespecial 34, 3) := by decide +kernel
theorem dX5_init_106 : decode cX5_init 106 = .ok (.putfield 39, 3) := by decide +kernel
theorem dX5_init_109 : decode cX5_init 109 = .ok (.aload_n 0, 1) := by decide +kernel
theorem dX5_init_110 : decode cX5_init 110 = .ok (.new 42, 3) := by decide +kernel
theorem dX5_init_113 : decode cX5_init 113 = .ok (.dup, 1) := by decide +kernel
theorem dX5_init_114 : decode cX5_init 114 = .ok (.invokespecial 44, 3) := by decide +kernel
theorem dX5_init_117 : decode cX5_init 117 = .ok (.putfield 45, 3) := by decide +kernel
theorem dX5_init_120 : decode cX5_init 120 = .ok (.aload_n 0, 1) := by decide +kernel
theorem dX5_init_121 : decode cX5_init 121 = .ok (.aconst_null, 1) := by decide +kernel
theorem dX5_init_122 : decode cX5_init 122 = .ok (.putfield 49, 3) := by decide +kernel
theorem dX5_init_125 : decode cX5_init 125 = .ok (.aload_n 0, 1) := by decide +kernel
theorem dX5_init_126 : decode cX5_init 126 = .ok (.iconst 0, 1) := by decide +kernel
theorem dX5_init_127 : decode cX5_init 127 = .ok (.putfield 53, 3) := by decide +kernel
theorem dX5_init_130 : decode cX5_init 130 = .ok (.return_, 1) := by decide +kernel
theorem dX5_add_0 : decode cX5_add 0 = .ok (.iload_n 1, 1) := by decide +kernel
theorem dX5_add_1 : decode cX5_add 1 = .ok (.ifCond .lt 9, 3) := by decide +kernel
theorem dX5_add_4 : decode cX5_add 4 = .ok (.iload_n 1, 1) := by decide +kernel
theorem dX5_add_5 : decode cX5_add 5 = .ok (.bipush 15, 2) := by decide +kernel
theorem dX5_add_7 : decode cX5_add 7 = .ok (.if_icmp .le 5, 3) := by decide +kernel
theorem dX5_add_10 : decode cX5_add 10 = .ok (.iconst (-1), 1) := by decide +kernel
theorem dX5_add_11 : decode cX5_add 11 = .ok (.ireturn, 1) := by decide +kernel
theorem dX5_add_12 : decode cX5_add 12 = .ok (.iload_n 1, 1) := by decide +kernel
theorem dX5_add_13 : decode cX5_add 13 = .ok (.iload_n 2, 1) := by decide +kernel
theorem dX5_add_14 : decode cX5_add 14 = .ok (.invokestatic 57, 3) := by decide +kernel
theorem dX5_add_17 : decode cX5_add 17 = .ok (.ifCond .ne 6, 3) := by decide +kernel
theorem dX5_add_20 : decode cX5_add 20 = .ok (.bipush (-2), 2) := by decide +kernel
theorem dX5_add_22 : decode cX5_add 22 = .ok (.ireturn, 1) := by decide +kernel
theorem dX5_add_23 : decode cX5_add 23 = .ok (.aload_n 0, 1) := by decide +kernel
theorem dX5_add_24 : decode cX5_add 24 = .ok (.getfield 10, 3) := by decide +kernel
theorem dX5_add_27 : decode cX5_add 27 = .ok (.getfield 61, 3) := by decide +kernel
theorem dX5_add_30 : decode cX5_add 30 = .ok (.bipush 40, 2) := by decide +kernel
theorem dX5_add_32 : decode cX5_add 32 = .ok (.if_icmp .lt 6, 3) := by decide +kernel
theorem dX5_add_35 : decode cX5_add 35 = .ok (.bipush (-3), 2) := by decide +kernel
theorem dX5_add_37 : decode cX5_add 37 = .ok (.ireturn, 1) := by decide +kernel
theorem dX5_add_38 : decode cX5_add 38 = .ok (.aload_n 0, 1) := by decide +kernel
theorem dX5_add_39 : decode cX5_add 39 = .ok (.getfield 10, 3) := by decide +kernel
theorem dX5_add_42 : decode cX5_add 42 = .ok (.iload_n 1, 1) := by decide +kernel
theorem dX5_add_43 : decode cX5_add 43 = .ok (.iload_n 2, 1) := by decide +kernel
theorem dX5_add_44 : decode cX5_add 44 = .ok (.invokevirtual 64, 3) := by decide +kernel
theorem dX5_add_47 : decode cX5_add 47 = .ok (.ireturn, 1) := by decide +kernel
theorem dX5_start_0 : decode cX5_start 0 = .ok (.iload_n 1, 1) := by decide +kernel
theorem dX5_start_1 : decode cX5_start 1 = .ok (.invokestatic 68, 3) := by decide +kernel
theorem dX5_start_4 : decode cX5_start 4 = .ok (.ifCond .eq 13, 3) := by decide +kernel
theorem dX5_start_7 : decode cX5_start 7 = .ok (.iload_n 2, 1) := by decide +kernel
theorem dX5_start_8 : decode cX5_start 8 = .ok (.ifCond .lt 9, 3) := by decide +kernel
theorem dX5_start_11 : decode cX5_start 11 = .ok (.iload_n 2, 1) := by decide +kernel
theorem dX5_start_12 : decode cX5_start 12 = .ok (.bipush 40, 2) := by decide +kernel
theorem dX5_start_14 : decode cX5_start 14 = .ok (.if_icmp .lt 5, 3) := by decide +kernel
theorem dX5_start_17 : decode cX5_start 17 = .ok (.iconst (-1), 1) := by decide +kernel
theorem dX5_start_18 : decode cX5_start 18 = .ok (.ireturn, 1) := by decide +kernel
theorem dX5_start_19 : decode cX5_start 19 = .ok (.aload_n 0, 1) := by decide +kernel
theorem dX5_start_20 : decode cX5_start 20 = .ok (.iload_n 1, 1) := by decide +kernel
theorem dX5_start_21 : decode cX5_start 21 = .ok (.iload_n 2, 1) := by decide +kernel
theorem dX5_start_22 : decode cX5_start 22 = .ok (.iload_n 3, 1) := by decide +kernel
theorem dX5_start_23 : decode cX5_start 23 = .ok (.invokevirtual 72, 3) := by decide +kernel
theorem dX5_start_26 : decode cX5_start 26 = .ok (.istore 4, 2) := by decide +kernel
theorem dX5_start_28 : decode cX5_start 28 = .ok (.iload 4, 2) := by decide +kernel
theorem dX5_start_30 : decode cX5_start 30 = .ok (.iconst (-1), 1) := by decide +kernel
theorem dX5_start_31 : decode cX5_start 31 = .ok (.if_icmp .ne 8, 3) := by decide +kernel
theorem dX5_start_34 : decode cX5_start 34 = .ok (.bipush (-2), 2) := by decide +kernel
theorem dX5_start_36 : decode cX5_start 36 = .ok (.goto 5, 3) := by decide +kernel
theorem dX5_start_39 : decode cX5_start 39 = .ok (.iload 4, 2) := by decide +kernel
theorem dX5_start_41 : decode cX5_start 41 = .ok (.ireturn, 1) := by decide +kernel
theorem dX5_run_0 : decode cX5_run 0 = .ok (.iload_n 1, 1) := by decide +kernel
theorem dX5_run_1 : decode cX5_run 1 = .ok (.ifCond .lt 10, 3) := by decide +kernel
theorem dX5_run_4 : decode cX5_run 4 = .ok (.iload_n 1, 1) := by decide +kernel
theorem dX5_run_5 : decode cX5_run 5 = .ok (.sipush 400, 3) := by decide +kernel
theorem dX5_run_8 : decode cX5_run 8 = .ok (.if_icmp .le 5, 3) := by decide +kernel
theorem dX5_run_11 : decode cX5_run 11 = .ok (.iconst (-1), 1) := by decide +kernel
theorem dX5_run_12 : decode cX5_run 12 = .ok (.ireturn, 1) := by decide +kernel
theorem dX5_run_13 : decode cX5_run 13 = .ok (.iconst 0, 1) := by decide +kernel
theorem dX5_run_14 : decode cX5_run 14 = .ok (.istore_n 2, 1) := by decide +kernel
theorem dX5_run_15 : decode cX5_run 15 = .ok (.iconst 0, 1) := by decide +kernel
theorem dX5_run_16 : decode cX5_run 16 = .ok (.istore_n 3, 1) := by decide +kernel
theorem dX5_run_17 : decode cX5_run 17 = .ok (.iload_n 3, 1) := by decide +kernel
theorem dX5_run_18 : decode cX5_run 18 = .ok (.iload_n 1, 1) := by decide +kernel
theorem dX5_run_19 : decode cX5_run 19 = .ok (.if_icmp .ge 19, 3) := by decide +kernel
theorem dX5_run_22 : decode cX5_run 22 = .ok (.aload_n 0, 1) := by decide +kernel
theorem dX5_run_23 : decode cX5_run 23 = .ok (.invokevirtual 76, 3) := by decide +kernel
theorem dX5_run_26 : decode cX5_run 26 = .ok (.ifCond .ne 6, 3) := by decide +kernel
theorem dX5_run_29 : decode cX5_run 29 = .ok (.iinc 2 1, 3) := by decide +kernel
theorem dX5_run_32 : decode cX5_run 32 = .ok (.iinc 3 1, 3) := by decide +kernel
theorem dX5_run_35 : decode cX5_run 35 = .ok (.goto (-18), 3) := by decide +kernel
theorem dX5_run_38 : decode cX5_run 38 = .ok (.iload_n 2, 1) := by decide +kernel
theorem dX5_run_39 : decode cX5_run 39 = .ok (.ireturn, 1) := by decide +kernel
theorem dX5_setClock_0 : decode cX5_setClock 0 = .ok (.aload_n 0, 1) := by decide +kernel
theorem dX5_setClock_1 : decode cX5_setClock 1 = .ok (.iload_n 1, 1) := by decide +kernel
theorem dX5_setClock_2 : decode cX5_setClock 2 = .ok (.putfield 53, 3) := by decide +kernel
theorem dX5_setClock_5 : decode cX5_setClock 5 = .ok (.return_, 1) := by decide +kernel
theorem dX5_reset_0 : decode cX5_reset 0 = .ok (.iconst 0, 1) := by decide +kernel
theorem dX5_reset_1 : decode cX5_reset 1 = .ok (.istore_n 1, 1) := by decide +kernel
theorem dX5_reset_2 : decode cX5_reset 2 = .ok (.iload_n 1, 1) := by decide +kernel
theorem dX5_reset_3 : decode cX5_reset 3 = .ok (.bipush 8, 2) := by decide +kernel
theorem dX5_reset_5 : decode cX5_reset 5 = .ok (.if_icmp .ge 19, 3) := by decide +kernel
theorem dX5_reset_8 : decode cX5_reset 8 = .ok (.aload_n 0, 1) := by decide +kernel
theorem dX5_reset_9 : decode cX5_reset 9 = .ok (.getfield 18, 3) := by decide +kernel
theorem dX5_reset_12 : decode cX5_reset 12 = .ok (.iload_n 1, 1) := by decide +kernel
theorem dX5_reset_13 : decode cX5_reset 13 = .ok (.aaload, 1) := by decide +kernel
theorem dX5_reset_14 : decode cX5_reset 14 = .ok (.iconst 0, 1) := by decide +kernel
theorem dX5_reset_15 : decode cX5_reset 15 = .ok (.putfield 80, 3) := by decide +kernel
theorem dX5_reset_18 : decode cX5_reset 18 = .ok (.iinc 1 1, 3) := by decide +kernel
theorem dX5_reset_21 : decode cX5_reset 21 = .ok (.goto (-19), 3) := by decide +kernel
theorem dX5_reset_24 : decode cX5_reset 24 = .ok (.iconst 0, 1) := by decide +kernel
theorem dX5_reset_25 : decode cX5_reset 25 = .ok (.istore_n 1, 1) := by decide +kernel
theorem dX5_reset_26 : decode cX5_reset 26 = .ok (.iload_n 1, 1) := by decide +kernel
theorem dX5_reset_27 : decode cX5_reset 27 = .ok (.iconst 4, 1) := by decide +kernel
theorem dX5_reset_28 : decode cX5_reset 28 = .ok (.if_icmp .ge 18, 3) := by decide +kernel
theorem dX5_reset_31 : decode cX5_reset 31 = .ok (.aload_n 0, 1) := by decide +kernel
theorem dX5_reset_32 : decode cX5_reset 32 = .ok (.getfield 27, 3) := by decide +kernel
theorem dX5_reset_35 : decode cX5_reset 35 = .ok (.iload_n 1, 1) := by decide +kernel
theorem dX5_reset_36 : decode cX5_reset 36 = .ok (.aaload, 1) := by decide +kernel
theorem dX5_reset_37 : decode cX5_reset 37 = .ok (.invokevirtual 83, 3) := by decide +kernel
theorem dX5_reset_40 : decode cX5_reset 40 = .ok (.iinc 1 1, 3) := by decide +kernel
theorem dX5_reset_43 : decode cX5_reset 43 = .ok (.goto (-17), 3) := by decide +kernel
theorem dX5_reset_46 : decode cX5_reset 46 = .ok (.aload_n 0, 1) := by decide +kernel
theorem dX5_reset_47 : decode cX5_reset 47 = .ok (.getfield 35, 3) := by decide +kernel
theorem dX5_reset_50 : decode cX5_reset 50 = .ok (.invokevirtual 86, 3) := by decide +kernel
theorem dX5_reset_53 : decode cX5_reset 53 = .ok (.aload_n 0, 1) := by decide +kernel
theorem dX5_reset_54 : decode cX5_reset 54 = .ok (.getfield 39, 3) := by decide +kernel
theorem dX5_reset_57 : decode cX5_reset 57 = .ok (.invokevirtual 86, 3) := by decide +kernel
theorem dX5_reset_60 : decode cX5_reset 60 = .ok (.aload_n 0, 1) := by decide +kernel
theorem dX5_reset_61 : decode cX5_reset 61 = .ok (.aconst_null, 1) := by decide +kernel
theorem dX5_reset_62 : decode cX5_reset 62 = .ok (.putfield 49, 3) := by decide +kernel
theorem dX5_reset_65 : decode cX5_reset 65 = .ok (.return_, 1) := by decide +kernel
theorem dX5_clock_0 : decode cX5_clock 0 = .ok (.aload_n 0, 1) := by decide +kernel
theorem dX5_clock_1 : decode cX5_clock 1 = .ok (.getfield 53, 3) := by decide +kernel
theorem dX5_clock_4 : decode cX5_clock 4 = .ok (.ireturn, 1) := by decide +kernel
theorem dX5_running_0 : decode cX5_running 0 = .ok (.aload_n 0, 1) := by decide +kernel
theorem dX5_running_1 : decode cX5_running 1 = .ok (.getfield 49, 3) := by decide +kernel
theorem dX5_running_4 : decode cX5_running 4 = .ok (.ifnonnull 7, 3) := by decide +kernel
theorem dX5_running_7 : decode cX5_running 7 = .ok (.iconst (-1), 1) := by decide +kernel
theorem dX5_running_8 : decode cX5_running 8 = .ok (.goto 10, 3) := by decide +kernel
theorem dX5_running_11 : decode cX5_running 11 = .ok (.aload_n 0, 1) := by decide +kernel
theorem dX5_running_12 : decode cX5_running 12 = .ok (.getfield 49, 3) := by decide +kernel
theorem dX5_running_15 : decode cX5_running 15 = .ok (.getfield 87, 3) := by decide +kernel
theorem dX5_running_18 : decode cX5_running 18 = .ok (.ireturn, 1) := by decide +kernel
theorem dX5_state_0 : decode cX5_state 0 = .ok (.iload_n 1, 1) := by decide +kernel
theorem dX5_state_1 : decode cX5_state 1 = .ok (.invokestatic 90, 3) := by decide +kernel
theorem dX5_state_4 : decode cX5_state 4 = .ok (.ifCond .eq 15, 3) := by decide +kernel
theorem dX5_state_7 : decode cX5_state 7 = .ok (.aload_n 0, 1) := by decide +kernel
theorem dX5_state_8 : decode cX5_state 8 = .ok (.getfield 18, 3) := by decide +kernel
theorem dX5_state_11 : decode cX5_state 11 = .ok (.iload_n 1, 1) := by decide +kernel
theorem dX5_state_12 : decode cX5_state 12 = .ok (.aaload, 1) := by decide +kernel
theorem dX5_state_13 : decode cX5_state 13 = .ok (.getfield 80, 3) := by decide +kernel
theorem dX5_state_16 : decode cX5_state 16 = .ok (.goto 4, 3) := by decide +kernel
theorem dX5_state_19 : decode cX5_state 19 = .ok (.iconst (-1), 1) := by decide +kernel
theorem dX5_state_20 : decode cX5_state 20 = .ok (.ireturn, 1) := by decide +kernel
theorem dX5_look_0 : decode cX5_look 0 = .ok (.iload_n 1, 1) := by decide +kernel
theorem dX5_look_1 : decode cX5_look 1 = .ok (.invokestatic 90, 3) := by decide +kernel
theorem dX5_look_4 : decode cX5_look 4 = .ok (.ifCond .eq 15, 3) := by decide +kernel
theorem dX5_look_7 : decode cX5_look 7 = .ok (.aload_n 0, 1) := by decide +kernel
theorem dX5_look_8 : decode cX5_look 8 = .ok (.getfield 18, 3) := by decide +kernel
theorem dX5_look_11 : decode cX5_look 11 = .ok (.iload_n 1, 1) := by decide +kernel
theorem dX5_look_12 : decode cX5_look 12 = .ok (.aaload, 1) := by decide +kernel
theorem dX5_look_13 : decode cX5_look 13 = .ok (.getfield 80, 3) := by decide +kernel
theorem dX5_look_16 : decode cX5_look 16 = .ok (.ifCond .ne 7, 3) := by decide +kernel
theorem dX5_look_19 : decode cX5_look 19 = .ok (.ldc2_w 93, 3) := by decide +kernel
theorem dX5_look_22 : decode cX5_look 22 = .ok (.lreturn, 1) := by decide +kernel
theorem dX5_look_23 : decode cX5_look 23 = .ok (.aload_n 0, 1) := by decide +kernel
theorem dX5_look_24 : decode cX5_look 24 = .ok (.getfield 18, 3) := by decide +kernel
theorem dX5_look_27 : decode cX5_look 27 = .ok (.iload_n 1, 1) := by decide +kernel
theorem dX5_look_28 : decode cX5_look 28 = .ok (.aaload, 1) := by decide +kernel
theorem dX5_look_29 : decode cX5_look 29 = .ok (.iload_n 2, 1) := by decide +kernel
theorem dX5_look_30 : decode cX5_look 30 = .ok (.invokevirtual 95, 3) := by decide +kernel
theorem dX5_look_33 : decode cX5_look 33 = .ok (.lreturn, 1) := by decide +kernel
theorem dX5_waiting_0 : decode cX5_waiting 0 = .ok (.iload_n 1, 1) := by decide +kernel
theorem dX5_waiting_1 : decode cX5_waiting 1 = .ok (.invokestatic 68, 3) := by decide +kernel
theorem dX5_waiting_4 : decode cX5_waiting 4 = .ok (.ifCond .eq 15, 3) := by decide +kernel
theorem dX5_waiting_7 : decode cX5_waiting 7 = .ok (.aload_n 0, 1) := by decide +kernel
theorem dX5_waiting_8 : decode cX5_waiting 8 = .ok (.iload_n 1, 1) := by decide +kernel
theorem dX5_waiting_9 : decode cX5_waiting 9 = .ok (.invokevirtual 99, 3) := by decide +kernel
theorem dX5_waiting_12 : decode cX5_waiting 12 = .ok (.iload_n 2, 1) := by decide +kernel
theorem dX5_waiting_13 : decode cX5_waiting 13 = .ok (.invokevirtual 103, 3) := by decide +kernel
theorem dX5_waiting_16 : decode cX5_waiting 16 = .ok (.goto 4, 3) := by decide +kernel
theorem dX5_waiting_19 : decode cX5_waiting 19 = .ok (.iconst (-1), 1) := by decide +kernel
theorem dX5_waiting_20 : decode cX5_waiting 20 = .ok (.ireturn, 1) := by decide +kernel
theorem dX5_channel_0 : decode cX5_channel 0 = .ok (.aload_n 0, 1) := by decide +kernel
theorem dX5_channel_1 : decode cX5_channel 1 = .ok (.iload_n 1, 1) := by decide +kernel
theorem dX5_channel_2 : decode cX5_channel 2 = .ok (.invokevirtual 107, 3) := by decide +kernel
theorem dX5_channel_5 : decode cX5_channel 5 = .ok (.astore_n 2, 1) := by decide +kernel
theorem dX5_channel_6 : decode cX5_channel 6 = .ok (.aload_n 2, 1) := by decide +kernel
theorem dX5_channel_7 : decode cX5_channel 7 = .ok (.ifnonnull 7, 3) := by decide +kernel
theorem dX5_channel_10 : decode cX5_channel 10 = .ok (.iconst (-1), 1) := by decide +kernel
theorem dX5_channel_11 : decode cX5_channel 11 = .ok (.goto 7, 3) := by decide +kernel
theorem dX5_channel_14 : decode cX5_channel 14 = .ok (.aload_n 2, 1) := by decide +kernel
theorem dX5_channel_15 : decode cX5_channel 15 = .ok (.invokevirtual 111, 3) := by decide +kernel
theorem dX5_channel_18 : decode cX5_channel 18 = .ok (.ireturn, 1) := by decide +kernel
theorem dX5_messages_0 : decode cX5_messages 0 = .ok (.aload_n 0, 1) := by decide +kernel
theorem dX5_messages_1 : decode cX5_messages 1 = .ok (.getfield 45, 3) := by decide +kernel
theorem dX5_messages_4 : decode cX5_messages 4 = .ok (.getfield 115, 3) := by decide +kernel
theorem dX5_messages_7 : decode cX5_messages 7 = .ok (.ireturn, 1) := by decide +kernel
theorem dX5_message_0 : decode cX5_message 0 = .ok (.aload_n 0, 1) := by decide +kernel
theorem dX5_message_1 : decode cX5_message 1 = .ok (.getfield 45, 3) := by decide +kernel
theorem dX5_message_4 : decode cX5_message 4 = .ok (.iload_n 1, 1) := by decide +kernel
theorem dX5_message_5 : decode cX5_message 5 = .ok (.iload_n 2, 1) := by decide +kernel
theorem dX5_message_6 : decode cX5_message 6 = .ok (.invokevirtual 118, 3) := by decide +kernel
theorem dX5_message_9 : decode cX5_message 9 = .ok (.lreturn, 1) := by decide +kernel
theorem dX5_isPriority_0 : decode cX5_isPriority 0 = .ok (.iload_n 0, 1) := by decide +kernel
theorem dX5_isPriority_1 : decode cX5_isPriority 1 = .ok (.ifCond .eq 8, 3) := by decide +kernel
theorem dX5_isPriority_4 : decode cX5_isPriority 4 = .ok (.iload_n 0, 1) := by decide +kernel
theorem dX5_isPriority_5 : decode cX5_isPriority 5 = .ok (.iconst 1, 1) := by decide +kernel
theorem dX5_isPriority_6 : decode cX5_isPriority 6 = .ok (.if_icmp .ne 7, 3) := by decide +kernel
theorem dX5_isPriority_9 : decode cX5_isPriority 9 = .ok (.iconst 1, 1) := by decide +kernel
theorem dX5_isPriority_10 : decode cX5_isPriority 10 = .ok (.goto 4, 3) := by decide +kernel
theorem dX5_isPriority_13 : decode cX5_isPriority 13 = .ok (.iconst 0, 1) := by decide +kernel
theorem dX5_isPriority_14 : decode cX5_isPriority 14 = .ok (.ireturn, 1) := by decide +kernel
theorem dX5_isProcess_0 : decode cX5_isProcess 0 = .ok (.iload_n 0, 1) := by decide +kernel
theorem dX5_isProcess_1 : decode cX5_isProcess 1 = .ok (.ifCond .lt 13, 3) := by decide +kernel
theorem dX5_isProcess_4 : decode cX5_isProcess 4 = .ok (.iload_n 0, 1) := by decide +kernel
theorem dX5_isProcess_5 : decode cX5_isProcess 5 = .ok (.bipush 8, 2) := by decide +kernel
theorem dX5_isProcess_7 : decode cX5_isProcess 7 = .ok (.if_icmp .ge 7, 3) := by decide +kernel
theorem dX5_isProcess_10 : decode cX5_isProcess 10 = .ok (.iconst 1, 1) := by decide +kernel
theorem dX5_isProcess_11 : decode cX5_isProcess 11 = .ok (.goto 4, 3) := by decide +kernel
theorem dX5_isProcess_14 : decode cX5_isProcess 14 = .ok (.iconst 0, 1) := by decide +kernel
theorem dX5_isProcess_15 : decode cX5_isProcess 15 = .ok (.ireturn, 1) := by decide +kernel
theorem dX5_isOperand_0 : decode cX5_isOperand 0 = .ok (.iload_n 0, 1) := by decide +kernel
theorem dX5_isOperand_1 : decode cX5_isOperand 1 = .ok (.tableswitch 129 2 14 #[67, 67, 129, 129, 129, 129, 97, 97, 82, 82, 129, 129, 113], 67) := by decide +kernel
theorem dX5_isOperand_68 : decode cX5_isOperand 68 = .ok (.iload_n 1, 1) := by decide +kernel
theorem dX5_isOperand_69 : decode cX5_isOperand 69 = .ok (.ifCond .lt 12, 3) := by decide +kernel
theorem dX5_isOperand_72 : decode cX5_isOperand 72 = .ok (.iload_n 1, 1) := by decide +kernel
theorem dX5_isOperand_73 : decode cX5_isOperand 73 = .ok (.iconst 4, 1) := by decide +kernel
theorem dX5_isOperand_74 : decode cX5_isOperand 74 = .ok (.if_icmp .ge 7, 3) := by decide +kernel
theorem dX5_isOperand_77 : decode cX5_isOperand 77 = .ok (.iconst 1, 1) := by decide +kernel
theorem dX5_isOperand_78 : decode cX5_isOperand 78 = .ok (.goto 4, 3) := by decide +kernel
theorem dX5_isOperand_81 : decode cX5_isOperand 81 = .ok (.iconst 0, 1) := by decide +kernel
theorem dX5_isOperand_82 : decode cX5_isOperand 82 = .ok (.ireturn, 1) := by decide +kernel
theorem dX5_isOperand_83 : decode cX5_isOperand 83 = .ok (.iload_n 1, 1) := by decide +kernel
theorem dX5_isOperand_84 : decode cX5_isOperand 84 = .ok (.ifCond .lt 12, 3) := by decide +kernel
theorem dX5_isOperand_87 : decode cX5_isOperand 87 = .ok (.iload_n 1, 1) := by decide +kernel
theorem dX5_isOperand_88 : decode cX5_isOperand 88 = .ok (.iconst 4, 1) := by decide +kernel
theorem dX5_isOperand_89 : decode cX5_isOperand 89 = .ok (.if_icmp .ge 7, 3) := by decide +kernel
theorem dX5_isOperand_92 : decode cX5_isOperand 92 = .ok (.iconst 1, 1) := by decide +kernel
theorem dX5_isOperand_93 : decode cX5_isOperand 93 = .ok (.goto 4, 3) := by decide +kernel
theorem dX5_isOperand_96 : decode cX5_isOperand 96 = .ok (.iconst 0, 1) := by decide +kernel
theorem dX5_isOperand_97 : decode cX5_isOperand 97 = .ok (.ireturn, 1) := by decide +kernel
theorem dX5_isOperand_98 : decode cX5_isOperand 98 = .ok (.iload_n 1, 1) := by decide +kernel
theorem dX5_isOperand_99 : decode cX5_isOperand 99 = .ok (.ifCond .lt 13, 3) := by decide +kernel
theorem dX5_isOperand_102 : decode cX5_isOperand 102 = .ok (.iload_n 1, 1) := by decide +kernel
theorem dX5_isOperand_103 : decode cX5_isOperand 103 = .ok (.bipush 40, 2) := by decide +kernel
theorem dX5_isOperand_105 : decode cX5_isOperand 105 = .ok (.if_icmp .ge 7, 3) := by decide +kernel
theorem dX5_isOperand_108 : decode cX5_isOperand 108 = .ok (.iconst 1, 1) := by decide +kernel
theorem dX5_isOperand_109 : decode cX5_isOperand 109 = .ok (.goto 4, 3) := by decide +kernel
theorem dX5_isOperand_112 : decode cX5_isOperand 112 = .ok (.iconst 0, 1) := by decide +kernel
theorem dX5_isOperand_113 : decode cX5_isOperand 113 = .ok (.ireturn, 1) := by decide +kernel
theorem dX5_isOperand_114 : decode cX5_isOperand 114 = .ok (.iload_n 1, 1) := by decide +kernel
theorem dX5_isOperand_115 : decode cX5_isOperand 115 = .ok (.ifCond .lt 13, 3) := by decide +kernel
theorem dX5_isOperand_118 : decode cX5_isOperand 118 = .ok (.iload_n 1, 1) := by decide +kernel
theorem dX5_isOperand_119 : decode cX5_isOperand 119 = .ok (.bipush 80, 2) := by decide +kernel
theorem dX5_isOperand_121 : decode cX5_isOperand 121 = .ok (.if_icmp .ge 7, 3) := by decide +kernel
theorem dX5_isOperand_124 : decode cX5_isOperand 124 = .ok (.iconst 1, 1) := by decide +kernel
theorem dX5_isOperand_125 : decode cX5_isOperand 125 = .ok (.goto 4, 3) := by decide +kernel
theorem dX5_isOperand_128 : decode cX5_isOperand 128 = .ok (.iconst 0, 1) := by decide +kernel
theorem dX5_isOperand_129 : decode cX5_isOperand 129 = .ok (.ireturn, 1) := by decide +kernel
theorem dX5_isOperand_130 : decode cX5_isOperand 130 = .ok (.iconst 1, 1) := by decide +kernel
theorem dX5_isOperand_131 : decode cX5_isOperand 131 = .ok (.ireturn, 1) := by decide +kernel
theorem dX5_rowOf_0 : decode cX5_rowOf 0 = .ok (.iload_n 1, 1) := by decide +kernel
theorem dX5_rowOf_1 : decode cX5_rowOf 1 = .ok (.ifCond .ne 10, 3) := by decide +kernel
theorem dX5_rowOf_4 : decode cX5_rowOf 4 = .ok (.aload_n 0, 1) := by decide +kernel
theorem dX5_rowOf_5 : decode cX5_rowOf 5 = .ok (.getfield 35, 3) := by decide +kernel
theorem dX5_rowOf_8 : decode cX5_rowOf 8 = .ok (.goto 7, 3) := by decide +kernel
theorem dX5_rowOf_11 : decode cX5_rowOf 11 = .ok (.aload_n 0, 1) := by decide +kernel
theorem dX5_rowOf_12 : decode cX5_rowOf 12 = .ok (.getfield 39, 3) := by decide +kernel
theorem dX5_rowOf_15 : decode cX5_rowOf 15 = .ok (.areturn, 1) := by decide +kernel
theorem dX5_channelAt_0 : decode cX5_channelAt 0 = .ok (.iload_n 1, 1) := by decide +kernel
theorem dX5_channelAt_1 : decode cX5_channelAt 1 = .ok (.ifCond .lt 17, 3) := by decide +kernel
theorem dX5_channelAt_4 : decode cX5_channelAt 4 = .ok (.iload_n 1, 1) := by decide +kernel
theorem dX5_channelAt_5 : decode cX5_channelAt 5 = .ok (.iconst 4, 1) := by decide +kernel
theorem dX5_channelAt_6 : decode cX5_channelAt 6 = .ok (.if_icmp .ge 12, 3) := by decide +kernel
theorem dX5_channelAt_9 : decode cX5_channelAt 9 = .ok (.aload_n 0, 1) := by decide +kernel
theorem dX5_channelAt_10 : decode cX5_channelAt 10 = .ok (.getfield 27, 3) := by decide +kernel
theorem dX5_channelAt_13 : decode cX5_channelAt 13 = .ok (.iload_n 1, 1) := by decide +kernel
theorem dX5_channelAt_14 : decode cX5_channelAt 14 = .ok (.aaload, 1) := by decide +kernel
theorem dX5_channelAt_15 : decode cX5_channelAt 15 = .ok (.goto 4, 3) := by decide +kernel
theorem dX5_channelAt_18 : decode cX5_channelAt 18 = .ok (.aconst_null, 1) := by decide +kernel
theorem dX5_channelAt_19 : decode cX5_channelAt 19 = .ok (.areturn, 1) := by decide +kernel
theorem dX5_leastFree_0 : decode cX5_leastFree 0 = .ok (.iconst 0, 1) := by decide +kernel
theorem dX5_leastFree_1 : decode cX5_leastFree 1 = .ok (.istore_n 1, 1) := by decide +kernel
theorem dX5_leastFree_2 : decode cX5_leastFree 2 = .ok (.iload_n 1, 1) := by decide +kernel
theorem dX5_leastFree_3 : decode cX5_leastFree 3 = .ok (.bipush 8, 2) := by decide +kernel
theorem dX5_leastFree_5 : decode cX5_leastFree 5 = .ok (.if_icmp .ge 28, 3) := by decide +kernel
theorem dX5_leastFree_8 : decode cX5_leastFree 8 = .ok (.aload_n 0, 1) := by decide +kernel
theorem dX5_leastFree_9 : decode cX5_leastFree 9 = .ok (.getfield 18, 3) := by decide +kernel
theorem dX5_leastFree_12 : decode cX5_leastFree 12 = .ok (.iload_n 1, 1) := by decide +kernel
theorem dX5_leastFree_13 : decode cX5_leastFree 13 = .ok (.aaload, 1) := by decide +kernel
theorem dX5_leastFree_14 : decode cX5_leastFree 14 = .ok (.getfield 80, 3) := by decide +kernel
theorem dX5_leastFree_17 : decode cX5_leastFree 17 = .ok (.ifCond .ne 10, 3) := by decide +kernel
theorem dX5_leastFree_20 : decode cX5_leastFree 20 = .ok (.aload_n 0, 1) := by decide +kernel
theorem dX5_leastFree_21 : decode cX5_leastFree 21 = .ok (.getfield 18, 3) := by decide +kernel
theorem dX5_leastFree_24 : decode cX5_leastFree 24 = .ok (.iload_n 1, 1) := by decide +kernel
theorem dX5_leastFree_25 : decode cX5_leastFree 25 = .ok (.aaload, 1) := by decide +kernel
theorem dX5_leastFree_26 : decode cX5_leastFree 26 = .ok (.areturn, 1) := by decide +kernel
theorem dX5_leastFree_27 : decode cX5_leastFree 27 = .ok (.iinc 1 1, 3) := by decide +kernel
theorem dX5_leastFree_30 : decode cX5_leastFree 30 = .ok (.goto (-28), 3) := by decide +kernel
theorem dX5_leastFree_33 : decode cX5_leastFree 33 = .ok (.aconst_null, 1) := by decide +kernel
theorem dX5_leastFree_34 : decode cX5_leastFree 34 = .ok (.areturn, 1) := by decide +kernel
theorem dX5_startLeastFree_0 : decode cX5_startLeastFree 0 = .ok (.aload_n 0, 1) := by decide +kernel
theorem dX5_startLeastFree_1 : decode cX5_startLeastFree 1 = .ok (.invokevirtual 121, 3) := by decide +kernel
theorem dX5_startLeastFree_4 : decode cX5_startLeastFree 4 = .ok (.astore 4, 2) := by decide +kernel
theorem dX5_startLeastFree_6 : decode cX5_startLeastFree 6 = .ok (.aload 4, 2) := by decide +kernel
theorem dX5_startLeastFree_8 : decode cX5_startLeastFree 8 = .ok (.ifnonnull 5, 3) := by decide +kernel
theorem dX5_startLeastFree_11 : decode cX5_startLeastFree 11 = .ok (.iconst (-1), 1) := by decide +kernel
theorem dX5_startLeastFree_12 : decode cX5_startLeastFree 12 = .ok (.ireturn, 1) := by decide +kernel
theorem dX5_startLeastFree_13 : decode cX5_startLeastFree 13 = .ok (.aload 4, 2) := by decide +kernel
theorem dX5_startLeastFree_15 : decode cX5_startLeastFree 15 = .ok (.iload_n 1, 1) := by decide +kernel
theorem dX5_startLeastFree_16 : decode cX5_startLeastFree 16 = .ok (.iload_n 2, 1) := by decide +kernel
theorem dX5_startLeastFree_17 : decode cX5_startLeastFree 17 = .ok (.iload_n 3, 1) := by decide +kernel
theorem dX5_startLeastFree_18 : decode cX5_startLeastFree 18 = .ok (.invokevirtual 125, 3) := by decide +kernel
theorem dX5_startLeastFree_21 : decode cX5_startLeastFree 21 = .ok (.aload_n 0, 1) := by decide +kernel
theorem dX5_startLeastFree_22 : decode cX5_startLeastFree 22 = .ok (.aload 4, 2) := by decide +kernel
theorem dX5_startLeastFree_24 : decode cX5_startLeastFree 24 = .ok (.invokevirtual 129, 3) := by decide +kernel
theorem dX5_startLeastFree_27 : decode cX5_startLeastFree 27 = .ok (.aload 4, 2) := by decide +kernel
theorem dX5_startLeastFree_29 : decode cX5_startLeastFree 29 = .ok (.getfield 87, 3) := by decide +kernel
theorem dX5_startLeastFree_32 : decode cX5_startLeastFree 32 = .ok (.ireturn, 1) := by decide +kernel
theorem dX5_becomeReady_0 : decode cX5_becomeReady 0 = .ok (.aload_n 1, 1) := by decide +kernel
theorem dX5_becomeReady_1 : decode cX5_becomeReady 1 = .ok (.iconst 1, 1) := by decide +kernel
theorem dX5_becomeReady_2 : decode cX5_becomeReady 2 = .ok (.putfield 80, 3) := by decide +kernel
theorem dX5_becomeReady_5 : decode cX5_becomeReady 5 = .ok (.aload_n 0, 1) := by decide +kernel
theorem dX5_becomeReady_6 : decode cX5_becomeReady 6 = .ok (.aload_n 1, 1) := by decide +kernel
theorem dX5_becomeReady_7 : decode cX5_becomeReady 7 = .ok (.getfield 133, 3) := by decide +kernel
theorem dX5_becomeReady_10 : decode cX5_becomeReady 10 = .ok (.invokevirtual 99, 3) := by decide +kernel
theorem dX5_becomeReady_13 : decode cX5_becomeReady 13 = .ok (.aload_n 1, 1) := by decide +kernel
theorem dX5_becomeReady_14 : decode cX5_becomeReady 14 = .ok (.invokevirtual 136, 3) := by decide +kernel
theorem dX5_becomeReady_17 : decode cX5_becomeReady 17 = .ok (.return_, 1) := by decide +kernel
theorem dX5_step_0 : decode cX5_step 0 = .ok (.aload_n 0, 1) := by decide +kernel
theorem dX5_step_1 : decode cX5_step 1 = .ok (.invokevirtual 139, 3) := by decide +kernel
theorem dX5_step_4 : decode cX5_step 4 = .ok (.aload_n 0, 1) := by decide +kernel
theorem dX5_step_5 : decode cX5_step 5 = .ok (.invokevirtual 142, 3) := by decide +kernel
theorem dX5_step_8 : decode cX5_step 8 = .ok (.aload_n 0, 1) := by decide +kernel
theorem dX5_step_9 : decode cX5_step 9 = .ok (.getfield 49, 3) := by decide +kernel
theorem dX5_step_12 : decode cX5_step 12 = .ok (.ifnonnull 7, 3) := by decide +kernel
theorem dX5_step_15 : decode cX5_step 15 = .ok (.aload_n 0, 1) := by decide +kernel
theorem dX5_step_16 : decode cX5_step 16 = .ok (.invokevirtual 145, 3) := by decide +kernel
theorem dX5_step_19 : decode cX5_step 19 = .ok (.aload_n 0, 1) := by decide +kernel
theorem dX5_step_20 : decode cX5_step 20 = .ok (.getfield 49, 3) := by decide +kernel
theorem dX5_step_23 : decode cX5_step 23 = .ok (.astore_n 1, 1) := by decide +kernel
theorem dX5_step_24 : decode cX5_step 24 = .ok (.aload_n 1, 1) := by decide +kernel
theorem dX5_step_25 : decode cX5_step 25 = .ok (.ifnull 21, 3) := by decide +kernel
theorem dX5_step_28 : decode cX5_step 28 = .ok (.aload_n 0, 1) := by decide +kernel
theorem dX5_step_29 : decode cX5_step 29 = .ok (.aload_n 1, 1) := by decide +kernel
theorem dX5_step_30 : decode cX5_step 30 = .ok (.invokevirtual 148, 3) := by decide +kernel
theorem dX5_step_33 : decode cX5_step 33 = .ok (.aload_n 1, 1) := by decide +kernel
theorem dX5_step_34 : decode cX5_step 34 = .ok (.getfield 80, 3) := by decide +kernel
theorem dX5_step_37 : decode cX5_step 37 = .ok (.iconst 2, 1) := by decide +kernel
theorem dX5_step_38 : decode cX5_step 38 = .ok (.if_icmp .eq 8, 3) := by decide +kernel
theorem dX5_step_41 : decode cX5_step 41 = .ok (.aload_n 0, 1) := by decide +kernel
theorem dX5_step_42 : decode cX5_step 42 = .ok (.aconst_null, 1) := by decide +kernel
theorem dX5_step_43 : decode cX5_step 43 = .ok (.putfield 49, 3) := by decide +kernel
theorem dX5_step_46 : decode cX5_step 46 = .ok (.aload_n 0, 1) := by decide +kernel
theorem dX5_step_47 : decode cX5_step 47 = .ok (.dup, 1) := by decide +kernel
theorem dX5_step_48 : decode cX5_step 48 = .ok (.getfield 53, 3) := by decide +kernel
theorem dX5_step_51 : decode cX5_step 51 = .ok (.iconst 1, 1) := by decide +kernel
theorem dX5_step_52 : decode cX5_step 52 = .ok (.iadd, 1) := by decide +kernel
theorem dX5_step_53 : decode cX5_step 53 = .ok (.putfield 53, 3) := by decide +kernel
theorem dX5_step_56 : decode cX5_step 56 = .ok (.aload_n 1, 1) := by decide +kernel
theorem dX5_step_57 : decode cX5_step 57 = .ok (.ifnull 7, 3) := by decide +kernel
theorem dX5_step_60 : decode cX5_step 60 = .ok (.iconst 1, 1) := by decide +kernel
theorem dX5_step_61 : decode cX5_step 61 = .ok (.goto 4, 3) := by decide +kernel
theorem dX5_step_64 : decode cX5_step 64 = .ok (.iconst 0, 1) := by decide +kernel
theorem dX5_step_65 : decode cX5_step 65 = .ok (.ireturn, 1) := by decide +kernel
theorem dX5_wakeThoseWhoseTimeHasCome_0 : decode cX5_wakeThoseWhoseTimeHasCome 0 = .ok (.iconst 0, 1) := by decide +kernel
theorem dX5_wakeThoseWhoseTimeHasCome_1 : decode cX5_wakeThoseWhoseTimeHasCome 1 = .ok (.istore_n 1, 1) := by decide +kernel
theorem dX5_wakeThoseWhoseTimeHasCome_2 : decode cX5_wakeThoseWhoseTimeHasCome 2 = .ok (.iload_n 1, 1) := by decide +kernel
theorem dX5_wakeThoseWhoseTimeHasCome_3 : decode cX5_wakeThoseWhoseTimeHasCome 3 = .ok (.bipush 8, 2) := by decide +kernel
theorem dX5_wakeThoseWhoseTimeHasCome_5 : decode cX5_wakeThoseWhoseTimeHasCome 5 = .ok (.if_icmp .ge 48, 3) := by decide +kernel
theorem dX5_wakeThoseWhoseTimeHasCome_8 : decode cX5_wakeThoseWhoseTimeHasCome 8 = .ok (.aload_n 0, 1) := by decide +kernel
theorem dX5_wakeThoseWhoseTimeHasCome_9 : decode cX5_wakeThoseWhoseTimeHasCome 9 = .ok (.getfield 18, 3) := by decide +kernel
theorem dX5_wakeThoseWhoseTimeHasCome_12 : decode cX5_wakeThoseWhoseTimeHasCome 12 = .ok (.iload_n 1, 1) := by decide +kernel
theorem dX5_wakeThoseWhoseTimeHasCome_13 : decode cX5_wakeThoseWhoseTimeHasCome 13 = .ok (.aaload, 1) := by decide +kernel
theorem dX5_wakeThoseWhoseTimeHasCome_14 : decode cX5_wakeThoseWhoseTimeHasCome 14 = .ok (.getfield 80, 3) := by decide +kernel
theorem dX5_wakeThoseWhoseTimeHasCome_17 : decode cX5_wakeThoseWhoseTimeHasCome 17 = .ok (.iconst 4, 1) := by decide +kernel
theorem dX5_wakeThoseWhoseTimeHasCome_18 : decode cX5_wakeThoseWhoseTimeHasCome 18 = .ok (.if_icmp .ne 29, 3) := by decide +kernel
theorem dX5_wakeThoseWhoseTimeHasCome_21 : decode cX5_wakeThoseWhoseTimeHasCome 21 = .ok (.aload_n 0, 1) := by decide +kernel
theorem dX5_wakeThoseWhoseTimeHasCome_22 : decode cX5_wakeThoseWhoseTimeHasCome 22 = .ok (.aload_n 0, 1) := by decide +kernel
theorem dX5_wakeThoseWhoseTimeHasCome_23 : decode cX5_wakeThoseWhoseTimeHasCome 23 = .ok (.getfield 18, 3) := by decide +kernel
theorem dX5_wakeThoseWhoseTimeHasCome_26 : decode cX5_wakeThoseWhoseTimeHasCome 26 = .ok (.iload_n 1, 1) := by decide +kernel
theorem dX5_wakeThoseWhoseTimeHasCome_27 : decode cX5_wakeThoseWhoseTimeHasCome 27 = .ok (.aaload, 1) := by decide +kernel
theorem dX5_wakeThoseWhoseTimeHasCome_28 : decode cX5_wakeThoseWhoseTimeHasCome 28 = .ok (.getfield 151, 3) := by decide +kernel
theorem dX5_wakeThoseWhoseTimeHasCome_31 : decode cX5_wakeThoseWhoseTimeHasCome 31 = .ok (.invokevirtual 154, 3) := by decide +kernel
theorem dX5_wakeThoseWhoseTimeHasCome_34 : decode cX5_wakeThoseWhoseTimeHasCome 34 = .ok (.ifCond .eq 13, 3) := by decide +kernel
theorem dX5_wakeThoseWhoseTimeHasCome_37 : decode cX5_wakeThoseWhoseTimeHasCome 37 = .ok (.aload_n 0, 1) := by decide +kernel
theorem dX5_wakeThoseWhoseTimeHasCome_38 : decode cX5_wakeThoseWhoseTimeHasCome 38 = .ok (.aload_n 0, 1) := by decide +kernel
theorem dX5_wakeThoseWhoseTimeHasCome_39 : decode cX5_wakeThoseWhoseTimeHasCome 39 = .ok (.getfield 18, 3) := by decide +kernel
theorem dX5_wakeThoseWhoseTimeHasCome_42 : decode cX5_wakeThoseWhoseTimeHasCome 42 = .ok (.iload_n 1, 1) := by decide +kernel
theorem dX5_wakeThoseWhoseTimeHasCome_43 : decode cX5_wakeThoseWhoseTimeHasCome 43 = .ok (.aaload, 1) := by decide +kernel
theorem dX5_wakeThoseWhoseTimeHasCome_44 : decode cX5_wakeThoseWhoseTimeHasCome 44 = .ok (.invokevirtual 129, 3) := by decide +kernel
theorem dX5_wakeThoseWhoseTimeHasCome_47 : decode cX5_wakeThoseWhoseTimeHasCome 47 = .ok (.iinc 1 1, 3) := by decide +kernel
theorem dX5_wakeThoseWhoseTimeHasCome_50 : decode cX5_wakeThoseWhoseTimeHasCome 50 = .ok (.goto (-48), 3) := by decide +kernel
theorem dX5_wakeThoseWhoseTimeHasCome_53 : decode cX5_wakeThoseWhoseTimeHasCome 53 = .ok (.return_, 1) := by decide +kernel
theorem dX5_hasCome_0 : decode cX5_hasCome 0 = .ok (.iload_n 1, 1) := by decide +kernel
theorem dX5_hasCome_1 : decode cX5_hasCome 1 = .ok (.aload_n 0, 1) := by decide +kernel
theorem dX5_hasCome_2 : decode cX5_hasCome 2 = .ok (.getfield 53, 3) := by decide +kernel
theorem dX5_hasCome_5 : decode cX5_hasCome 5 = .ok (.isub, 1) := by decide +kernel
theorem dX5_hasCome_6 : decode cX5_hasCome 6 = .ok (.ifCond .gt 7, 3) := by decide +kernel
theorem dX5_hasCome_9 : decode cX5_hasCome 9 = .ok (.iconst 1, 1) := by decide +kernel
theorem dX5_hasCome_10 : decode cX5_hasCome 10 = .ok (.goto 4, 3) := by decide +kernel
theorem dX5_hasCome_13 : decode cX5_hasCome 13 = .ok (.iconst 0, 1) := by decide +kernel
theorem dX5_hasCome_14 : decode cX5_hasCome 14 = .ok (.ireturn, 1) := by decide +kernel
theorem dX5_giveWayToHigh_0 : decode cX5_giveWayToHigh 0 = .ok (.aload_n 0, 1) := by decide +kernel
theorem dX5_giveWayToHigh_1 : decode cX5_giveWayToHigh 1 = .ok (.getfield 49, 3) := by decide +kernel
theorem dX5_giveWayToHigh_4 : decode cX5_giveWayToHigh 4 = .ok (.ifnull 48, 3) := by decide +kernel
theorem dX5_giveWayToHigh_7 : decode cX5_giveWayToHigh 7 = .ok (.aload_n 0, 1) := by decide +kernel
theorem dX5_giveWayToHigh_8 : decode cX5_giveWayToHigh 8 = .ok (.getfield 49, 3) := by decide +kernel
theorem dX5_giveWayToHigh_11 : decode cX5_giveWayToHigh 11 = .ok (.getfield 133, 3) := by decide +kernel
theorem dX5_giveWayToHigh_14 : decode cX5_giveWayToHigh 14 = .ok (.iconst 1, 1) := by decide +kernel
theorem dX5_giveWayToHigh_15 : decode cX5_giveWayToHigh 15 = .ok (.if_icmp .ne 37, 3) := by decide +kernel
theorem dX5_giveWayToHigh_18 : decode cX5_giveWayToHigh 18 = .ok (.aload_n 0, 1) := by decide +kernel
theorem dX5_giveWayToHigh_19 : decode cX5_giveWayToHigh 19 = .ok (.getfield 35, 3) := by decide +kernel
theorem dX5_giveWayToHigh_22 : decode cX5_giveWayToHigh 22 = .ok (.getfield 157, 3) := by decide +kernel
theorem dX5_giveWayToHigh_25 : decode cX5_giveWayToHigh 25 = .ok (.ifCond .le 27, 3) := by decide +kernel
theorem dX5_giveWayToHigh_28 : decode cX5_giveWayToHigh 28 = .ok (.aload_n 0, 1) := by decide +kernel
theorem dX5_giveWayToHigh_29 : decode cX5_giveWayToHigh 29 = .ok (.getfield 49, 3) := by decide +kernel
theorem dX5_giveWayToHigh_32 : decode cX5_giveWayToHigh 32 = .ok (.iconst 1, 1) := by decide +kernel
theorem dX5_giveWayToHigh_33 : decode cX5_giveWayToHigh 33 = .ok (.putfield 80, 3) := by decide +kernel
theorem dX5_giveWayToHigh_36 : decode cX5_giveWayToHigh 36 = .ok (.aload_n 0, 1) := by decide +kernel
theorem dX5_giveWayToHigh_37 : decode cX5_giveWayToHigh 37 = .ok (.getfield 39, 3) := by decide +kernel
theorem dX5_giveWayToHigh_40 : decode cX5_giveWayToHigh 40 = .ok (.aload_n 0, 1) := by decide +kernel
theorem dX5_giveWayToHigh_41 : decode cX5_giveWayToHigh 41 = .ok (.getfield 49, 3) := by decide +kernel
theorem dX5_giveWayToHigh_44 : decode cX5_giveWayToHigh 44 = .ok (.invokevirtual 158, 3) := by decide +kernel
theorem dX5_giveWayToHigh_47 : decode cX5_giveWayToHigh 47 = .ok (.aload_n 0, 1) := by decide +kernel
theorem dX5_giveWayToHigh_48 : decode cX5_giveWayToHigh 48 = .ok (.aconst_null, 1) := by decide +kernel
theorem dX5_giveWayToHigh_49 : decode cX5_giveWayToHigh 49 = .ok (.putfield 49, 3) := by decide +kernel
theorem dX5_giveWayToHigh_52 : decode cX5_giveWayToHigh 52 = .ok (.return_, 1) := by decide +kernel
theorem dX5_takeNext_0 : decode cX5_takeNext 0 = .ok (.aload_n 0, 1) := by decide +kernel
theorem dX5_takeNext_1 : decode cX5_takeNext 1 = .ok (.aload_n 0, 1) := by decide +kernel
theorem dX5_takeNext_2 : decode cX5_takeNext 2 = .ok (.getfield 35, 3) := by decide +kernel
theorem dX5_takeNext_5 : decode cX5_takeNext 5 = .ok (.getfield 157, 3) := by decide +kernel
theorem dX5_takeNext_8 : decode cX5_takeNext 8 = .ok (.ifCond .le 13, 3) := by decide +kernel
theorem dX5_takeNext_11 : decode cX5_takeNext 11 = .ok (.aload_n 0, 1) := by decide +kernel
theorem dX5_takeNext_12 : decode cX5_takeNext 12 = .ok (.getfield 35, 3) := by decide +kernel
theorem dX5_takeNext_15 : decode cX5_takeNext 15 = .ok (.invokevirtual 161, 3) := by decide +kernel
theorem dX5_takeNext_18 : decode cX5_takeNext 18 = .ok (.goto 10, 3) := by decide +kernel
theorem dX5_takeNext_21 : decode cX5_takeNext 21 = .ok (.aload_n 0, 1) := by decide +kernel
theorem dX5_takeNext_22 : decode cX5_takeNext 22 = .ok (.getfield 39, 3) := by decide +kernel
theorem dX5_takeNext_25 : decode cX5_takeNext 25 = .ok (.invokevirtual 161, 3) := by decide +kernel
theorem dX5_takeNext_28 : decode cX5_takeNext 28 = .ok (.putfield 49, 3) := by decide +kernel
theorem dX5_takeNext_31 : decode cX5_takeNext 31 = .ok (.aload_n 0, 1) := by decide +kernel
theorem dX5_takeNext_32 : decode cX5_takeNext 32 = .ok (.getfield 49, 3) := by decide +kernel
theorem dX5_takeNext_35 : decode cX5_takeNext 35 = .ok (.ifnull 19, 3) := by decide +kernel
theorem dX5_takeNext_38 : decode cX5_takeNext 38 = .ok (.aload_n 0, 1) := by decide +kernel
theorem dX5_takeNext_39 : decode cX5_takeNext 39 = .ok (.getfield 49, 3) := by decide +kernel
theorem dX5_takeNext_42 : decode cX5_takeNext 42 = .ok (.iconst 2, 1) := by decide +kernel
theorem dX5_takeNext_43 : decode cX5_takeNext 43 = .ok (.putfield 80, 3) := by decide +kernel
theorem dX5_takeNext_46 : decode cX5_takeNext 46 = .ok (.aload_n 0, 1) := by decide +kernel
theorem dX5_takeNext_47 : decode cX5_takeNext 47 = .ok (.getfield 49, 3) := by decide +kernel
theorem dX5_takeNext_50 : decode cX5_takeNext 50 = .ok (.iconst 0, 1) := by decide +kernel
theorem dX5_takeNext_51 : decode cX5_takeNext 51 = .ok (.putfield 164, 3) := by decide +kernel
theorem dX5_takeNext_54 : decode cX5_takeNext 54 = .ok (.return_, 1) := by decide +kernel
theorem dX5_execute_0 : decode cX5_execute 0 = .ok (.aload_n 0, 1) := by decide +kernel
theorem dX5_execute_1 : decode cX5_execute 1 = .ok (.getfield 10, 3) := by decide +kernel
theorem dX5_execute_4 : decode cX5_execute 4 = .ok (.aload_n 1, 1) := by decide +kernel
theorem dX5_execute_5 : decode cX5_execute 5 = .ok (.getfield 167, 3) := by decide +kernel
theorem dX5_execute_8 : decode cX5_execute 8 = .ok (.invokevirtual 170, 3) := by decide +kernel
theorem dX5_execute_11 : decode cX5_execute 11 = .ok (.istore_n 2, 1) := by decide +kernel
theorem dX5_execute_12 : decode cX5_execute 12 = .ok (.aload_n 0, 1) := by decide +kernel
theorem dX5_execute_13 : decode cX5_execute 13 = .ok (.getfield 10, 3) := by decide +kernel
theorem dX5_execute_16 : decode cX5_execute 16 = .ok (.aload_n 1, 1) := by decide +kernel
theorem dX5_execute_17 : decode cX5_execute 17 = .ok (.getfield 167, 3) := by decide +kernel
theorem dX5_execute_20 : decode cX5_execute 20 = .ok (.invokevirtual 173, 3) := by decide +kernel
theorem dX5_execute_23 : decode cX5_execute 23 = .ok (.istore_n 3, 1) := by decide +kernel
theorem dX5_execute_24 : decode cX5_execute 24 = .ok (.aload_n 1, 1) := by decide +kernel
theorem dX5_execute_25 : decode cX5_execute 25 = .ok (.dup, 1) := by decide +kernel
theorem dX5_execute_26 : decode cX5_execute 26 = .ok (.getfield 164, 3) := by decide +kernel
theorem dX5_execute_29 : decode cX5_execute 29 = .ok (.iconst 1, 1) := by decide +kernel
theorem dX5_execute_30 : decode cX5_execute 30 = .ok (.iadd, 1) := by decide +kernel
theorem dX5_execute_31 : decode cX5_execute 31 = .ok (.putfield 164, 3) := by decide +kernel
theorem dX5_execute_34 : decode cX5_execute 34 = .ok (.iload_n 2, 1) := by decide +kernel
theorem dX5_execute_35 : decode cX5_execute 35 = .ok (.tableswitch 184 0 15 #[176, 184, 184, 184, 184, 184, 184, 184, 77, 86, 95, 108, 184, 121, 129, 168], 77) := by decide +kernel
theorem dX5_execute_112 : decode cX5_execute 112 = .ok (.aload_n 0, 1) := by decide +kernel
theorem dX5_execute_113 : decode cX5_execute 113 = .ok (.aload_n 1, 1) := by decide +kernel
theorem dX5_execute_114 : decode cX5_execute 114 = .ok (.iload_n 3, 1) := by decide +kernel
theorem dX5_execute_115 : decode cX5_execute 115 = .ok (.invokevirtual 176, 3) := by decide +kernel
theorem dX5_execute_118 : decode cX5_execute 118 = .ok (.goto 118, 3) := by decide +kernel
theorem dX5_execute_121 : decode cX5_execute 121 = .ok (.aload_n 0, 1) := by decide +kernel
theorem dX5_execute_122 : decode cX5_execute 122 = .ok (.aload_n 1, 1) := by decide +kernel
theorem dX5_execute_123 : decode cX5_execute 123 = .ok (.iload_n 3, 1) := by decide +kernel
theorem dX5_execute_124 : decode cX5_execute 124 = .ok (.invokevirtual 180, 3) := by decide +kernel
theorem dX5_execute_127 : decode cX5_execute 127 = .ok (.goto 109, 3) := by decide +kernel
theorem dX5_execute_130 : decode cX5_execute 130 = .ok (.aload_n 0, 1) := by decide +kernel
theorem dX5_execute_131 : decode cX5_execute 131 = .ok (.aload_n 1, 1) := by decide +kernel
theorem dX5_execute_132 : decode cX5_execute 132 = .ok (.aload_n 0, 1) := by decide +kernel
theorem dX5_execute_133 : decode cX5_execute 133 = .ok (.iload_n 3, 1) := by decide +kernel
theorem dX5_execute_134 : decode cX5_execute 134 = .ok (.invokevirtual 107, 3) := by decide +kernel
theorem dX5_execute_137 : decode cX5_execute 137 = .ok (.invokevirtual 183, 3) := by decide +kernel
theorem dX5_execute_140 : decode cX5_execute 140 = .ok (.goto 96, 3) := by decide +kernel
theorem dX5_execute_143 : decode cX5_execute 143 = .ok (.aload_n 0, 1) := by decide +kernel
theorem dX5_execute_144 : decode cX5_execute 144 = .ok (.aload_n 1, 1) := by decide +kernel
theorem dX5_execute_145 : decode cX5_execute 145 = .ok (.aload_n 0, 1) := by decide +kernel
theorem dX5_execute_146 : decode cX5_execute 146 = .ok (.iload_n 3, 1) := by decide +kernel
theorem dX5_execute_147 : decode cX5_execute 147 = .ok (.invokevirtual 107, 3) := by decide +kernel
theorem dX5_execute_150 : decode cX5_execute 150 = .ok (.invokevirtual 187, 3) := by decide +kernel
theorem dX5_execute_153 : decode cX5_execute 153 = .ok (.goto 83, 3) := by decide +kernel
theorem dX5_execute_156 : decode cX5_execute 156 = .ok (.aload_n 0, 1) := by decide +kernel
theorem dX5_execute_157 : decode cX5_execute 157 = .ok (.aload_n 1, 1) := by decide +kernel
theorem dX5_execute_158 : decode cX5_execute 158 = .ok (.invokevirtual 190, 3) := by decide +kernel
theorem dX5_execute_161 : decode cX5_execute 161 = .ok (.goto 75, 3) := by decide +kernel
theorem dX5_execute_164 : decode cX5_execute 164 = .ok (.aload_n 1, 1) := by decide +kernel
theorem dX5_execute_165 : decode cX5_execute 165 = .ok (.aload_n 0, 1) := by decide +kernel
theorem dX5_execute_166 : decode cX5_execute 166 = .ok (.iload_n 3, 1) := by decide +kernel
theorem dX5_execute_167 : decode cX5_execute 167 = .ok (.iconst 1, 1) := by decide +kernel
theorem dX5_execute_168 : decode cX5_execute 168 = .ok (.iand, 1) := by decide +kernel
theorem dX5_execute_169 : decode cX5_execute 169 = .ok (.ifCond .ne 7, 3) := by decide +kernel
theorem dX5_execute_172 : decode cX5_execute 172 = .ok (.iconst 0, 1) := by decide +kernel
theorem dX5_execute_173 : decode cX5_execute 173 = .ok (.goto 4, 3) := by decide +kernel
theorem dX5_execute_176 : decode cX5_execute 176 = .ok (.iconst 1, 1) := by decide +kernel
theorem dX5_execute_177 : decode cX5_execute 177 = .ok (.iload_n 3, 1) := by decide +kernel
theorem dX5_execute_178 : decode cX5_execute 178 = .ok (.iconst 2, 1) := by decide +kernel
theorem dX5_execute_179 : decode cX5_execute 179 = .ok (.idiv, 1) := by decide +kernel
theorem dX5_execute_180 : decode cX5_execute 180 = .ok (.aload_n 1, 1) := by decide +kernel
theorem dX5_execute_181 : decode cX5_execute 181 = .ok (.getfield 193, 3) := by decide +kernel
theorem dX5_execute_184 : decode cX5_execute 184 = .ok (.invokevirtual 72, 3) := by decide +kernel
theorem dX5_execute_187 : decode cX5_execute 187 = .ok (.invokevirtual 196, 3) := by decide +kernel
theorem dX5_execute_190 : decode cX5_execute 190 = .ok (.aload_n 1, 1) := by decide +kernel
theorem dX5_execute_191 : decode cX5_execute 191 = .ok (.dup, 1) := by decide +kernel
theorem dX5_execute_192 : decode cX5_execute 192 = .ok (.getfield 167, 3) := by decide +kernel
theorem dX5_execute_195 : decode cX5_execute 195 = .ok (.iconst 1, 1) := by decide +kernel
theorem dX5_execute_196 : decode cX5_execute 196 = .ok (.iadd, 1) := by decide +kernel
theorem dX5_execute_197 : decode cX5_execute 197 = .ok (.putfield 167, 3) := by decide +kernel
theorem dX5_execute_200 : decode cX5_execute 200 = .ok (.goto 36, 3) := by decide +kernel
theorem dX5_execute_203 : decode cX5_execute 203 = .ok (.aload_n 1, 1) := by decide +kernel
theorem dX5_execute_204 : decode cX5_execute 204 = .ok (.iconst 0, 1) := by decide +kernel
theorem dX5_execute_205 : decode cX5_execute 205 = .ok (.putfield 80, 3) := by decide +kernel
theorem dX5_execute_208 : decode cX5_execute 208 = .ok (.goto 28, 3) := by decide +kernel
theorem dX5_execute_211 : decode cX5_execute 211 = .ok (.aload_n 1, 1) := by decide +kernel
theorem dX5_execute_212 : decode cX5_execute 212 = .ok (.iconst 5, 1) := by decide +kernel
theorem dX5_execute_213 : decode cX5_execute 213 = .ok (.putfield 80, 3) := by decide +kernel
theorem dX5_execute_216 : decode cX5_execute 216 = .ok (.goto 20, 3) := by decide +kernel
theorem dX5_execute_219 : decode cX5_execute 219 = .ok (.aload_n 0, 1) := by decide +kernel
theorem dX5_execute_220 : decode cX5_execute 220 = .ok (.aload_n 1, 1) := by decide +kernel
theorem dX5_execute_221 : decode cX5_execute 221 = .ok (.iload_n 2, 1) := by decide +kernel
theorem dX5_execute_222 : decode cX5_execute 222 = .ok (.iload_n 3, 1) := by decide +kernel
theorem dX5_execute_223 : decode cX5_execute 223 = .ok (.invokevirtual 199, 3) := by decide +kernel
theorem dX5_execute_226 : decode cX5_execute 226 = .ok (.aload_n 1, 1) := by decide +kernel
theorem dX5_execute_227 : decode cX5_execute 227 = .ok (.dup, 1) := by decide +kernel
theorem dX5_execute_228 : decode cX5_execute 228 = .ok (.getfield 167, 3) := by decide +kernel
theorem dX5_execute_231 : decode cX5_execute 231 = .ok (.iconst 1, 1) := by decide +kernel
theorem dX5_execute_232 : decode cX5_execute 232 = .ok (.iadd, 1) := by decide +kernel
theorem dX5_execute_233 : decode cX5_execute 233 = .ok (.putfield 167, 3) := by decide +kernel
theorem dX5_execute_236 : decode cX5_execute 236 = .ok (.return_, 1) := by decide +kernel
theorem dX5_compute_0 : decode cX5_compute 0 = .ok (.iload_n 2, 1) := by decide +kernel
theorem dX5_compute_1 : decode cX5_compute 1 = .ok (.tableswitch 181 1 12 #[63, 71, 83, 99, 115, 131, 147, 181, 181, 181, 181, 170], 63) := by decide +kernel
theorem dX5_compute_64 : decode cX5_compute 64 = .ok (.aload_n 1, 1) := by decide +kernel
theorem dX5_compute_65 : decode cX5_compute 65 = .ok (.iload_n 3, 1) := by decide +kernel
theorem dX5_compute_66 : decode cX5_compute 66 = .ok (.invokevirtual 196, 3) := by decide +kernel
theorem dX5_compute_69 : decode cX5_compute 69 = .ok (.goto 113, 3) := by decide +kernel
theorem dX5_compute_72 : decode cX5_compute 72 = .ok (.aload_n 1, 1) := by decide +kernel
theorem dX5_compute_73 : decode cX5_compute 73 = .ok (.aload_n 1, 1) := by decide +kernel
theorem dX5_compute_74 : decode cX5_compute 74 = .ok (.iload_n 3, 1) := by decide +kernel
theorem dX5_compute_75 : decode cX5_compute 75 = .ok (.invokevirtual 203, 3) := by decide +kernel
theorem dX5_compute_78 : decode cX5_compute 78 = .ok (.invokevirtual 196, 3) := by decide +kernel
theorem dX5_compute_81 : decode cX5_compute 81 = .ok (.goto 101, 3) := by decide +kernel
theorem dX5_compute_84 : decode cX5_compute 84 = .ok (.aload_n 1, 1) := by decide +kernel
theorem dX5_compute_85 : decode cX5_compute 85 = .ok (.iload_n 3, 1) := by decide +kernel
theorem dX5_compute_86 : decode cX5_compute 86 = .ok (.aload_n 1, 1) := by decide +kernel
theorem dX5_compute_87 : decode cX5_compute 87 = .ok (.getfield 193, 3) := by decide +kernel
theorem dX5_compute_90 : decode cX5_compute 90 = .ok (.invokevirtual 206, 3) := by decide +kernel
theorem dX5_compute_93 : decode cX5_compute 93 = .ok (.aload_n 1, 1) := by decide +kernel
theorem dX5_compute_94 : decode cX5_compute 94 = .ok (.invokevirtual 210, 3) := by decide +kernel
theorem dX5_compute_97 : decode cX5_compute 97 = .ok (.goto 85, 3) := by decide +kernel
theorem dX5_compute_100 : decode cX5_compute 100 = .ok (.aload_n 1, 1) := by decide +kernel
theorem dX5_compute_101 : decode cX5_compute 101 = .ok (.aload_n 1, 1) := by decide +kernel
theorem dX5_compute_102 : decode cX5_compute 102 = .ok (.getfield 213, 3) := by decide +kernel
theorem dX5_compute_105 : decode cX5_compute 105 = .ok (.aload_n 1, 1) := by decide +kernel
theorem dX5_compute_106 : decode cX5_compute 106 = .ok (.getfield 193, 3) := by decide +kernel
theorem dX5_compute_109 : decode cX5_compute 109 = .ok (.iadd, 1) := by decide +kernel
theorem dX5_compute_110 : decode cX5_compute 110 = .ok (.invokevirtual 216, 3) := by decide +kernel
theorem dX5_compute_113 : decode cX5_compute 113 = .ok (.goto 69, 3) := by decide +kernel
theorem dX5_compute_116 : decode cX5_compute 116 = .ok (.aload_n 1, 1) := by decide +kernel
theorem dX5_compute_117 : decode cX5_compute 117 = .ok (.aload_n 1, 1) := by decide +kernel
theorem dX5_compute_118 : decode cX5_compute 118 = .ok (.getfield 213, 3) := by decide +kernel
theorem dX5_compute_121 : decode cX5_compute 121 = .ok (.aload_n 1, 1) := by decide +kernel
theorem dX5_compute_122 : decode cX5_compute 122 = .ok (.getfield 193, 3) := by decide +kernel
theorem dX5_compute_125 : decode cX5_compute 125 = .ok (.isub, 1) := by decide +kernel
theorem dX5_compute_126 : decode cX5_compute 126 = .ok (.invokevirtual 216, 3) := by decide +kernel
theorem dX5_compute_129 : decode cX5_compute 129 = .ok (.goto 53, 3) := by decide +kernel
theorem dX5_compute_132 : decode cX5_compute 132 = .ok (.aload_n 1, 1) := by decide +kernel
theorem dX5_compute_133 : decode cX5_compute 133 = .ok (.aload_n 1, 1) := by decide +kernel
theorem dX5_compute_134 : decode cX5_compute 134 = .ok (.getfield 213, 3) := by decide +kernel
theorem dX5_compute_137 : decode cX5_compute 137 = .ok (.aload_n 1, 1) := by decide +kernel
theorem dX5_compute_138 : decode cX5_compute 138 = .ok (.getfield 193, 3) := by decide +kernel
theorem dX5_compute_141 : decode cX5_compute 141 = .ok (.imul, 1) := by decide +kernel
theorem dX5_compute_142 : decode cX5_compute 142 = .ok (.invokevirtual 216, 3) := by decide +kernel
theorem dX5_compute_145 : decode cX5_compute 145 = .ok (.goto 37, 3) := by decide +kernel
theorem dX5_compute_148 : decode cX5_compute 148 = .ok (.aload_n 1, 1) := by decide +kernel
theorem dX5_compute_149 : decode cX5_compute 149 = .ok (.aload_n 1, 1) := by decide +kernel
theorem dX5_compute_150 : decode cX5_compute 150 = .ok (.getfield 213, 3) := by decide +kernel
theorem dX5_compute_153 : decode cX5_compute 153 = .ok (.aload_n 1, 1) := by decide +kernel
theorem dX5_compute_154 : decode cX5_compute 154 = .ok (.getfield 193, 3) := by decide +kernel
theorem dX5_compute_157 : decode cX5_compute 157 = .ok (.if_icmp .le 7, 3) := by decide +kernel
theorem dX5_compute_160 : decode cX5_compute 160 = .ok (.iconst 1, 1) := by decide +kernel
theorem dX5_compute_161 : decode cX5_compute 161 = .ok (.goto 4, 3) := by decide +kernel
theorem dX5_compute_164 : decode cX5_compute 164 = .ok (.iconst 0, 1) := by decide +kernel
theorem dX5_compute_165 : decode cX5_compute 165 = .ok (.invokevirtual 216, 3) := by decide +kernel
theorem dX5_compute_168 : decode cX5_compute 168 = .ok (.goto 14, 3) := by decide +kernel
theorem dX5_compute_171 : decode cX5_compute 171 = .ok (.aload_n 1, 1) := by decide +kernel
theorem dX5_compute_172 : decode cX5_compute 172 = .ok (.aload_n 0, 1) := by decide +kernel
theorem dX5_compute_173 : decode cX5_compute 173 = .ok (.getfield 53, 3) := by decide +kernel
theorem dX5_compute_176 : decode cX5_compute 176 = .ok (.invokevirtual 196, 3) := by decide +kernel
theorem dX5_compute_179 : decode cX5_compute 179 = .ok (.goto 3, 3) := by decide +kernel
theorem dX5_compute_182 : decode cX5_compute 182 = .ok (.return_, 1) := by decide +kernel
theorem dX5_jump_0 : decode cX5_jump 0 = .ok (.aload_n 1, 1) := by decide +kernel
theorem dX5_jump_1 : decode cX5_jump 1 = .ok (.iload_n 2, 1) := by decide +kernel
theorem dX5_jump_2 : decode cX5_jump 2 = .ok (.putfield 167, 3) := by decide +kernel
theorem dX5_jump_5 : decode cX5_jump 5 = .ok (.aload_n 1, 1) := by decide +kernel
theorem dX5_jump_6 : decode cX5_jump 6 = .ok (.getfield 133, 3) := by decide +kernel
theorem dX5_jump_9 : decode cX5_jump 9 = .ok (.iconst 1, 1) := by decide +kernel
theorem dX5_jump_10 : decode cX5_jump 10 = .ok (.if_icmp .ne 17, 3) := by decide +kernel
theorem dX5_jump_13 : decode cX5_jump 13 = .ok (.aload_n 1, 1) := by decide +kernel
theorem dX5_jump_14 : decode cX5_jump 14 = .ok (.getfield 164, 3) := by decide +kernel
theorem dX5_jump_17 : decode cX5_jump 17 = .ok (.bipush 8, 2) := by decide +kernel
theorem dX5_jump_19 : decode cX5_jump 19 = .ok (.if_icmp .lt 8, 3) := by decide +kernel
theorem dX5_jump_22 : decode cX5_jump 22 = .ok (.aload_n 0, 1) := by decide +kernel
theorem dX5_jump_23 : decode cX5_jump 23 = .ok (.aload_n 1, 1) := by decide +kernel
theorem dX5_jump_24 : decode cX5_jump 24 = .ok (.invokevirtual 129, 3) := by decide +kernel
theorem dX5_jump_27 : decode cX5_jump 27 = .ok (.return_, 1) := by decide +kernel
theorem dX5_jumpIfZero_0 : decode cX5_jumpIfZero 0 = .ok (.aload_n 1, 1) := by decide +kernel
theorem dX5_jumpIfZero_1 : decode cX5_jumpIfZero 1 = .ok (.getfield 193, 3) := by decide +kernel
theorem dX5_jumpIfZero_4 : decode cX5_jumpIfZero 4 = .ok (.ifCond .ne 11, 3) := by decide +kernel
theorem dX5_jumpIfZero_7 : decode cX5_jumpIfZero 7 = .ok (.aload_n 1, 1) := by decide +kernel
theorem dX5_jumpIfZero_8 : decode cX5_jumpIfZero 8 = .ok (.iload_n 2, 1) := by decide +kernel
theorem dX5_jumpIfZero_9 : decode cX5_jumpIfZero 9 = .ok (.putfield 167, 3) := by decide +kernel
theorem dX5_jumpIfZero_12 : decode cX5_jumpIfZero 12 = .ok (.goto 17, 3) := by decide +kernel
theorem dX5_jumpIfZero_15 : decode cX5_jumpIfZero 15 = .ok (.aload_n 1, 1) := by decide +kernel
theorem dX5_jumpIfZero_16 : decode cX5_jumpIfZero 16 = .ok (.invokevirtual 210, 3) := by decide +kernel
theorem dX5_jumpIfZero_19 : decode cX5_jumpIfZero 19 = .ok (.aload_n 1, 1) := by decide +kernel
theorem dX5_jumpIfZero_20 : decode cX5_jumpIfZero 20 = .ok (.dup, 1) := by decide +kernel
theorem dX5_jumpIfZero_21 : decode cX5_jumpIfZero 21 = .ok (.getfield 167, 3) := by decide +kernel
theorem dX5_jumpIfZero_24 : decode cX5_jumpIfZero 24 = .ok (.iconst 1, 1) := by decide +kernel
theorem dX5_jumpIfZero_25 : decode cX5_jumpIfZero 25 = .ok (.iadd, 1) := by decide +kernel
theorem dX5_jumpIfZero_26 : decode cX5_jumpIfZero 26 = .ok (.putfield 167, 3) := by decide +kernel
theorem dX5_jumpIfZero_29 : decode cX5_jumpIfZero 29 = .ok (.return_, 1) := by decide +kernel
theorem dX5_awaitTime_0 : decode cX5_awaitTime 0 = .ok (.aload_n 1, 1) := by decide +kernel
theorem dX5_awaitTime_1 : decode cX5_awaitTime 1 = .ok (.getfield 193, 3) := by decide +kernel
theorem dX5_awaitTime_4 : decode cX5_awaitTime 4 = .ok (.istore_n 2, 1) := by decide +kernel
theorem dX5_awaitTime_5 : decode cX5_awaitTime 5 = .ok (.aload_n 1, 1) := by decide +kernel
theorem dX5_awaitTime_6 : decode cX5_awaitTime 6 = .ok (.invokevirtual 210, 3) := by decide +kernel
theorem dX5_awaitTime_9 : decode cX5_awaitTime 9 = .ok (.aload_n 1, 1) := by decide +kernel
theorem dX5_awaitTime_10 : decode cX5_awaitTime 10 = .ok (.dup, 1) := by decide +kernel
theorem dX5_awaitTime_11 : decode cX5_awaitTime 11 = .ok (.getfield 167, 3) := by decide +kernel
theorem dX5_awaitTime_14 : decode cX5_awaitTime 14 = .ok (.iconst 1, 1) := by decide +kernel
theorem dX5_awaitTime_15 : decode cX5_awaitTime 15 = .ok (.iadd, 1) := by decide +kernel
theorem dX5_awaitTime_16 : decode cX5_awaitTime 16 = .ok (.putfield 167, 3) := by decide +kernel
theorem dX5_awaitTime_19 : decode cX5_awaitTime 19 = .ok (.aload_n 0, 1) := by decide +kernel
theorem dX5_awaitTime_20 : decode cX5_awaitTime 20 = .ok (.iload_n 2, 1) := by decide +kernel
theorem dX5_awaitTime_21 : decode cX5_awaitTime 21 = .ok (.invokevirtual 154, 3) := by decide +kernel
theorem dX5_awaitTime_24 : decode cX5_awaitTime 24 = .ok (.ifCond .ne 13, 3) := by decide +kernel
theorem dX5_awaitTime_27 : decode cX5_awaitTime 27 = .ok (.aload_n 1, 1) := by decide +kernel
theorem dX5_awaitTime_28 : decode cX5_awaitTime 28 = .ok (.iload_n 2, 1) := by decide +kernel
theorem dX5_awaitTime_29 : decode cX5_awaitTime 29 = .ok (.putfield 151, 3) := by decide +kernel
theorem dX5_awaitTime_32 : decode cX5_awaitTime 32 = .ok (.aload_n 1, 1) := by decide +kernel
theorem dX5_awaitTime_33 : decode cX5_awaitTime 33 = .ok (.iconst 4, 1) := by decide +kernel
theorem dX5_awaitTime_34 : decode cX5_awaitTime 34 = .ok (.putfield 80, 3) := by decide +kernel
theorem dX5_awaitTime_37 : decode cX5_awaitTime 37 = .ok (.return_, 1) := by decide +kernel
theorem dX5_send_0 : decode cX5_send 0 = .ok (.aload_n 2, 1) := by decide +kernel
theorem dX5_send_1 : decode cX5_send 1 = .ok (.ifnull 10, 3) := by decide +kernel
theorem dX5_send_4 : decode cX5_send 4 = .ok (.aload_n 2, 1) := by decide +kernel
theorem dX5_send_5 : decode cX5_send 5 = .ok (.invokevirtual 219, 3) := by decide +kernel
theorem dX5_send_8 : decode cX5_send 8 = .ok (.ifCond .eq 9, 3) := by decide +kernel
theorem dX5_send_11 : decode cX5_send 11 = .ok (.aload_n 1, 1) := by decide +kernel
theorem dX5_send_12 : decode cX5_send 12 = .ok (.iconst 5, 1) := by decide +kernel
theorem dX5_send_13 : decode cX5_send 13 = .ok (.putfield 80, 3) := by decide +kernel
theorem dX5_send_16 : decode cX5_send 16 = .ok (.return_, 1) := by decide +kernel
theorem dX5_send_17 : decode cX5_send 17 = .ok (.aload_n 1, 1) := by decide +kernel
theorem dX5_send_18 : decode cX5_send 18 = .ok (.getfield 193, 3) := by decide +kernel
theorem dX5_send_21 : decode cX5_send 21 = .ok (.istore_n 3, 1) := by decide +kernel
theorem dX5_send_22 : decode cX5_send 22 = .ok (.aload_n 1, 1) := by decide +kernel
theorem dX5_send_23 : decode cX5_send 23 = .ok (.invokevirtual 210, 3) := by decide +kernel
theorem dX5_send_26 : decode cX5_send 26 = .ok (.aload_n 1, 1) := by decide +kernel
theorem dX5_send_27 : decode cX5_send 27 = .ok (.dup, 1) := by decide +kernel
theorem dX5_send_28 : decode cX5_send 28 = .ok (.getfield 167, 3) := by decide +kernel
theorem dX5_send_31 : decode cX5_send 31 = .ok (.iconst 1, 1) := by decide +kernel
theorem dX5_send_32 : decode cX5_send 32 = .ok (.iadd, 1) := by decide +kernel
theorem dX5_send_33 : decode cX5_send 33 = .ok (.putfield 167, 3) := by decide +kernel
theorem dX5_send_36 : decode cX5_send 36 = .ok (.aload_n 2, 1) := by decide +kernel
theorem dX5_send_37 : decode cX5_send 37 = .ok (.getfield 222, 3) := by decide +kernel
theorem dX5_send_40 : decode cX5_send 40 = .ok (.astore 4, 2) := by decide +kernel
theorem dX5_send_42 : decode cX5_send 42 = .ok (.aload 4, 2) := by decide +kernel
theorem dX5_send_44 : decode cX5_send 44 = .ok (.ifnonnull 11, 3) := by decide +kernel
theorem dX5_send_47 : decode cX5_send 47 = .ok (.aload_n 2, 1) := by decide +kernel
theorem dX5_send_48 : decode cX5_send 48 = .ok (.aload_n 1, 1) := by decide +kernel
theorem dX5_send_49 : decode cX5_send 49 = .ok (.iconst 1, 1) := by decide +kernel
theorem dX5_send_50 : decode cX5_send 50 = .ok (.iload_n 3, 1) := by decide +kernel
theorem dX5_send_51 : decode cX5_send 51 = .ok (.invokevirtual 225, 3) := by decide +kernel
theorem dX5_send_54 : decode cX5_send 54 = .ok (.return_, 1) := by decide +kernel
theorem dX5_send_55 : decode cX5_send 55 = .ok (.aload_n 2, 1) := by decide +kernel
theorem dX5_send_56 : decode cX5_send 56 = .ok (.invokevirtual 83, 3) := by decide +kernel
theorem dX5_send_59 : decode cX5_send 59 = .ok (.aload_n 0, 1) := by decide +kernel
theorem dX5_send_60 : decode cX5_send 60 = .ok (.aload_n 2, 1) := by decide +kernel
theorem dX5_send_61 : decode cX5_send 61 = .ok (.getfield 229, 3) := by decide +kernel
theorem dX5_send_64 : decode cX5_send 64 = .ok (.aload_n 1, 1) := by decide +kernel
theorem dX5_send_65 : decode cX5_send 65 = .ok (.aload 4, 2) := by decide +kernel
theorem dX5_send_67 : decode cX5_send 67 = .ok (.iload_n 3, 1) := by decide +kernel
theorem dX5_send_68 : decode cX5_send 68 = .ok (.invokevirtual 230, 3) := by decide +kernel
theorem dX5_send_71 : decode cX5_send 71 = .ok (.aload_n 0, 1) := by decide +kernel
theorem dX5_send_72 : decode cX5_send 72 = .ok (.aload 4, 2) := by decide +kernel
theorem dX5_send_74 : decode cX5_send 74 = .ok (.invokevirtual 129, 3) := by decide +kernel
theorem dX5_send_77 : decode cX5_send 77 = .ok (.return_, 1) := by decide +kernel
theorem dX5_receive_0 : decode cX5_receive 0 = .ok (.aload_n 2, 1) := by decide +kernel
theorem dX5_receive_1 : decode cX5_receive 1 = .ok (.ifnull 10, 3) := by decide +kernel
theorem dX5_receive_4 : decode cX5_receive 4 = .ok (.aload_n 2, 1) := by decide +kernel
theorem dX5_receive_5 : decode cX5_receive 5 = .ok (.invokevirtual 234, 3) := by decide +kernel
theorem dX5_receive_8 : decode cX5_receive 8 = .ok (.ifCond .eq 9, 3) := by decide +kernel
theorem dX5_receive_11 : decode cX5_receive 11 = .ok (.aload_n 1, 1) := by decide +kernel
theorem dX5_receive_12 : decode cX5_receive 12 = .ok (.iconst 5, 1) := by decide +kernel
theorem dX5_receive_13 : decode cX5_receive 13 = .ok (.putfield 80, 3) := by decide +kernel
theorem dX5_receive_16 : decode cX5_receive 16 = .ok (.return_, 1) := by decide +kernel
theorem dX5_receive_17 : decode cX5_receive 17 = .ok (.aload_n 1, 1) := by decide +kernel
theorem dX5_receive_18 : decode cX5_receive 18 = .ok (.dup, 1) := by decide +kernel
theorem dX5_receive_19 : decode cX5_receive 19 = .ok (.getfield 167, 3) := by decide +kernel
theorem dX5_receive_22 : decode cX5_receive 22 = .ok (.iconst 1, 1) := by decide +kernel
theorem dX5_receive_23 : decode cX5_receive 23 = .ok (.iadd, 1) := by decide +kernel
theorem dX5_receive_24 : decode cX5_receive 24 = .ok (.putfield 167, 3) := by decide +kernel
theorem dX5_receive_27 : decode cX5_receive 27 = .ok (.aload_n 2, 1) := by decide +kernel
theorem dX5_receive_28 : decode cX5_receive 28 = .ok (.getfield 222, 3) := by decide +kernel
theorem dX5_receive_31 : decode cX5_receive 31 = .ok (.astore_n 3, 1) := by decide +kernel
theorem dX5_receive_32 : decode cX5_receive 32 = .ok (.aload_n 3, 1) := by decide +kernel
theorem dX5_receive_33 : decode cX5_receive 33 = .ok (.ifnonnull 11, 3) := by decide +kernel
theorem dX5_receive_36 : decode cX5_receive 36 = .ok (.aload_n 2, 1) := by decide +kernel
theorem dX5_receive_37 : decode cX5_receive 37 = .ok (.aload_n 1, 1) := by decide +kernel
theorem dX5_receive_38 : decode cX5_receive 38 = .ok (.iconst 0, 1) := by decide +kernel
theorem dX5_receive_39 : decode cX5_receive 39 = .ok (.iconst 0, 1) := by decide +kernel
theorem dX5_receive_40 : decode cX5_receive 40 = .ok (.invokevirtual 225, 3) := by decide +kernel
theorem dX5_receive_43 : decode cX5_receive 43 = .ok (.return_, 1) := by decide +kernel
theorem dX5_receive_44 : decode cX5_receive 44 = .ok (.aload_n 2, 1) := by decide +kernel
theorem dX5_receive_45 : decode cX5_receive 45 = .ok (.getfield 237, 3) := by decide +kernel
theorem dX5_receive_48 : decode cX5_receive 48 = .ok (.istore 4, 2) := by decide +kernel
theorem dX5_receive_50 : decode cX5_receive 50 = .ok (.aload_n 2, 1) := by decide +kernel
theorem dX5_receive_51 : decode cX5_receive 51 = .ok (.invokevirtual 83, 3) := by decide +kernel
theorem dX5_receive_54 : decode cX5_receive 54 = .ok (.aload_n 0, 1) := by decide +kernel
theorem dX5_receive_55 : decode cX5_receive 55 = .ok (.aload_n 2, 1) := by decide +kernel
theorem dX5_receive_56 : decode cX5_receive 56 = .ok (.getfield 229, 3) := by decide +kernel
theorem dX5_receive_59 : decode cX5_receive 59 = .ok (.aload_n 3, 1) := by decide +kernel
theorem dX5_receive_60 : decode cX5_receive 60 = .ok (.aload_n 1, 1) := by decide +kernel
theorem dX5_receive_61 : decode cX5_receive 61 = .ok (.iload 4, 2) := by decide +kernel
theorem dX5_receive_63 : decode cX5_receive 63 = .ok (.invokevirtual 230, 3) := by decide +kernel
theorem dX5_receive_66 : decode cX5_receive 66 = .ok (.aload_n 0, 1) := by decide +kernel
theorem dX5_receive_67 : decode cX5_receive 67 = .ok (.aload_n 3, 1) := by decide +kernel
theorem dX5_receive_68 : decode cX5_receive 68 = .ok (.invokevirtual 129, 3) := by decide +kernel
theorem dX5_receive_71 : decode cX5_receive 71 = .ok (.return_, 1) := by decide +kernel
theorem dX5_deliver_0 : decode cX5_deliver 0 = .ok (.aload_n 3, 1) := by decide +kernel
theorem dX5_deliver_1 : decode cX5_deliver 1 = .ok (.iload 4, 2) := by decide +kernel
theorem dX5_deliver_3 : decode cX5_deliver 3 = .ok (.invokevirtual 196, 3) := by decide +kernel
theorem dX5_deliver_6 : decode cX5_deliver 6 = .ok (.aload_n 0, 1) := by decide +kernel
theorem dX5_deliver_7 : decode cX5_deliver 7 = .ok (.getfield 45, 3) := by decide +kernel
theorem dX5_deliver_10 : decode cX5_deliver 10 = .ok (.iload_n 1, 1) := by decide +kernel
theorem dX5_deliver_11 : decode cX5_deliver 11 = .ok (.aload_n 2, 1) := by decide +kernel
theorem dX5_deliver_12 : decode cX5_deliver 12 = .ok (.getfield 87, 3) := by decide +kernel
theorem dX5_deliver_15 : decode cX5_deliver 15 = .ok (.aload_n 3, 1) := by decide +kernel
theorem dX5_deliver_16 : decode cX5_deliver 16 = .ok (.getfield 87, 3) := by decide +kernel
theorem dX5_deliver_19 : decode cX5_deliver 19 = .ok (.iload 4, 2) := by decide +kernel
theorem dX5_deliver_21 : decode cX5_deliver 21 = .ok (.aload_n 0, 1) := by decide +kernel
theorem dX5_deliver_22 : decode cX5_deliver 22 = .ok (.getfield 53, 3) := by decide +kernel
theorem dX5_deliver_25 : decode cX5_deliver 25 = .ok (.invokevirtual 240, 3) := by decide +kernel
theorem dX5_deliver_28 : decode cX5_deliver 28 = .ok (.return_, 1) := by decide +kernel
