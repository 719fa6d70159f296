theorem dX0_init_0 : decode cX0_init 0 = .ok (.aload_n 0, 1) := by decide +kernel
theorem dX0_init_1 : decode cX0_init 1 = .ok (.invokespecial 3, 3) := by decide +kernel
theorem dX0_init_4 : decode cX0_init 4 = .ok (.aload_n 0, 1) := by decide +kernel
theorem dX0_init_5 : decode cX0_init 5 = .ok (.iload_n 1, 1) := by decide +kernel
theorem dX0_init_6 : decode cX0_init 6 = .ok (.putfield 9, 3) := by decide +kernel
theorem dX0_init_9 : decode cX0_init 9 = .ok (.aload_n 0, 1) := by decide +kernel
theorem dX0_init_10 : decode cX0_init 10 = .ok (.aconst_null, 1) := by decide +kernel
theorem dX0_init_11 : decode cX0_init 11 = .ok (.putfield 15, 3) := by decide +kernel
theorem dX0_init_14 : decode cX0_init 14 = .ok (.aload_n 0, 1) := by decide +kernel
theorem dX0_init_15 : decode cX0_init 15 = .ok (.iconst 0, 1) := by decide +kernel
theorem dX0_init_16 : decode cX0_init 16 = .ok (.putfield 19, 3) := by decide +kernel
theorem dX0_init_19 : decode cX0_init 19 = .ok (.aload_n 0, 1) := by decide +kernel
theorem dX0_init_20 : decode cX0_init 20 = .ok (.iconst 0, 1) := by decide +kernel
theorem dX0_init_21 : decode cX0_init 21 = .ok (.putfield 23, 3) := by decide +kernel
theorem dX0_init_24 : decode cX0_init 24 = .ok (.return_, 1) := by decide +kernel
theorem dX0_clear_0 : decode cX0_clear 0 = .ok (.aload_n 0, 1) := by decide +kernel
theorem dX0_clear_1 : decode cX0_clear 1 = .ok (.aconst_null, 1) := by decide +kernel
theorem dX0_clear_2 : decode cX0_clear 2 = .ok (.putfield 15, 3) := by decide +kernel
theorem dX0_clear_5 : decode cX0_clear 5 = .ok (.aload_n 0, 1) := by decide +kernel
theorem dX0_clear_6 : decode cX0_clear 6 = .ok (.iconst 0, 1) := by decide +kernel
theorem dX0_clear_7 : decode cX0_clear 7 = .ok (.putfield 19, 3) := by decide +kernel
theorem dX0_clear_10 : decode cX0_clear 10 = .ok (.aload_n 0, 1) := by decide +kernel
theorem dX0_clear_11 : decode cX0_clear 11 = .ok (.iconst 0, 1) := by decide +kernel
theorem dX0_clear_12 : decode cX0_clear 12 = .ok (.putfield 23, 3) := by decide +kernel
theorem dX0_clear_15 : decode cX0_clear 15 = .ok (.return_, 1) := by decide +kernel
theorem dX0_hold_0 : decode cX0_hold 0 = .ok (.aload_n 0, 1) := by decide +kernel
theorem dX0_hold_1 : decode cX0_hold 1 = .ok (.aload_n 1, 1) := by decide +kernel
theorem dX0_hold_2 : decode cX0_hold 2 = .ok (.putfield 15, 3) := by decide +kernel
theorem dX0_hold_5 : decode cX0_hold 5 = .ok (.aload_n 0, 1) := by decide +kernel
theorem dX0_hold_6 : decode cX0_hold 6 = .ok (.iload_n 2, 1) := by decide +kernel
theorem dX0_hold_7 : decode cX0_hold 7 = .ok (.putfield 19, 3) := by decide +kernel
theorem dX0_hold_10 : decode cX0_hold 10 = .ok (.aload_n 0, 1) := by decide +kernel
theorem dX0_hold_11 : decode cX0_hold 11 = .ok (.iload_n 3, 1) := by decide +kernel
theorem dX0_hold_12 : decode cX0_hold 12 = .ok (.putfield 23, 3) := by decide +kernel
theorem dX0_hold_15 : decode cX0_hold 15 = .ok (.aload_n 1, 1) := by decide +kernel
theorem dX0_hold_16 : decode cX0_hold 16 = .ok (.iconst 3, 1) := by decide +kernel
theorem dX0_hold_17 : decode cX0_hold 17 = .ok (.putfield 26, 3) := by decide +kernel
theorem dX0_hold_20 : decode cX0_hold 20 = .ok (.return_, 1) := by decide +kernel
theorem dX0_hasSender_0 : decode cX0_hasSender 0 = .ok (.aload_n 0, 1) := by decide +kernel
theorem dX0_hasSender_1 : decode cX0_hasSender 1 = .ok (.getfield 15, 3) := by decide +kernel
theorem dX0_hasSender_4 : decode cX0_hasSender 4 = .ok (.ifnull 14, 3) := by decide +kernel
theorem dX0_hasSender_7 : decode cX0_hasSender 7 = .ok (.aload_n 0, 1) := by decide +kernel
theorem dX0_hasSender_8 : decode cX0_hasSender 8 = .ok (.getfield 19, 3) := by decide +kernel
theorem dX0_hasSender_11 : decode cX0_hasSender 11 = .ok (.ifCond .eq 7, 3) := by decide +kernel
theorem dX0_hasSender_14 : decode cX0_hasSender 14 = .ok (.iconst 1, 1) := by decide +kernel
theorem dX0_hasSender_15 : decode cX0_hasSender 15 = .ok (.goto 4, 3) := by decide +kernel
theorem dX0_hasSender_18 : decode cX0_hasSender 18 = .ok (.iconst 0, 1) := by decide +kernel
theorem dX0_hasSender_19 : decode cX0_hasSender 19 = .ok (.ireturn, 1) := by decide +kernel
theorem dX0_hasReceiver_0 : decode cX0_hasReceiver 0 = .ok (.aload_n 0, 1) := by decide +kernel
theorem dX0_hasReceiver_1 : decode cX0_hasReceiver 1 = .ok (.getfield 15, 3) := by decide +kernel
theorem dX0_hasReceiver_4 : decode cX0_hasReceiver 4 = .ok (.ifnull 14, 3) := by decide +kernel
theorem dX0_hasReceiver_7 : decode cX0_hasReceiver 7 = .ok (.aload_n 0, 1) := by decide +kernel
theorem dX0_hasReceiver_8 : decode cX0_hasReceiver 8 = .ok (.getfield 19, 3) := by decide +kernel
theorem dX0_hasReceiver_11 : decode cX0_hasReceiver 11 = .ok (.ifCond .ne 7, 3) := by decide +kernel
theorem dX0_hasReceiver_14 : decode cX0_hasReceiver 14 = .ok (.iconst 1, 1) := by decide +kernel
theorem dX0_hasReceiver_15 : decode cX0_hasReceiver 15 = .ok (.goto 4, 3) := by decide +kernel
theorem dX0_hasReceiver_18 : decode cX0_hasReceiver 18 = .ok (.iconst 0, 1) := by decide +kernel
theorem dX0_hasReceiver_19 : decode cX0_hasReceiver 19 = .ok (.ireturn, 1) := by decide +kernel
theorem dX0_code_0 : decode cX0_code 0 = .ok (.aload_n 0, 1) := by decide +kernel
theorem dX0_code_1 : decode cX0_code 1 = .ok (.getfield 15, 3) := by decide +kernel
theorem dX0_code_4 : decode cX0_code 4 = .ok (.ifnonnull 5, 3) := by decide +kernel
theorem dX0_code_7 : decode cX0_code 7 = .ok (.iconst 0, 1) := by decide +kernel
theorem dX0_code_8 : decode cX0_code 8 = .ok (.ireturn, 1) := by decide +kernel
theorem dX0_code_9 : decode cX0_code 9 = .ok (.aload_n 0, 1) := by decide +kernel
theorem dX0_code_10 : decode cX0_code 10 = .ok (.getfield 19, 3) := by decide +kernel
theorem dX0_code_13 : decode cX0_code 13 = .ok (.ifCond .eq 8, 3) := by decide +kernel
theorem dX0_code_16 : decode cX0_code 16 = .ok (.bipush 8, 2) := by decide +kernel
theorem dX0_code_18 : decode cX0_code 18 = .ok (.goto 5, 3) := by decide +kernel
theorem dX0_code_21 : decode cX0_code 21 = .ok (.bipush 16, 2) := by decide +kernel
theorem dX0_code_23 : decode cX0_code 23 = .ok (.aload_n 0, 1) := by decide +kernel
theorem dX0_code_24 : decode cX0_code 24 = .ok (.getfield 15, 3) := by decide +kernel
theorem dX0_code_27 : decode cX0_code 27 = .ok (.getfield 31, 3) := by decide +kernel
theorem dX0_code_30 : decode cX0_code 30 = .ok (.iadd, 1) := by decide +kernel
theorem dX0_code_31 : decode cX0_code 31 = .ok (.ireturn, 1) := by decide +kernel
theorem dX1_init_0 : decode cX1_init 0 = .ok (.aload_n 0, 1) := by decide +kernel
theorem dX1_init_1 : decode cX1_init 1 = .ok (.invokespecial 3, 3) := by decide +kernel
theorem dX1_init_4 : decode cX1_init 4 = .ok (.aload_n 0, 1) := by decide +kernel
theorem dX1_init_5 : decode cX1_init 5 = .ok (.bipush 80, 2) := by decide +kernel
theorem dX1_init_7 : decode cX1_init 7 = .ok (.newarray .int, 2) := by decide +kernel
theorem dX1_init_9 : decode cX1_init 9 = .ok (.putfield 9, 3) := by decide +kernel
theorem dX1_init_12 : decode cX1_init 12 = .ok (.aload_n 0, 1) := by decide +kernel
theorem dX1_init_13 : decode cX1_init 13 = .ok (.iconst 0, 1) := by decide +kernel
theorem dX1_init_14 : decode cX1_init 14 = .ok (.putfield 15, 3) := by decide +kernel
theorem dX1_init_17 : decode cX1_init 17 = .ok (.return_, 1) := by decide +kernel
theorem dX1_roomOf_0 : decode cX1_roomOf 0 = .ok (.iload_n 0, 1) := by decide +kernel
theorem dX1_roomOf_1 : decode cX1_roomOf 1 = .ok (.bipush 15, 2) := by decide +kernel
theorem dX1_roomOf_3 : decode cX1_roomOf 3 = .ok (.iand, 1) := by decide +kernel
theorem dX1_roomOf_4 : decode cX1_roomOf 4 = .ok (.iconst 5, 1) := by decide +kernel
theorem dX1_roomOf_5 : decode cX1_roomOf 5 = .ok (.imul, 1) := by decide +kernel
theorem dX1_roomOf_6 : decode cX1_roomOf 6 = .ok (.ireturn, 1) := by decide +kernel
theorem dX1_append_0 : decode cX1_append 0 = .ok (.aload_n 0, 1) := by decide +kernel
theorem dX1_append_1 : decode cX1_append 1 = .ok (.getfield 15, 3) := by decide +kernel
theorem dX1_append_4 : decode cX1_append 4 = .ok (.invokestatic 19, 3) := by decide +kernel
theorem dX1_append_7 : decode cX1_append 7 = .ok (.istore 6, 2) := by decide +kernel
theorem dX1_append_9 : decode cX1_append 9 = .ok (.aload_n 0, 1) := by decide +kernel
theorem dX1_append_10 : decode cX1_append 10 = .ok (.getfield 9, 3) := by decide +kernel
theorem dX1_append_13 : decode cX1_append 13 = .ok (.iload 6, 2) := by decide +kernel
theorem dX1_append_15 : decode cX1_append 15 = .ok (.iload_n 1, 1) := by decide +kernel
theorem dX1_append_16 : decode cX1_append 16 = .ok (.iastore, 1) := by decide +kernel
theorem dX1_append_17 : decode cX1_append 17 = .ok (.aload_n 0, 1) := by decide +kernel
theorem dX1_append_18 : decode cX1_append 18 = .ok (.getfield 9, 3) := by decide +kernel
theorem dX1_append_21 : decode cX1_append 21 = .ok (.iload 6, 2) := by decide +kernel
theorem dX1_append_23 : decode cX1_append 23 = .ok (.iconst 1, 1) := by decide +kernel
theorem dX1_append_24 : decode cX1_append 24 = .ok (.iadd, 1) := by decide +kernel
theorem dX1_append_25 : decode cX1_append 25 = .ok (.iload_n 2, 1) := by decide +kernel
theorem dX1_append_26 : decode cX1_append 26 = .ok (.iastore, 1) := by decide +kernel
theorem dX1_append_27 : decode cX1_append 27 = .ok (.aload_n 0, 1) := by decide +kernel
theorem dX1_append_28 : decode cX1_append 28 = .ok (.getfield 9, 3) := by decide +kernel
theorem dX1_append_31 : decode cX1_append 31 = .ok (.iload 6, 2) := by decide +kernel
theorem dX1_append_33 : decode cX1_append 33 = .ok (.iconst 2, 1) := by decide +kernel
theorem dX1_append_34 : decode cX1_append 34 = .ok (.iadd, 1) := by decide +kernel
theorem dX1_append_35 : decode cX1_append 35 = .ok (.iload_n 3, 1) := by decide +kernel
theorem dX1_append_36 : decode cX1_append 36 = .ok (.iastore, 1) := by decide +kernel
theorem dX1_append_37 : decode cX1_append 37 = .ok (.aload_n 0, 1) := by decide +kernel
theorem dX1_append_38 : decode cX1_append 38 = .ok (.getfield 9, 3) := by decide +kernel
theorem dX1_append_41 : decode cX1_append 41 = .ok (.iload 6, 2) := by decide +kernel
theorem dX1_append_43 : decode cX1_append 43 = .ok (.iconst 3, 1) := by decide +kernel
theorem dX1_append_44 : decode cX1_append 44 = .ok (.iadd, 1) := by decide +kernel
theorem dX1_append_45 : decode cX1_append 45 = .ok (.iload 4, 2) := by decide +kernel
theorem dX1_append_47 : decode cX1_append 47 = .ok (.iastore, 1) := by decide +kernel
theorem dX1_append_48 : decode cX1_append 48 = .ok (.aload_n 0, 1) := by decide +kernel
theorem dX1_append_49 : decode cX1_append 49 = .ok (.getfield 9, 3) := by decide +kernel
theorem dX1_append_52 : decode cX1_append 52 = .ok (.iload 6, 2) := by decide +kernel
theorem dX1_append_54 : decode cX1_append 54 = .ok (.iconst 4, 1) := by decide +kernel
theorem dX1_append_55 : decode cX1_append 55 = .ok (.iadd, 1) := by decide +kernel
theorem dX1_append_56 : decode cX1_append 56 = .ok (.iload 5, 2) := by decide +kernel
theorem dX1_append_58 : decode cX1_append 58 = .ok (.iastore, 1) := by decide +kernel
theorem dX1_append_59 : decode cX1_append 59 = .ok (.aload_n 0, 1) := by decide +kernel
theorem dX1_append_60 : decode cX1_append 60 = .ok (.dup, 1) := by decide +kernel
theorem dX1_append_61 : decode cX1_append 61 = .ok (.getfield 15, 3) := by decide +kernel
theorem dX1_append_64 : decode cX1_append 64 = .ok (.iconst 1, 1) := by decide +kernel
theorem dX1_append_65 : decode cX1_append 65 = .ok (.iadd, 1) := by decide +kernel
theorem dX1_append_66 : decode cX1_append 66 = .ok (.putfield 15, 3) := by decide +kernel
theorem dX1_append_69 : decode cX1_append 69 = .ok (.return_, 1) := by decide +kernel
theorem dX1_part_0 : decode cX1_part 0 = .ok (.iload_n 1, 1) := by decide +kernel
theorem dX1_part_1 : decode cX1_part 1 = .ok (.ifCond .lt 26, 3) := by decide +kernel
theorem dX1_part_4 : decode cX1_part 4 = .ok (.iload_n 1, 1) := by decide +kernel
theorem dX1_part_5 : decode cX1_part 5 = .ok (.bipush 16, 2) := by decide +kernel
theorem dX1_part_7 : decode cX1_part 7 = .ok (.if_icmp .ge 20, 3) := by decide +kernel
theorem dX1_part_10 : decode cX1_part 10 = .ok (.iload_n 1, 1) := by decide +kernel
theorem dX1_part_11 : decode cX1_part 11 = .ok (.aload_n 0, 1) := by decide +kernel
theorem dX1_part_12 : decode cX1_part 12 = .ok (.getfield 15, 3) := by decide +kernel
theorem dX1_part_15 : decode cX1_part 15 = .ok (.if_icmp .ge 12, 3) := by decide +kernel
theorem dX1_part_18 : decode cX1_part 18 = .ok (.iload_n 2, 1) := by decide +kernel
theorem dX1_part_19 : decode cX1_part 19 = .ok (.ifCond .lt 8, 3) := by decide +kernel
theorem dX1_part_22 : decode cX1_part 22 = .ok (.iload_n 2, 1) := by decide +kernel
theorem dX1_part_23 : decode cX1_part 23 = .ok (.iconst 5, 1) := by decide +kernel
theorem dX1_part_24 : decode cX1_part 24 = .ok (.if_icmp .lt 7, 3) := by decide +kernel
theorem dX1_part_27 : decode cX1_part 27 = .ok (.ldc2_w 23, 3) := by decide +kernel
theorem dX1_part_30 : decode cX1_part 30 = .ok (.lreturn, 1) := by decide +kernel
theorem dX1_part_31 : decode cX1_part 31 = .ok (.aload_n 0, 1) := by decide +kernel
theorem dX1_part_32 : decode cX1_part 32 = .ok (.getfield 9, 3) := by decide +kernel
theorem dX1_part_35 : decode cX1_part 35 = .ok (.aload_n 0, 1) := by decide +kernel
theorem dX1_part_36 : decode cX1_part 36 = .ok (.getfield 15, 3) := by decide +kernel
theorem dX1_part_39 : decode cX1_part 39 = .ok (.iconst 1, 1) := by decide +kernel
theorem dX1_part_40 : decode cX1_part 40 = .ok (.isub, 1) := by decide +kernel
theorem dX1_part_41 : decode cX1_part 41 = .ok (.iload_n 1, 1) := by decide +kernel
theorem dX1_part_42 : decode cX1_part 42 = .ok (.isub, 1) := by decide +kernel
theorem dX1_part_43 : decode cX1_part 43 = .ok (.invokestatic 19, 3) := by decide +kernel
theorem dX1_part_46 : decode cX1_part 46 = .ok (.iload_n 2, 1) := by decide +kernel
theorem dX1_part_47 : decode cX1_part 47 = .ok (.iadd, 1) := by decide +kernel
theorem dX1_part_48 : decode cX1_part 48 = .ok (.iaload, 1) := by decide +kernel
theorem dX1_part_49 : decode cX1_part 49 = .ok (.i2l, 1) := by decide +kernel
theorem dX1_part_50 : decode cX1_part 50 = .ok (.lreturn, 1) := by decide +kernel
theorem dX2_init_0 : decode cX2_init 0 = .ok (.aload_n 0, 1) := by decide +kernel
theorem dX2_init_1 : decode cX2_init 1 = .ok (.invokespecial 3, 3) := by decide +kernel
theorem dX2_init_4 : decode cX2_init 4 = .ok (.aload_n 0, 1) := by decide +kernel
theorem dX2_init_5 : decode cX2_init 5 = .ok (.iload_n 1, 1) := by decide +kernel
theorem dX2_init_6 : decode cX2_init 6 = .ok (.putfield 9, 3) := by decide +kernel
theorem dX2_init_9 : decode cX2_init 9 = .ok (.aload_n 0, 1) := by decide +kernel
theorem dX2_init_10 : decode cX2_init 10 = .ok (.iconst 4, 1) := by decide +kernel
theorem dX2_init_11 : decode cX2_init 11 = .ok (.newarray .int, 2) := by decide +kernel
theorem dX2_init_13 : decode cX2_init 13 = .ok (.putfield 15, 3) := by decide +kernel
theorem dX2_init_16 : decode cX2_init 16 = .ok (.aload_n 0, 1) := by decide +kernel
theorem dX2_init_17 : decode cX2_init 17 = .ok (.iconst 0, 1) := by decide +kernel
theorem dX2_init_18 : decode cX2_init 18 = .ok (.putfield 19, 3) := by decide +kernel
theorem dX2_init_21 : decode cX2_init 21 = .ok (.return_, 1) := by decide +kernel
theorem dX2_begin_0 : decode cX2_begin 0 = .ok (.aload_n 0, 1) := by decide +kernel
theorem dX2_begin_1 : decode cX2_begin 1 = .ok (.iload_n 1, 1) := by decide +kernel
theorem dX2_begin_2 : decode cX2_begin 2 = .ok (.putfield 22, 3) := by decide +kernel
theorem dX2_begin_5 : decode cX2_begin 5 = .ok (.aload_n 0, 1) := by decide +kernel
theorem dX2_begin_6 : decode cX2_begin 6 = .ok (.iload_n 2, 1) := by decide +kernel
theorem dX2_begin_7 : decode cX2_begin 7 = .ok (.putfield 25, 3) := by decide +kernel
theorem dX2_begin_10 : decode cX2_begin 10 = .ok (.aload_n 0, 1) := by decide +kernel
theorem dX2_begin_11 : decode cX2_begin 11 = .ok (.iload_n 3, 1) := by decide +kernel
theorem dX2_begin_12 : decode cX2_begin 12 = .ok (.putfield 28, 3) := by decide +kernel
theorem dX2_begin_15 : decode cX2_begin 15 = .ok (.aload_n 0, 1) := by decide +kernel
theorem dX2_begin_16 : decode cX2_begin 16 = .ok (.iconst 0, 1) := by decide +kernel
theorem dX2_begin_17 : decode cX2_begin 17 = .ok (.putfield 31, 3) := by decide +kernel
theorem dX2_begin_20 : decode cX2_begin 20 = .ok (.aload_n 0, 1) := by decide +kernel
theorem dX2_begin_21 : decode cX2_begin 21 = .ok (.iconst 0, 1) := by decide +kernel
theorem dX2_begin_22 : decode cX2_begin 22 = .ok (.putfield 34, 3) := by decide +kernel
theorem dX2_begin_25 : decode cX2_begin 25 = .ok (.iconst 0, 1) := by decide +kernel
theorem dX2_begin_26 : decode cX2_begin 26 = .ok (.istore 4, 2) := by decide +kernel
theorem dX2_begin_28 : decode cX2_begin 28 = .ok (.iload 4, 2) := by decide +kernel
theorem dX2_begin_30 : decode cX2_begin 30 = .ok (.iconst 4, 1) := by decide +kernel
theorem dX2_begin_31 : decode cX2_begin 31 = .ok (.if_icmp .ge 17, 3) := by decide +kernel
theorem dX2_begin_34 : decode cX2_begin 34 = .ok (.aload_n 0, 1) := by decide +kernel
theorem dX2_begin_35 : decode cX2_begin 35 = .ok (.getfield 15, 3) := by decide +kernel
theorem dX2_begin_38 : decode cX2_begin 38 = .ok (.iload 4, 2) := by decide +kernel
theorem dX2_begin_40 : decode cX2_begin 40 = .ok (.iconst 0, 1) := by decide +kernel
theorem dX2_begin_41 : decode cX2_begin 41 = .ok (.iastore, 1) := by decide +kernel
theorem dX2_begin_42 : decode cX2_begin 42 = .ok (.iinc 4 1, 3) := by decide +kernel
theorem dX2_begin_45 : decode cX2_begin 45 = .ok (.goto (-17), 3) := by decide +kernel
theorem dX2_begin_48 : decode cX2_begin 48 = .ok (.return_, 1) := by decide +kernel
theorem dX2_put_0 : decode cX2_put 0 = .ok (.aload_n 0, 1) := by decide +kernel
theorem dX2_put_1 : decode cX2_put 1 = .ok (.aload_n 0, 1) := by decide +kernel
theorem dX2_put_2 : decode cX2_put 2 = .ok (.getfield 31, 3) := by decide +kernel
theorem dX2_put_5 : decode cX2_put 5 = .ok (.putfield 34, 3) := by decide +kernel
theorem dX2_put_8 : decode cX2_put 8 = .ok (.aload_n 0, 1) := by decide +kernel
theorem dX2_put_9 : decode cX2_put 9 = .ok (.aload_n 0, 1) := by decide +kernel
theorem dX2_put_10 : decode cX2_put 10 = .ok (.getfield 28, 3) := by decide +kernel
theorem dX2_put_13 : decode cX2_put 13 = .ok (.putfield 31, 3) := by decide +kernel
theorem dX2_put_16 : decode cX2_put 16 = .ok (.aload_n 0, 1) := by decide +kernel
theorem dX2_put_17 : decode cX2_put 17 = .ok (.iload_n 1, 1) := by decide +kernel
theorem dX2_put_18 : decode cX2_put 18 = .ok (.putfield 28, 3) := by decide +kernel
theorem dX2_put_21 : decode cX2_put 21 = .ok (.return_, 1) := by decide +kernel
theorem dX2_drop_0 : decode cX2_drop 0 = .ok (.aload_n 0, 1) := by decide +kernel
theorem dX2_drop_1 : decode cX2_drop 1 = .ok (.aload_n 0, 1) := by decide +kernel
theorem dX2_drop_2 : decode cX2_drop 2 = .ok (.getfield 31, 3) := by decide +kernel
theorem dX2_drop_5 : decode cX2_drop 5 = .ok (.putfield 28, 3) := by decide +kernel
theorem dX2_drop_8 : decode cX2_drop 8 = .ok (.aload_n 0, 1) := by decide +kernel
theorem dX2_drop_9 : decode cX2_drop 9 = .ok (.aload_n 0, 1) := by decide +kernel
theorem dX2_drop_10 : decode cX2_drop 10 = .ok (.getfield 34, 3) := by decide +kernel
theorem dX2_drop_13 : decode cX2_drop 13 = .ok (.putfield 31, 3) := by decide +kernel
theorem dX2_drop_16 : decode cX2_drop 16 = .ok (.return_, 1) := by decide +kernel
theorem dX2_replaceTwo_0 : decode cX2_replaceTwo 0 = .ok (.aload_n 0, 1) := by decide +kernel
theorem dX2_replaceTwo_1 : decode cX2_replaceTwo 1 = .ok (.iload_n 1, 1) := by decide +kernel
theorem dX2_replaceTwo_2 : decode cX2_replaceTwo 2 = .ok (.putfield 28, 3) := by decide +kernel
theorem dX2_replaceTwo_5 : decode cX2_replaceTwo 5 = .ok (.aload_n 0, 1) := by decide +kernel
theorem dX2_replaceTwo_6 : decode cX2_replaceTwo 6 = .ok (.aload_n 0, 1) := by decide +kernel
theorem dX2_replaceTwo_7 : decode cX2_replaceTwo 7 = .ok (.getfield 34, 3) := by decide +kernel
theorem dX2_replaceTwo_10 : decode cX2_replaceTwo 10 = .ok (.putfield 31, 3) := by decide +kernel
theorem dX2_replaceTwo_13 : decode cX2_replaceTwo 13 = .ok (.return_, 1) := by decide +kernel
theorem dX2_word_0 : decode cX2_word 0 = .ok (.iload_n 1, 1) := by decide +kernel
theorem dX2_word_1 : decode cX2_word 1 = .ok (.ifCond .lt 17, 3) := by decide +kernel
theorem dX2_word_4 : decode cX2_word 4 = .ok (.iload_n 1, 1) := by decide +kernel
theorem dX2_word_5 : decode cX2_word 5 = .ok (.iconst 4, 1) := by decide +kernel
theorem dX2_word_6 : decode cX2_word 6 = .ok (.if_icmp .ge 12, 3) := by decide +kernel
theorem dX2_word_9 : decode cX2_word 9 = .ok (.aload_n 0, 1) := by decide +kernel
theorem dX2_word_10 : decode cX2_word 10 = .ok (.getfield 15, 3) := by decide +kernel
theorem dX2_word_13 : decode cX2_word 13 = .ok (.iload_n 1, 1) := by decide +kernel
theorem dX2_word_14 : decode cX2_word 14 = .ok (.iaload, 1) := by decide +kernel
theorem dX2_word_15 : decode cX2_word 15 = .ok (.goto 4, 3) := by decide +kernel
theorem dX2_word_18 : decode cX2_word 18 = .ok (.iconst 0, 1) := by decide +kernel
theorem dX2_word_19 : decode cX2_word 19 = .ok (.ireturn, 1) := by decide +kernel
theorem dX2_setWord_0 : decode cX2_setWord 0 = .ok (.iload_n 1, 1) := by decide +kernel
theorem dX2_setWord_1 : decode cX2_setWord 1 = .ok (.ifCond .lt 15, 3) := by decide +kernel
theorem dX2_setWord_4 : decode cX2_setWord 4 = .ok (.iload_n 1, 1) := by decide +kernel
theorem dX2_setWord_5 : decode cX2_setWord 5 = .ok (.iconst 4, 1) := by decide +kernel
theorem dX2_setWord_6 : decode cX2_setWord 6 = .ok (.if_icmp .ge 10, 3) := by decide +kernel
theorem dX2_setWord_9 : decode cX2_setWord 9 = .ok (.aload_n 0, 1) := by decide +kernel
theorem dX2_setWord_10 : decode cX2_setWord 10 = .ok (.getfield 15, 3) := by decide +kernel
theorem dX2_setWord_13 : decode cX2_setWord 13 = .ok (.iload_n 1, 1) := by decide +kernel
theorem dX2_setWord_14 : decode cX2_setWord 14 = .ok (.iload_n 2, 1) := by decide +kernel
theorem dX2_setWord_15 : decode cX2_setWord 15 = .ok (.iastore, 1) := by decide +kernel
theorem dX2_setWord_16 : decode cX2_setWord 16 = .ok (.return_, 1) := by decide +kernel
theorem dX2_part_0 : decode cX2_part 0 = .ok (.iload_n 1, 1) := by decide +kernel
theorem dX2_part_1 : decode cX2_part 1 = .ok (.tableswitch 90 0 8 #[51, 57, 63, 69, 75, 81, 81, 81, 81], 51) := by decide +kernel
theorem dX2_part_52 : decode cX2_part 52 = .ok (.aload_n 0, 1) := by decide +kernel
theorem dX2_part_53 : decode cX2_part 53 = .ok (.getfield 22, 3) := by decide +kernel
theorem dX2_part_56 : decode cX2_part 56 = .ok (.i2l, 1) := by decide +kernel
theorem dX2_part_57 : decode cX2_part 57 = .ok (.lreturn, 1) := by decide +kernel
theorem dX2_part_58 : decode cX2_part 58 = .ok (.aload_n 0, 1) := by decide +kernel
theorem dX2_part_59 : decode cX2_part 59 = .ok (.getfield 25, 3) := by decide +kernel
theorem dX2_part_62 : decode cX2_part 62 = .ok (.i2l, 1) := by decide +kernel
theorem dX2_part_63 : decode cX2_part 63 = .ok (.lreturn, 1) := by decide +kernel
theorem dX2_part_64 : decode cX2_part 64 = .ok (.aload_n 0, 1) := by decide +kernel
theorem dX2_part_65 : decode cX2_part 65 = .ok (.getfield 28, 3) := by decide +kernel
theorem dX2_part_68 : decode cX2_part 68 = .ok (.i2l, 1) := by decide +kernel
theorem dX2_part_69 : decode cX2_part 69 = .ok (.lreturn, 1) := by decide +kernel
theorem dX2_part_70 : decode cX2_part 70 = .ok (.aload_n 0, 1) := by decide +kernel
theorem dX2_part_71 : decode cX2_part 71 = .ok (.getfield 31, 3) := by decide +kernel
theorem dX2_part_74 : decode cX2_part 74 = .ok (.i2l, 1) := by decide +kernel
theorem dX2_part_75 : decode cX2_part 75 = .ok (.lreturn, 1) := by decide +kernel
theorem dX2_part_76 : decode cX2_part 76 = .ok (.aload_n 0, 1) := by decide +kernel
theorem dX2_part_77 : decode cX2_part 77 = .ok (.getfield 34, 3) := by decide +kernel
theorem dX2_part_80 : decode cX2_part 80 = .ok (.i2l, 1) := by decide +kernel
theorem dX2_part_81 : decode cX2_part 81 = .ok (.lreturn, 1) := by decide +kernel
theorem dX2_part_82 : decode cX2_part 82 = .ok (.aload_n 0, 1) := by decide +kernel
theorem dX2_part_83 : decode cX2_part 83 = .ok (.iload_n 1, 1) := by decide +kernel
theorem dX2_part_84 : decode cX2_part 84 = .ok (.iconst 5, 1) := by decide +kernel
theorem dX2_part_85 : decode cX2_part 85 = .ok (.isub, 1) := by decide +kernel
theorem dX2_part_86 : decode cX2_part 86 = .ok (.invokevirtual 37, 3) := by decide +kernel
theorem dX2_part_89 : decode cX2_part 89 = .ok (.i2l, 1) := by decide +kernel
theorem dX2_part_90 : decode cX2_part 90 = .ok (.lreturn, 1) := by decide +kernel
theorem dX2_part_91 : decode cX2_part 91 = .ok (.ldc2_w 41, 3) := by decide +kernel
theorem dX2_part_94 : decode cX2_part 94 = .ok (.lreturn, 1) := by decide +kernel
theorem dX3_init_0 : decode cX3_init 0 = .ok (.aload_n 0, 1) := by decide +kernel
theorem dX3_init_1 : decode cX3_init 1 = .ok (.invokespecial 3, 3) := by decide +kernel
theorem dX3_init_4 : decode cX3_init 4 = .ok (.aload_n 0, 1) := by decide +kernel
theorem dX3_init_5 : decode cX3_init 5 = .ok (.bipush 40, 2) := by decide +kernel
theorem dX3_init_7 : decode cX3_init 7 = .ok (.newarray .int, 2) := by decide +kernel
theorem dX3_init_9 : decode cX3_init 9 = .ok (.putfield 9, 3) := by decide +kernel
theorem dX3_init_12 : decode cX3_init 12 = .ok (.aload_n 0, 1) := by decide +kernel
theorem dX3_init_13 : decode cX3_init 13 = .ok (.bipush 40, 2) := by decide +kernel
theorem dX3_init_15 : decode cX3_init 15 = .ok (.newarray .int, 2) := by decide +kernel
theorem dX3_init_17 : decode cX3_init 17 = .ok (.putfield 15, 3) := by decide +kernel
theorem dX3_init_20 : decode cX3_init 20 = .ok (.aload_n 0, 1) := by decide +kernel
theorem dX3_init_21 : decode cX3_init 21 = .ok (.iconst 0, 1) := by decide +kernel
theorem dX3_init_22 : decode cX3_init 22 = .ok (.putfield 18, 3) := by decide +kernel
theorem dX3_init_25 : decode cX3_init 25 = .ok (.return_, 1) := by decide +kernel
theorem dX3_append_0 : decode cX3_append 0 = .ok (.aload_n 0, 1) := by decide +kernel
theorem dX3_append_1 : decode cX3_append 1 = .ok (.getfield 18, 3) := by decide +kernel
theorem dX3_append_4 : decode cX3_append 4 = .ok (.istore_n 3, 1) := by decide +kernel
theorem dX3_append_5 : decode cX3_append 5 = .ok (.iload_n 3, 1) := by decide +kernel
theorem dX3_append_6 : decode cX3_append 6 = .ok (.ifCond .lt 9, 3) := by decide +kernel
theorem dX3_append_9 : decode cX3_append 9 = .ok (.iload_n 3, 1) := by decide +kernel
theorem dX3_append_10 : decode cX3_append 10 = .ok (.bipush 40, 2) := by decide +kernel
theorem dX3_append_12 : decode cX3_append 12 = .ok (.if_icmp .lt 5, 3) := by decide +kernel
theorem dX3_append_15 : decode cX3_append 15 = .ok (.iconst (-1), 1) := by decide +kernel
theorem dX3_append_16 : decode cX3_append 16 = .ok (.ireturn, 1) := by decide +kernel
theorem dX3_append_17 : decode cX3_append 17 = .ok (.aload_n 0, 1) := by decide +kernel
theorem dX3_append_18 : decode cX3_append 18 = .ok (.getfield 9, 3) := by decide +kernel
theorem dX3_append_21 : decode cX3_append 21 = .ok (.iload_n 3, 1) := by decide +kernel
theorem dX3_append_22 : decode cX3_append 22 = .ok (.iload_n 1, 1) := by decide +kernel
theorem dX3_append_23 : decode cX3_append 23 = .ok (.iastore, 1) := by decide +kernel
theorem dX3_append_24 : decode cX3_append 24 = .ok (.aload_n 0, 1) := by decide +kernel
theorem dX3_append_25 : decode cX3_append 25 = .ok (.getfield 15, 3) := by decide +kernel
theorem dX3_append_28 : decode cX3_append 28 = .ok (.iload_n 3, 1) := by decide +kernel
theorem dX3_append_29 : decode cX3_append 29 = .ok (.iload_n 2, 1) := by decide +kernel
theorem dX3_append_30 : decode cX3_append 30 = .ok (.iastore, 1) := by decide +kernel
theorem dX3_append_31 : decode cX3_append 31 = .ok (.aload_n 0, 1) := by decide +kernel
theorem dX3_append_32 : decode cX3_append 32 = .ok (.iload_n 3, 1) := by decide +kernel
theorem dX3_append_33 : decode cX3_append 33 = .ok (.iconst 1, 1) := by decide +kernel
theorem dX3_append_34 : decode cX3_append 34 = .ok (.iadd, 1) := by decide +kernel
theorem dX3_append_35 : decode cX3_append 35 = .ok (.putfield 18, 3) := by decide +kernel
theorem dX3_append_38 : decode cX3_append 38 = .ok (.iload_n 3, 1) := by decide +kernel
theorem dX3_append_39 : decode cX3_append 39 = .ok (.ireturn, 1) := by decide +kernel
theorem dX3_holds_0 : decode cX3_holds 0 = .ok (.iload_n 1, 1) := by decide +kernel
theorem dX3_holds_1 : decode cX3_holds 1 = .ok (.ifCond .lt 21, 3) := by decide +kernel
theorem dX3_holds_4 : decode cX3_holds 4 = .ok (.iload_n 1, 1) := by decide +kernel
theorem dX3_holds_5 : decode cX3_holds 5 = .ok (.aload_n 0, 1) := by decide +kernel
theorem dX3_holds_6 : decode cX3_holds 6 = .ok (.getfield 18, 3) := by decide +kernel
theorem dX3_holds_9 : decode cX3_holds 9 = .ok (.if_icmp .ge 13, 3) := by decide +kernel
theorem dX3_holds_12 : decode cX3_holds 12 = .ok (.iload_n 1, 1) := by decide +kernel
theorem dX3_holds_13 : decode cX3_holds 13 = .ok (.bipush 40, 2) := by decide +kernel
theorem dX3_holds_15 : decode cX3_holds 15 = .ok (.if_icmp .ge 7, 3) := by decide +kernel
theorem dX3_holds_18 : decode cX3_holds 18 = .ok (.iconst 1, 1) := by decide +kernel
theorem dX3_holds_19 : decode cX3_holds 19 = .ok (.goto 4, 3) := by decide +kernel
theorem dX3_holds_22 : decode cX3_holds 22 = .ok (.iconst 0, 1) := by decide +kernel
theorem dX3_holds_23 : decode cX3_holds 23 = .ok (.ireturn, 1) := by decide +kernel
theorem dX3_opAt_0 : decode cX3_opAt 0 = .ok (.aload_n 0, 1) := by decide +kernel
theorem dX3_opAt_1 : decode cX3_opAt 1 = .ok (.iload_n 1, 1) := by decide +kernel
theorem dX3_opAt_2 : decode cX3_opAt 2 = .ok (.invokevirtual 22, 3) := by decide +kernel
theorem dX3_opAt_5 : decode cX3_opAt 5 = .ok (.ifCond .eq 12, 3) := by decide +kernel
theorem dX3_opAt_8 : decode cX3_opAt 8 = .ok (.aload_n 0, 1) := by decide +kernel
theorem dX3_opAt_9 : decode cX3_opAt 9 = .ok (.getfield 9, 3) := by decide +kernel
theorem dX3_opAt_12 : decode cX3_opAt 12 = .ok (.iload_n 1, 1) := by decide +kernel
theorem dX3_opAt_13 : decode cX3_opAt 13 = .ok (.iaload, 1) := by decide +kernel
theorem dX3_opAt_14 : decode cX3_opAt 14 = .ok (.goto 4, 3) := by decide +kernel
theorem dX3_opAt_17 : decode cX3_opAt 17 = .ok (.iconst 0, 1) := by decide +kernel
theorem dX3_opAt_18 : decode cX3_opAt 18 = .ok (.ireturn, 1) := by decide +kernel
theorem dX3_operandAt_0 : decode cX3_operandAt 0 = .ok (.aload_n 0, 1) := by decide +kernel
theorem dX3_operandAt_1 : decode cX3_operandAt 1 = .ok (.iload_n 1, 1) := by decide +kernel
theorem dX3_operandAt_2 : decode cX3_operandAt 2 = .ok (.invokevirtual 22, 3) := by decide +kernel
theorem dX3_operandAt_5 : decode cX3_operandAt 5 = .ok (.ifCond .eq 12, 3) := by decide +kernel
theorem dX3_operandAt_8 : decode cX3_operandAt 8 = .ok (.aload_n 0, 1) := by decide +kernel
theorem dX3_operandAt_9 : decode cX3_operandAt 9 = .ok (.getfield 15, 3) := by decide +kernel
theorem dX3_operandAt_12 : decode cX3_operandAt 12 = .ok (.iload_n 1, 1) := by decide +kernel
theorem dX3_operandAt_13 : decode cX3_operandAt 13 = .ok (.iaload, 1) := by decide +kernel
theorem dX3_operandAt_14 : decode cX3_operandAt 14 = .ok (.goto 4, 3) := by decide +kernel
theorem dX3_operandAt_17 : decode cX3_operandAt 17 = .ok (.iconst 0, 1) := by decide +kernel
theorem dX3_operandAt_18 : decode cX3_operandAt 18 = .ok (.ireturn, 1) := by decide +kernel
theorem dX4_init_0 : decode cX4_init 0 = .ok (.aload_n 0, 1) := by decide +kernel
theorem dX4_init_1 : decode cX4_init 1 = .ok (.invokespecial 3, 3) := by decide +kernel
theorem dX4_init_4 : decode cX4_init 4 = .ok (.aload_n 0, 1) := by decide +kernel
theorem dX4_init_5 : decode cX4_init 5 = .ok (.bipush 8, 2) := by decide +kernel
theorem dX4_init_7 : decode cX4_init 7 = .ok (.anewarray 9, 3) := by decide +kernel
theorem dX4_init_10 : decode cX4_init 10 = .ok (.putfield 11, 3) := by decide +kernel
theorem dX4_init_13 : decode cX4_init 13 = .ok (.aload_n 0, 1) := by decide +kernel
theorem dX4_init_14 : decode cX4_init 14 = .ok (.iconst 0, 1) := by decide +kernel
theorem dX4_init_15 : decode cX4_init 15 = .ok (.putfield 17, 3) := by decide +kernel
theorem dX4_init_18 : decode cX4_init 18 = .ok (.return_, 1) := by decide +kernel
theorem dX4_clear_0 : decode cX4_clear 0 = .ok (.aload_n 0, 1) := by decide +kernel
theorem dX4_clear_1 : decode cX4_clear 1 = .ok (.iconst 0, 1) := by decide +kernel
theorem dX4_clear_2 : decode cX4_clear 2 = .ok (.putfield 17, 3) := by decide +kernel
theorem dX4_clear_5 : decode cX4_clear 5 = .ok (.return_, 1) := by decide +kernel
theorem dX4_putLast_0 : decode cX4_putLast 0 = .ok (.aload_n 0, 1) := by decide +kernel
theorem dX4_putLast_1 : decode cX4_putLast 1 = .ok (.getfield 17, 3) := by decide +kernel
theorem dX4_putLast_4 : decode cX4_putLast 4 = .ok (.ifCond .lt 32, 3) := by decide +kernel
theorem dX4_putLast_7 : decode cX4_putLast 7 = .ok (.aload_n 0, 1) := by decide +kernel
theorem dX4_putLast_8 : decode cX4_putLast 8 = .ok (.getfield 17, 3) := by decide +kernel
theorem dX4_putLast_11 : decode cX4_putLast 11 = .ok (.bipush 8, 2) := by decide +kernel
theorem dX4_putLast_13 : decode cX4_putLast 13 = .ok (.if_icmp .ge 23, 3) := by decide +kernel
theorem dX4_putLast_16 : decode cX4_putLast 16 = .ok (.aload_n 0, 1) := by decide +kernel
theorem dX4_putLast_17 : decode cX4_putLast 17 = .ok (.getfield 11, 3) := by decide +kernel
theorem dX4_putLast_20 : decode cX4_putLast 20 = .ok (.aload_n 0, 1) := by decide +kernel
theorem dX4_putLast_21 : decode cX4_putLast 21 = .ok (.getfield 17, 3) := by decide +kernel
theorem dX4_putLast_24 : decode cX4_putLast 24 = .ok (.aload_n 1, 1) := by decide +kernel
theorem dX4_putLast_25 : decode cX4_putLast 25 = .ok (.aastore, 1) := by decide +kernel
theorem dX4_putLast_26 : decode cX4_putLast 26 = .ok (.aload_n 0, 1) := by decide +kernel
theorem dX4_putLast_27 : decode cX4_putLast 27 = .ok (.dup, 1) := by decide +kernel
theorem dX4_putLast_28 : decode cX4_putLast 28 = .ok (.getfield 17, 3) := by decide +kernel
theorem dX4_putLast_31 : decode cX4_putLast 31 = .ok (.iconst 1, 1) := by decide +kernel
theorem dX4_putLast_32 : decode cX4_putLast 32 = .ok (.iadd, 1) := by decide +kernel
theorem dX4_putLast_33 : decode cX4_putLast 33 = .ok (.putfield 17, 3) := by decide +kernel
theorem dX4_putLast_36 : decode cX4_putLast 36 = .ok (.return_, 1) := by decide +kernel
theorem dX4_putFirst_0 : decode cX4_putFirst 0 = .ok (.aload_n 0, 1) := by decide +kernel
theorem dX4_putFirst_1 : decode cX4_putFirst 1 = .ok (.getfield 17, 3) := by decide +kernel
theorem dX4_putFirst_4 : decode cX4_putFirst 4 = .ok (.bipush 8, 2) := by decide +kernel
theorem dX4_putFirst_6 : decode cX4_putFirst 6 = .ok (.if_icmp .ge 49, 3) := by decide +kernel
theorem dX4_putFirst_9 : decode cX4_putFirst 9 = .ok (.aload_n 0, 1) := by decide +kernel
theorem dX4_putFirst_10 : decode cX4_putFirst 10 = .ok (.getfield 17, 3) := by decide +kernel
theorem dX4_putFirst_13 : decode cX4_putFirst 13 = .ok (.istore_n 2, 1) := by decide +kernel
theorem dX4_putFirst_14 : decode cX4_putFirst 14 = .ok (.iload_n 2, 1) := by decide +kernel
theorem dX4_putFirst_15 : decode cX4_putFirst 15 = .ok (.ifCond .le 23, 3) := by decide +kernel
theorem dX4_putFirst_18 : decode cX4_putFirst 18 = .ok (.aload_n 0, 1) := by decide +kernel
theorem dX4_putFirst_19 : decode cX4_putFirst 19 = .ok (.getfield 11, 3) := by decide +kernel
theorem dX4_putFirst_22 : decode cX4_putFirst 22 = .ok (.iload_n 2, 1) := by decide +kernel
theorem dX4_putFirst_23 : decode cX4_putFirst 23 = .ok (.aload_n 0, 1) := by decide +kernel
theorem dX4_putFirst_24 : decode cX4_putFirst 24 = .ok (.getfield 11, 3) := by decide +kernel
theorem dX4_putFirst_27 : decode cX4_putFirst 27 = .ok (.iload_n 2, 1) := by decide +kernel
theorem dX4_putFirst_28 : decode cX4_putFirst 28 = .ok (.iconst 1, 1) := by decide +kernel
theorem dX4_putFirst_29 : decode cX4_putFirst 29 = .ok (.isub, 1) := by decide +kernel
theorem dX4_putFirst_30 : decode cX4_putFirst 30 = .ok (.aaload, 1) := by decide +kernel
theorem dX4_putFirst_31 : decode cX4_putFirst 31 = .ok (.aastore, 1) := by decide +kernel
theorem dX4_putFirst_32 : decode cX4_putFirst 32 = .ok (.iinc 2 (-1), 3) := by decide +kernel
theorem dX4_putFirst_35 : decode cX4_putFirst 35 = .ok (.goto (-21), 3) := by decide +kernel
theorem dX4_putFirst_38 : decode cX4_putFirst 38 = .ok (.aload_n 0, 1) := by decide +kernel
theorem dX4_putFirst_39 : decode cX4_putFirst 39 = .ok (.getfield 11, 3) := by decide +kernel
theorem dX4_putFirst_42 : decode cX4_putFirst 42 = .ok (.iconst 0, 1) := by decide +kernel
theorem dX4_putFirst_43 : decode cX4_putFirst 43 = .ok (.aload_n 1, 1) := by decide +kernel
theorem dX4_putFirst_44 : decode cX4_putFirst 44 = .ok (.aastore, 1) := by decide +kernel
theorem dX4_putFirst_45 : decode cX4_putFirst 45 = .ok (.aload_n 0, 1) := by decide +kernel
theorem dX4_putFirst_46 : decode cX4_putFirst 46 = .ok (.dup, 1) := by decide +kernel
theorem dX4_putFirst_47 : decode cX4_putFirst 47 = .ok (.getfield 17, 3) := by decide +kernel
theorem dX4_putFirst_50 : decode cX4_putFirst 50 = .ok (.iconst 1, 1) := by decide +kernel
theorem dX4_putFirst_51 : decode cX4_putFirst 51 = .ok (.iadd, 1) := by decide +kernel
theorem dX4_putFirst_52 : decode cX4_putFirst 52 = .ok (.putfield 17, 3) := by decide +kernel
theorem dX4_putFirst_55 : decode cX4_putFirst 55 = .ok (.return_, 1) := by decide +kernel
theorem dX4_takeFirst_0 : decode cX4_takeFirst 0 = .ok (.aload_n 0, 1) := by decide +kernel
theorem dX4_takeFirst_1 : decode cX4_takeFirst 1 = .ok (.getfield 17, 3) := by decide +kernel
theorem dX4_takeFirst_4 : decode cX4_takeFirst 4 = .ok (.ifCond .gt 5, 3) := by decide +kernel
theorem dX4_takeFirst_7 : decode cX4_takeFirst 7 = .ok (.aconst_null, 1) := by decide +kernel
theorem dX4_takeFirst_8 : decode cX4_takeFirst 8 = .ok (.areturn, 1) := by decide +kernel
theorem dX4_takeFirst_9 : decode cX4_takeFirst 9 = .ok (.aload_n 0, 1) := by decide +kernel
theorem dX4_takeFirst_10 : decode cX4_takeFirst 10 = .ok (.getfield 11, 3) := by decide +kernel
theorem dX4_takeFirst_13 : decode cX4_takeFirst 13 = .ok (.iconst 0, 1) := by decide +kernel
theorem dX4_takeFirst_14 : decode cX4_takeFirst 14 = .ok (.aaload, 1) := by decide +kernel
theorem dX4_takeFirst_15 : decode cX4_takeFirst 15 = .ok (.astore_n 1, 1) := by decide +kernel
theorem dX4_takeFirst_16 : decode cX4_takeFirst 16 = .ok (.aload_n 0, 1) := by decide +kernel
theorem dX4_takeFirst_17 : decode cX4_takeFirst 17 = .ok (.dup, 1) := by decide +kernel
theorem dX4_takeFirst_18 : decode cX4_takeFirst 18 = .ok (.getfield 17, 3) := by decide +kernel
theorem dX4_takeFirst_21 : decode cX4_takeFirst 21 = .ok (.iconst 1, 1) := by decide +kernel
theorem dX4_takeFirst_22 : decode cX4_takeFirst 22 = .ok (.isub, 1) := by decide +kernel
theorem dX4_takeFirst_23 : decode cX4_takeFirst 23 = .ok (.putfield 17, 3) := by decide +kernel
theorem dX4_takeFirst_26 : decode cX4_takeFirst 26 = .ok (.iconst 0, 1) := by decide +kernel
theorem dX4_takeFirst_27 : decode cX4_takeFirst 27 = .ok (.istore_n 2, 1) := by decide +kernel
theorem dX4_takeFirst_28 : decode cX4_takeFirst 28 = .ok (.iload_n 2, 1) := by decide +kernel
theorem dX4_takeFirst_29 : decode cX4_takeFirst 29 = .ok (.aload_n 0, 1) := by decide +kernel
theorem dX4_takeFirst_30 : decode cX4_takeFirst 30 = .ok (.getfield 17, 3) := by decide +kernel
theorem dX4_takeFirst_33 : decode cX4_takeFirst 33 = .ok (.if_icmp .ge 31, 3) := by decide +kernel
theorem dX4_takeFirst_36 : decode cX4_takeFirst 36 = .ok (.iload_n 2, 1) := by decide +kernel
theorem dX4_takeFirst_37 : decode cX4_takeFirst 37 = .ok (.iconst 1, 1) := by decide +kernel
theorem dX4_takeFirst_38 : decode cX4_takeFirst 38 = .ok (.iadd, 1) := by decide +kernel
theorem dX4_takeFirst_39 : decode cX4_takeFirst 39 = .ok (.bipush 8, 2) := by decide +kernel
theorem dX4_takeFirst_41 : decode cX4_takeFirst 41 = .ok (.if_icmp .ge 23, 3) := by decide +kernel
theorem dX4_takeFirst_44 : decode cX4_takeFirst 44 = .ok (.aload_n 0, 1) := by decide +kernel
theorem dX4_takeFirst_45 : decode cX4_takeFirst 45 = .ok (.getfield 11, 3) := by decide +kernel
theorem dX4_takeFirst_48 : decode cX4_takeFirst 48 = .ok (.iload_n 2, 1) := by decide +kernel
theorem dX4_takeFirst_49 : decode cX4_takeFirst 49 = .ok (.aload_n 0, 1) := by decide +kernel
theorem dX4_takeFirst_50 : decode cX4_takeFirst 50 = .ok (.getfield 11, 3) := by decide +kernel
theorem dX4_takeFirst_53 : decode cX4_takeFirst 53 = .ok (.iload_n 2, 1) := by decide +kernel
theorem dX4_takeFirst_54 : decode cX4_takeFirst 54 = .ok (.iconst 1, 1) := by decide +kernel
theorem dX4_takeFirst_55 : decode cX4_takeFirst 55 = .ok (.iadd, 1) := by decide +kernel
theorem dX4_takeFirst_56 : decode cX4_takeFirst 56 = .ok (.aaload, 1) := by decide +kernel
theorem dX4_takeFirst_57 : decode cX4_takeFirst 57 = .ok (.aastore, 1) := by decide +kernel
theorem dX4_takeFirst_58 : decode cX4_takeFirst 58 = .ok (.iinc 2 1, 3) := by decide +kernel
theorem dX4_takeFirst_61 : decode cX4_takeFirst 61 = .ok (.goto (-33), 3) := by decide +kernel
theorem dX4_takeFirst_64 : decode cX4_takeFirst 64 = .ok (.aload_n 1, 1) := by decide +kernel
theorem dX4_takeFirst_65 : decode cX4_takeFirst 65 = .ok (.areturn, 1) := by decide +kernel
theorem dX4_numberAt_0 : decode cX4_numberAt 0 = .ok (.iload_n 1, 1) := by decide +kernel
theorem dX4_numberAt_1 : decode cX4_numberAt 1 = .ok (.ifCond .lt 21, 3) := by decide +kernel
theorem dX4_numberAt_4 : decode cX4_numberAt 4 = .ok (.iload_n 1, 1) := by decide +kernel
theorem dX4_numberAt_5 : decode cX4_numberAt 5 = .ok (.aload_n 0, 1) := by decide +kernel
theorem dX4_numberAt_6 : decode cX4_numberAt 6 = .ok (.getfield 17, 3) := by decide +kernel
theorem dX4_numberAt_9 : decode cX4_numberAt 9 = .ok (.if_icmp .ge 13, 3) := by decide +kernel
theorem dX4_numberAt_12 : decode cX4_numberAt 12 = .ok (.iload_n 1, 1) := by decide +kernel
theorem dX4_numberAt_13 : decode cX4_numberAt 13 = .ok (.bipush 8, 2) := by decide +kernel
theorem dX4_numberAt_15 : decode cX4_numberAt 15 = .ok (.if_icmp .ge 7, 3) := by decide +kernel
theorem dX4_numberAt_18 : decode cX4_numberAt 18 = .ok (.iconst 1, 1) := by decide +kernel
theorem dX4_numberAt_19 : decode cX4_numberAt 19 = .ok (.goto 4, 3) := by decide +kernel
theorem dX4_numberAt_22 : decode cX4_numberAt 22 = .ok (.iconst 0, 1) := by decide +kernel
theorem dX4_numberAt_23 : decode cX4_numberAt 23 = .ok (.istore_n 2, 1) := by decide +kernel
theorem dX4_numberAt_24 : decode cX4_numberAt 24 = .ok (.iload_n 2, 1) := by decide +kernel
theorem dX4_numberAt_25 : decode cX4_numberAt 25 = .ok (.ifCond .eq 24, 3) := by decide +kernel
theorem dX4_numberAt_28 : decode cX4_numberAt 28 = .ok (.aload_n 0, 1) := by decide +kernel
theorem dX4_numberAt_29 : decode cX4_numberAt 29 = .ok (.getfield 11, 3) := by decide +kernel
theorem dX4_numberAt_32 : decode cX4_numberAt 32 = .ok (.iload_n 1, 1) := by decide +kernel
theorem dX4_numberAt_33 : decode cX4_numberAt 33 = .ok (.aaload, 1) := by decide +kernel
theorem dX4_numberAt_34 : decode cX4_numberAt 34 = .ok (.ifnull 15, 3) := by decide +kernel
theorem dX4_numberAt_37 : decode cX4_numberAt 37 = .ok (.aload_n 0, 1) := by decide +kernel
theorem dX4_numberAt_38 : decode cX4_numberAt 38 = .ok (.getfield 11, 3) := by decide +kernel
theorem dX4_numberAt_41 : decode cX4_numberAt 41 = .ok (.iload_n 1, 1) := by decide +kernel
theorem dX4_numberAt_42 : decode cX4_numberAt 42 = .ok (.aaload, 1) := by decide +kernel
theorem dX4_numberAt_43 : decode cX4_numberAt 43 = .ok (.getfield 21, 3) := by decide +kernel
theorem dX4_numberAt_46 : decode cX4_numberAt 46 = .ok (.goto 4, 3) := by decide +kernel
theorem dX4_numberAt_49 : decode cX4_numberAt 49 = .ok (.iconst (-1), 1) := by decide +kernel
theorem dX4_numberAt_50 : decode cX4_numberAt 50 = .ok (.ireturn, 1) := by decide +kernel
