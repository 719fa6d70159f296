theorem dX6_init_0 : decode cX6_init 0 = .ok (.aload_n 0, 1) := by decide +kernel
theorem dX6_init_1 : decode cX6_init 1 = .ok (.invokespecial 1, 3) := by decide +kernel
theorem dX6_init_4 : decode cX6_init 4 = .ok (.aload_n 0, 1) := by decide +kernel
theorem dX6_init_5 : decode cX6_init 5 = .ok (.bipush 80, 2) := by decide +kernel
theorem dX6_init_7 : decode cX6_init 7 = .ok (.newarray .int, 2) := by decide +kernel
theorem dX6_init_9 : decode cX6_init 9 = .ok (.putfield 7, 3) := by decide +kernel
theorem dX6_init_12 : decode cX6_init 12 = .ok (.aload_n 0, 1) := by decide +kernel
theorem dX6_init_13 : decode cX6_init 13 = .ok (.bipush 8, 2) := by decide +kernel
theorem dX6_init_15 : decode cX6_init 15 = .ok (.newarray .int, 2) := by decide +kernel
theorem dX6_init_17 : decode cX6_init 17 = .ok (.putfield 13, 3) := by decide +kernel
theorem dX6_init_20 : decode cX6_init 20 = .ok (.aload_n 0, 1) := by decide +kernel
theorem dX6_init_21 : decode cX6_init 21 = .ok (.bipush 8, 2) := by decide +kernel
theorem dX6_init_23 : decode cX6_init 23 = .ok (.newarray .int, 2) := by decide +kernel
theorem dX6_init_25 : decode cX6_init 25 = .ok (.putfield 16, 3) := by decide +kernel
theorem dX6_init_28 : decode cX6_init 28 = .ok (.aload_n 0, 1) := by decide +kernel
theorem dX6_init_29 : decode cX6_init 29 = .ok (.bipush 8, 2) := by decide +kernel
theorem dX6_init_31 : decode cX6_init 31 = .ok (.newarray .int, 2) := by decide +kernel
theorem dX6_init_33 : decode cX6_init 33 = .ok (.putfield 19, 3) := by decide +kernel
theorem dX6_init_36 : decode cX6_init 36 = .ok (.aload_n 0, 1) := by decide +kernel
theorem dX6_init_37 : decode cX6_init 37 = .ok (.bipush 56, 2) := by decide +kernel
theorem dX6_init_39 : decode cX6_init 39 = .ok (.newarray .int, 2) := by decide +kernel
theorem dX6_init_41 : decode cX6_init 41 = .ok (.putfield 22, 3) := by decide +kernel
theorem dX6_init_44 : decode cX6_init 44 = .ok (.aload_n 0, 1) := by decide +kernel
theorem dX6_init_45 : decode cX6_init 45 = .ok (.bipush 8, 2) := by decide +kernel
theorem dX6_init_47 : decode cX6_init 47 = .ok (.newarray .int, 2) := by decide +kernel
theorem dX6_init_49 : decode cX6_init 49 = .ok (.putfield 25, 3) := by decide +kernel
theorem dX6_init_52 : decode cX6_init 52 = .ok (.aload_n 0, 1) := by decide +kernel
theorem dX6_init_53 : decode cX6_init 53 = .ok (.bipush 8, 2) := by decide +kernel
theorem dX6_init_55 : decode cX6_init 55 = .ok (.newarray .int, 2) := by decide +kernel
theorem dX6_init_57 : decode cX6_init 57 = .ok (.putfield 28, 3) := by decide +kernel
theorem dX6_init_60 : decode cX6_init 60 = .ok (.aload_n 0, 1) := by decide +kernel
theorem dX6_init_61 : decode cX6_init 61 = .ok (.bipush 8, 2) := by decide +kernel
theorem dX6_init_63 : decode cX6_init 63 = .ok (.newarray .int, 2) := by decide +kernel
theorem dX6_init_65 : decode cX6_init 65 = .ok (.putfield 31, 3) := by decide +kernel
theorem dX6_init_68 : decode cX6_init 68 = .ok (.aload_n 0, 1) := by decide +kernel
theorem dX6_init_69 : decode cX6_init 69 = .ok (.iconst 4, 1) := by decide +kernel
theorem dX6_init_70 : decode cX6_init 70 = .ok (.newarray .int, 2) := by decide +kernel
theorem dX6_init_72 : decode cX6_init 72 = .ok (.putfield 34, 3) := by decide +kernel
theorem dX6_init_75 : decode cX6_init 75 = .ok (.aload_n 0, 1) := by decide +kernel
theorem dX6_init_76 : decode cX6_init 76 = .ok (.bipush 80, 2) := by decide +kernel
theorem dX6_init_78 : decode cX6_init 78 = .ok (.newarray .int, 2) := by decide +kernel
theorem dX6_init_80 : decode cX6_init 80 = .ok (.putfield 37, 3) := by decide +kernel
theorem dX6_init_83 : decode cX6_init 83 = .ok (.return_, 1) := by decide +kernel
theorem dX6_within_0 : decode cX6_within 0 = .ok (.iload_n 0, 1) := by decide +kernel
theorem dX6_within_1 : decode cX6_within 1 = .ok (.iload_n 1, 1) := by decide +kernel
theorem dX6_within_2 : decode cX6_within 2 = .ok (.if_icmp .lt 12, 3) := by decide +kernel
theorem dX6_within_5 : decode cX6_within 5 = .ok (.iload_n 0, 1) := by decide +kernel
theorem dX6_within_6 : decode cX6_within 6 = .ok (.iload_n 2, 1) := by decide +kernel
theorem dX6_within_7 : decode cX6_within 7 = .ok (.if_icmp .gt 7, 3) := by decide +kernel
theorem dX6_within_10 : decode cX6_within 10 = .ok (.iconst 1, 1) := by decide +kernel
theorem dX6_within_11 : decode cX6_within 11 = .ok (.goto 4, 3) := by decide +kernel
theorem dX6_within_14 : decode cX6_within 14 = .ok (.iconst 0, 1) := by decide +kernel
theorem dX6_within_15 : decode cX6_within 15 = .ok (.ireturn, 1) := by decide +kernel
theorem dX6_add_0 : decode cX6_add 0 = .ok (.iload_n 1, 1) := by decide +kernel
theorem dX6_add_1 : decode cX6_add 1 = .ok (.iconst 0, 1) := by decide +kernel
theorem dX6_add_2 : decode cX6_add 2 = .ok (.bipush 15, 2) := by decide +kernel
theorem dX6_add_4 : decode cX6_add 4 = .ok (.invokestatic 40, 3) := by decide +kernel
theorem dX6_add_7 : decode cX6_add 7 = .ok (.ifCond .ne 5, 3) := by decide +kernel
theorem dX6_add_10 : decode cX6_add 10 = .ok (.iconst (-1), 1) := by decide +kernel
theorem dX6_add_11 : decode cX6_add 11 = .ok (.ireturn, 1) := by decide +kernel
theorem dX6_add_12 : decode cX6_add 12 = .ok (.iload_n 1, 1) := by decide +kernel
theorem dX6_add_13 : decode cX6_add 13 = .ok (.iconst 2, 1) := by decide +kernel
theorem dX6_add_14 : decode cX6_add 14 = .ok (.if_icmp .eq 20, 3) := by decide +kernel
theorem dX6_add_17 : decode cX6_add 17 = .ok (.iload_n 1, 1) := by decide +kernel
theorem dX6_add_18 : decode cX6_add 18 = .ok (.iconst 3, 1) := by decide +kernel
theorem dX6_add_19 : decode cX6_add 19 = .ok (.if_icmp .eq 15, 3) := by decide +kernel
theorem dX6_add_22 : decode cX6_add 22 = .ok (.iload_n 1, 1) := by decide +kernel
theorem dX6_add_23 : decode cX6_add 23 = .ok (.bipush 10, 2) := by decide +kernel
theorem dX6_add_25 : decode cX6_add 25 = .ok (.if_icmp .eq 9, 3) := by decide +kernel
theorem dX6_add_28 : decode cX6_add 28 = .ok (.iload_n 1, 1) := by decide +kernel
theorem dX6_add_29 : decode cX6_add 29 = .ok (.bipush 11, 2) := by decide +kernel
theorem dX6_add_31 : decode cX6_add 31 = .ok (.if_icmp .ne 7, 3) := by decide +kernel
theorem dX6_add_34 : decode cX6_add 34 = .ok (.iconst 1, 1) := by decide +kernel
theorem dX6_add_35 : decode cX6_add 35 = .ok (.goto 4, 3) := by decide +kernel
theorem dX6_add_38 : decode cX6_add 38 = .ok (.iconst 0, 1) := by decide +kernel
theorem dX6_add_39 : decode cX6_add 39 = .ok (.istore_n 3, 1) := by decide +kernel
theorem dX6_add_40 : decode cX6_add 40 = .ok (.iload_n 3, 1) := by decide +kernel
theorem dX6_add_41 : decode cX6_add 41 = .ok (.ifCond .eq 12, 3) := by decide +kernel
theorem dX6_add_44 : decode cX6_add 44 = .ok (.iload_n 2, 1) := by decide +kernel
theorem dX6_add_45 : decode cX6_add 45 = .ok (.iconst 0, 1) := by decide +kernel
theorem dX6_add_46 : decode cX6_add 46 = .ok (.iconst 3, 1) := by decide +kernel
theorem dX6_add_47 : decode cX6_add 47 = .ok (.invokestatic 40, 3) := by decide +kernel
theorem dX6_add_50 : decode cX6_add 50 = .ok (.ifCond .eq 41, 3) := by decide +kernel
theorem dX6_add_53 : decode cX6_add 53 = .ok (.iload_n 1, 1) := by decide +kernel
theorem dX6_add_54 : decode cX6_add 54 = .ok (.bipush 8, 2) := by decide +kernel
theorem dX6_add_56 : decode cX6_add 56 = .ok (.if_icmp .eq 9, 3) := by decide +kernel
theorem dX6_add_59 : decode cX6_add 59 = .ok (.iload_n 1, 1) := by decide +kernel
theorem dX6_add_60 : decode cX6_add 60 = .ok (.bipush 9, 2) := by decide +kernel
theorem dX6_add_62 : decode cX6_add 62 = .ok (.if_icmp .ne 13, 3) := by decide +kernel
theorem dX6_add_65 : decode cX6_add 65 = .ok (.iload_n 2, 1) := by decide +kernel
theorem dX6_add_66 : decode cX6_add 66 = .ok (.iconst 0, 1) := by decide +kernel
theorem dX6_add_67 : decode cX6_add 67 = .ok (.bipush 39, 2) := by decide +kernel
theorem dX6_add_69 : decode cX6_add 69 = .ok (.invokestatic 40, 3) := by decide +kernel
theorem dX6_add_72 : decode cX6_add 72 = .ok (.ifCond .eq 19, 3) := by decide +kernel
theorem dX6_add_75 : decode cX6_add 75 = .ok (.iload_n 1, 1) := by decide +kernel
theorem dX6_add_76 : decode cX6_add 76 = .ok (.bipush 14, 2) := by decide +kernel
theorem dX6_add_78 : decode cX6_add 78 = .ok (.if_icmp .ne 16, 3) := by decide +kernel
theorem dX6_add_81 : decode cX6_add 81 = .ok (.iload_n 2, 1) := by decide +kernel
theorem dX6_add_82 : decode cX6_add 82 = .ok (.iconst 0, 1) := by decide +kernel
theorem dX6_add_83 : decode cX6_add 83 = .ok (.bipush 79, 2) := by decide +kernel
theorem dX6_add_85 : decode cX6_add 85 = .ok (.invokestatic 40, 3) := by decide +kernel
theorem dX6_add_88 : decode cX6_add 88 = .ok (.ifCond .ne 6, 3) := by decide +kernel
theorem dX6_add_91 : decode cX6_add 91 = .ok (.bipush (-2), 2) := by decide +kernel
theorem dX6_add_93 : decode cX6_add 93 = .ok (.ireturn, 1) := by decide +kernel
theorem dX6_add_94 : decode cX6_add 94 = .ok (.aload_n 0, 1) := by decide +kernel
theorem dX6_add_95 : decode cX6_add 95 = .ok (.getfield 44, 3) := by decide +kernel
theorem dX6_add_98 : decode cX6_add 98 = .ok (.bipush 40, 2) := by decide +kernel
theorem dX6_add_100 : decode cX6_add 100 = .ok (.if_icmp .ne 6, 3) := by decide +kernel
theorem dX6_add_103 : decode cX6_add 103 = .ok (.bipush (-3), 2) := by decide +kernel
theorem dX6_add_105 : decode cX6_add 105 = .ok (.ireturn, 1) := by decide +kernel
theorem dX6_add_106 : decode cX6_add 106 = .ok (.aload_n 0, 1) := by decide +kernel
theorem dX6_add_107 : decode cX6_add 107 = .ok (.getfield 7, 3) := by decide +kernel
theorem dX6_add_110 : decode cX6_add 110 = .ok (.iconst 2, 1) := by decide +kernel
theorem dX6_add_111 : decode cX6_add 111 = .ok (.aload_n 0, 1) := by decide +kernel
theorem dX6_add_112 : decode cX6_add 112 = .ok (.getfield 44, 3) := by decide +kernel
theorem dX6_add_115 : decode cX6_add 115 = .ok (.imul, 1) := by decide +kernel
theorem dX6_add_116 : decode cX6_add 116 = .ok (.iload_n 1, 1) := by decide +kernel
theorem dX6_add_117 : decode cX6_add 117 = .ok (.iastore, 1) := by decide +kernel
theorem dX6_add_118 : decode cX6_add 118 = .ok (.aload_n 0, 1) := by decide +kernel
theorem dX6_add_119 : decode cX6_add 119 = .ok (.getfield 7, 3) := by decide +kernel
theorem dX6_add_122 : decode cX6_add 122 = .ok (.iconst 2, 1) := by decide +kernel
theorem dX6_add_123 : decode cX6_add 123 = .ok (.aload_n 0, 1) := by decide +kernel
theorem dX6_add_124 : decode cX6_add 124 = .ok (.getfield 44, 3) := by decide +kernel
theorem dX6_add_127 : decode cX6_add 127 = .ok (.imul, 1) := by decide +kernel
theorem dX6_add_128 : decode cX6_add 128 = .ok (.iconst 1, 1) := by decide +kernel
theorem dX6_add_129 : decode cX6_add 129 = .ok (.iadd, 1) := by decide +kernel
theorem dX6_add_130 : decode cX6_add 130 = .ok (.iload_n 2, 1) := by decide +kernel
theorem dX6_add_131 : decode cX6_add 131 = .ok (.iastore, 1) := by decide +kernel
theorem dX6_add_132 : decode cX6_add 132 = .ok (.aload_n 0, 1) := by decide +kernel
theorem dX6_add_133 : decode cX6_add 133 = .ok (.dup, 1) := by decide +kernel
theorem dX6_add_134 : decode cX6_add 134 = .ok (.getfield 44, 3) := by decide +kernel
theorem dX6_add_137 : decode cX6_add 137 = .ok (.iconst 1, 1) := by decide +kernel
theorem dX6_add_138 : decode cX6_add 138 = .ok (.iadd, 1) := by decide +kernel
theorem dX6_add_139 : decode cX6_add 139 = .ok (.putfield 44, 3) := by decide +kernel
theorem dX6_add_142 : decode cX6_add 142 = .ok (.aload_n 0, 1) := by decide +kernel
theorem dX6_add_143 : decode cX6_add 143 = .ok (.getfield 44, 3) := by decide +kernel
theorem dX6_add_146 : decode cX6_add 146 = .ok (.iconst 1, 1) := by decide +kernel
theorem dX6_add_147 : decode cX6_add 147 = .ok (.isub, 1) := by decide +kernel
theorem dX6_add_148 : decode cX6_add 148 = .ok (.ireturn, 1) := by decide +kernel
theorem dX6_atEnd_0 : decode cX6_atEnd 0 = .ok (.aload_n 0, 1) := by decide +kernel
theorem dX6_atEnd_1 : decode cX6_atEnd 1 = .ok (.getfield 13, 3) := by decide +kernel
theorem dX6_atEnd_4 : decode cX6_atEnd 4 = .ok (.iload_n 1, 1) := by decide +kernel
theorem dX6_atEnd_5 : decode cX6_atEnd 5 = .ok (.iconst 1, 1) := by decide +kernel
theorem dX6_atEnd_6 : decode cX6_atEnd 6 = .ok (.iastore, 1) := by decide +kernel
theorem dX6_atEnd_7 : decode cX6_atEnd 7 = .ok (.aload_n 0, 1) := by decide +kernel
theorem dX6_atEnd_8 : decode cX6_atEnd 8 = .ok (.getfield 25, 3) := by decide +kernel
theorem dX6_atEnd_11 : decode cX6_atEnd 11 = .ok (.iload_n 1, 1) := by decide +kernel
theorem dX6_atEnd_12 : decode cX6_atEnd 12 = .ok (.aload_n 0, 1) := by decide +kernel
theorem dX6_atEnd_13 : decode cX6_atEnd 13 = .ok (.getfield 48, 3) := by decide +kernel
theorem dX6_atEnd_16 : decode cX6_atEnd 16 = .ok (.iastore, 1) := by decide +kernel
theorem dX6_atEnd_17 : decode cX6_atEnd 17 = .ok (.aload_n 0, 1) := by decide +kernel
theorem dX6_atEnd_18 : decode cX6_atEnd 18 = .ok (.dup, 1) := by decide +kernel
theorem dX6_atEnd_19 : decode cX6_atEnd 19 = .ok (.getfield 48, 3) := by decide +kernel
theorem dX6_atEnd_22 : decode cX6_atEnd 22 = .ok (.iconst 1, 1) := by decide +kernel
theorem dX6_atEnd_23 : decode cX6_atEnd 23 = .ok (.iadd, 1) := by decide +kernel
theorem dX6_atEnd_24 : decode cX6_atEnd 24 = .ok (.putfield 48, 3) := by decide +kernel
theorem dX6_atEnd_27 : decode cX6_atEnd 27 = .ok (.return_, 1) := by decide +kernel
theorem dX6_begin_0 : decode cX6_begin 0 = .ok (.iconst 0, 1) := by decide +kernel
theorem dX6_begin_1 : decode cX6_begin 1 = .ok (.istore 4, 2) := by decide +kernel
theorem dX6_begin_3 : decode cX6_begin 3 = .ok (.iload 4, 2) := by decide +kernel
theorem dX6_begin_5 : decode cX6_begin 5 = .ok (.bipush 8, 2) := by decide +kernel
theorem dX6_begin_7 : decode cX6_begin 7 = .ok (.if_icmp .ge 19, 3) := by decide +kernel
theorem dX6_begin_10 : decode cX6_begin 10 = .ok (.aload_n 0, 1) := by decide +kernel
theorem dX6_begin_11 : decode cX6_begin 11 = .ok (.getfield 13, 3) := by decide +kernel
theorem dX6_begin_14 : decode cX6_begin 14 = .ok (.iload 4, 2) := by decide +kernel
theorem dX6_begin_16 : decode cX6_begin 16 = .ok (.iaload, 1) := by decide +kernel
theorem dX6_begin_17 : decode cX6_begin 17 = .ok (.ifCond .eq 9, 3) := by decide +kernel
theorem dX6_begin_20 : decode cX6_begin 20 = .ok (.iinc 4 1, 3) := by decide +kernel
theorem dX6_begin_23 : decode cX6_begin 23 = .ok (.goto (-20), 3) := by decide +kernel
theorem dX6_begin_26 : decode cX6_begin 26 = .ok (.iload 4, 2) := by decide +kernel
theorem dX6_begin_28 : decode cX6_begin 28 = .ok (.bipush 8, 2) := by decide +kernel
theorem dX6_begin_30 : decode cX6_begin 30 = .ok (.if_icmp .ne 5, 3) := by decide +kernel
theorem dX6_begin_33 : decode cX6_begin 33 = .ok (.iconst (-1), 1) := by decide +kernel
theorem dX6_begin_34 : decode cX6_begin 34 = .ok (.ireturn, 1) := by decide +kernel
theorem dX6_begin_35 : decode cX6_begin 35 = .ok (.aload_n 0, 1) := by decide +kernel
theorem dX6_begin_36 : decode cX6_begin 36 = .ok (.getfield 16, 3) := by decide +kernel
theorem dX6_begin_39 : decode cX6_begin 39 = .ok (.iload 4, 2) := by decide +kernel
theorem dX6_begin_41 : decode cX6_begin 41 = .ok (.iload_n 1, 1) := by decide +kernel
theorem dX6_begin_42 : decode cX6_begin 42 = .ok (.iastore, 1) := by decide +kernel
theorem dX6_begin_43 : decode cX6_begin 43 = .ok (.aload_n 0, 1) := by decide +kernel
theorem dX6_begin_44 : decode cX6_begin 44 = .ok (.getfield 19, 3) := by decide +kernel
theorem dX6_begin_47 : decode cX6_begin 47 = .ok (.iload 4, 2) := by decide +kernel
theorem dX6_begin_49 : decode cX6_begin 49 = .ok (.iload_n 2, 1) := by decide +kernel
theorem dX6_begin_50 : decode cX6_begin 50 = .ok (.iastore, 1) := by decide +kernel
theorem dX6_begin_51 : decode cX6_begin 51 = .ok (.iconst 0, 1) := by decide +kernel
theorem dX6_begin_52 : decode cX6_begin 52 = .ok (.istore 5, 2) := by decide +kernel
theorem dX6_begin_54 : decode cX6_begin 54 = .ok (.iload 5, 2) := by decide +kernel
theorem dX6_begin_56 : decode cX6_begin 56 = .ok (.bipush 7, 2) := by decide +kernel
theorem dX6_begin_58 : decode cX6_begin 58 = .ok (.if_icmp .ge 23, 3) := by decide +kernel
theorem dX6_begin_61 : decode cX6_begin 61 = .ok (.aload_n 0, 1) := by decide +kernel
theorem dX6_begin_62 : decode cX6_begin 62 = .ok (.getfield 22, 3) := by decide +kernel
theorem dX6_begin_65 : decode cX6_begin 65 = .ok (.bipush 7, 2) := by decide +kernel
theorem dX6_begin_67 : decode cX6_begin 67 = .ok (.iload 4, 2) := by decide +kernel
theorem dX6_begin_69 : decode cX6_begin 69 = .ok (.imul, 1) := by decide +kernel
theorem dX6_begin_70 : decode cX6_begin 70 = .ok (.iload 5, 2) := by decide +kernel
theorem dX6_begin_72 : decode cX6_begin 72 = .ok (.iadd, 1) := by decide +kernel
theorem dX6_begin_73 : decode cX6_begin 73 = .ok (.iconst 0, 1) := by decide +kernel
theorem dX6_begin_74 : decode cX6_begin 74 = .ok (.iastore, 1) := by decide +kernel
theorem dX6_begin_75 : decode cX6_begin 75 = .ok (.iinc 5 1, 3) := by decide +kernel
theorem dX6_begin_78 : decode cX6_begin 78 = .ok (.goto (-24), 3) := by decide +kernel
theorem dX6_begin_81 : decode cX6_begin 81 = .ok (.aload_n 0, 1) := by decide +kernel
theorem dX6_begin_82 : decode cX6_begin 82 = .ok (.getfield 22, 3) := by decide +kernel
theorem dX6_begin_85 : decode cX6_begin 85 = .ok (.bipush 7, 2) := by decide +kernel
theorem dX6_begin_87 : decode cX6_begin 87 = .ok (.iload 4, 2) := by decide +kernel
theorem dX6_begin_89 : decode cX6_begin 89 = .ok (.imul, 1) := by decide +kernel
theorem dX6_begin_90 : decode cX6_begin 90 = .ok (.iload_n 3, 1) := by decide +kernel
theorem dX6_begin_91 : decode cX6_begin 91 = .ok (.iastore, 1) := by decide +kernel
theorem dX6_begin_92 : decode cX6_begin 92 = .ok (.aload_n 0, 1) := by decide +kernel
theorem dX6_begin_93 : decode cX6_begin 93 = .ok (.iload 4, 2) := by decide +kernel
theorem dX6_begin_95 : decode cX6_begin 95 = .ok (.invokevirtual 51, 3) := by decide +kernel
theorem dX6_begin_98 : decode cX6_begin 98 = .ok (.iload 4, 2) := by decide +kernel
theorem dX6_begin_100 : decode cX6_begin 100 = .ok (.ireturn, 1) := by decide +kernel
theorem dX6_start_0 : decode cX6_start 0 = .ok (.iload_n 1, 1) := by decide +kernel
theorem dX6_start_1 : decode cX6_start 1 = .ok (.iconst 0, 1) := by decide +kernel
theorem dX6_start_2 : decode cX6_start 2 = .ok (.iconst 1, 1) := by decide +kernel
theorem dX6_start_3 : decode cX6_start 3 = .ok (.invokestatic 40, 3) := by decide +kernel
theorem dX6_start_6 : decode cX6_start 6 = .ok (.ifCond .eq 13, 3) := by decide +kernel
theorem dX6_start_9 : decode cX6_start 9 = .ok (.iload_n 2, 1) := by decide +kernel
theorem dX6_start_10 : decode cX6_start 10 = .ok (.iconst 0, 1) := by decide +kernel
theorem dX6_start_11 : decode cX6_start 11 = .ok (.bipush 39, 2) := by decide +kernel
theorem dX6_start_13 : decode cX6_start 13 = .ok (.invokestatic 40, 3) := by decide +kernel
theorem dX6_start_16 : decode cX6_start 16 = .ok (.ifCond .ne 5, 3) := by decide +kernel
theorem dX6_start_19 : decode cX6_start 19 = .ok (.iconst (-1), 1) := by decide +kernel
theorem dX6_start_20 : decode cX6_start 20 = .ok (.ireturn, 1) := by decide +kernel
theorem dX6_start_21 : decode cX6_start 21 = .ok (.aload_n 0, 1) := by decide +kernel
theorem dX6_start_22 : decode cX6_start 22 = .ok (.iload_n 1, 1) := by decide +kernel
theorem dX6_start_23 : decode cX6_start 23 = .ok (.iload_n 2, 1) := by decide +kernel
theorem dX6_start_24 : decode cX6_start 24 = .ok (.iload_n 3, 1) := by decide +kernel
theorem dX6_start_25 : decode cX6_start 25 = .ok (.invokevirtual 55, 3) := by decide +kernel
theorem dX6_start_28 : decode cX6_start 28 = .ok (.istore 4, 2) := by decide +kernel
theorem dX6_start_30 : decode cX6_start 30 = .ok (.iload 4, 2) := by decide +kernel
theorem dX6_start_32 : decode cX6_start 32 = .ok (.ifCond .ge 8, 3) := by decide +kernel
theorem dX6_start_35 : decode cX6_start 35 = .ok (.bipush (-2), 2) := by decide +kernel
theorem dX6_start_37 : decode cX6_start 37 = .ok (.goto 5, 3) := by decide +kernel
theorem dX6_start_40 : decode cX6_start 40 = .ok (.iload 4, 2) := by decide +kernel
theorem dX6_start_42 : decode cX6_start 42 = .ok (.ireturn, 1) := by decide +kernel
theorem dX6_setClock_0 : decode cX6_setClock 0 = .ok (.aload_n 0, 1) := by decide +kernel
theorem dX6_setClock_1 : decode cX6_setClock 1 = .ok (.iload_n 1, 1) := by decide +kernel
theorem dX6_setClock_2 : decode cX6_setClock 2 = .ok (.putfield 59, 3) := by decide +kernel
theorem dX6_setClock_5 : decode cX6_setClock 5 = .ok (.return_, 1) := by decide +kernel
theorem dX6_reset_0 : decode cX6_reset 0 = .ok (.iconst 0, 1) := by decide +kernel
theorem dX6_reset_1 : decode cX6_reset 1 = .ok (.istore_n 1, 1) := by decide +kernel
theorem dX6_reset_2 : decode cX6_reset 2 = .ok (.iload_n 1, 1) := by decide +kernel
theorem dX6_reset_3 : decode cX6_reset 3 = .ok (.bipush 8, 2) := by decide +kernel
theorem dX6_reset_5 : decode cX6_reset 5 = .ok (.if_icmp .ge 16, 3) := by decide +kernel
theorem dX6_reset_8 : decode cX6_reset 8 = .ok (.aload_n 0, 1) := by decide +kernel
theorem dX6_reset_9 : decode cX6_reset 9 = .ok (.getfield 13, 3) := by decide +kernel
theorem dX6_reset_12 : decode cX6_reset 12 = .ok (.iload_n 1, 1) := by decide +kernel
theorem dX6_reset_13 : decode cX6_reset 13 = .ok (.iconst 0, 1) := by decide +kernel
theorem dX6_reset_14 : decode cX6_reset 14 = .ok (.iastore, 1) := by decide +kernel
theorem dX6_reset_15 : decode cX6_reset 15 = .ok (.iinc 1 1, 3) := by decide +kernel
theorem dX6_reset_18 : decode cX6_reset 18 = .ok (.goto (-16), 3) := by decide +kernel
theorem dX6_reset_21 : decode cX6_reset 21 = .ok (.iconst 0, 1) := by decide +kernel
theorem dX6_reset_22 : decode cX6_reset 22 = .ok (.istore_n 1, 1) := by decide +kernel
theorem dX6_reset_23 : decode cX6_reset 23 = .ok (.iload_n 1, 1) := by decide +kernel
theorem dX6_reset_24 : decode cX6_reset 24 = .ok (.iconst 4, 1) := by decide +kernel
theorem dX6_reset_25 : decode cX6_reset 25 = .ok (.if_icmp .ge 16, 3) := by decide +kernel
theorem dX6_reset_28 : decode cX6_reset 28 = .ok (.aload_n 0, 1) := by decide +kernel
theorem dX6_reset_29 : decode cX6_reset 29 = .ok (.getfield 34, 3) := by decide +kernel
theorem dX6_reset_32 : decode cX6_reset 32 = .ok (.iload_n 1, 1) := by decide +kernel
theorem dX6_reset_33 : decode cX6_reset 33 = .ok (.iconst 0, 1) := by decide +kernel
theorem dX6_reset_34 : decode cX6_reset 34 = .ok (.iastore, 1) := by decide +kernel
theorem dX6_reset_35 : decode cX6_reset 35 = .ok (.iinc 1 1, 3) := by decide +kernel
theorem dX6_reset_38 : decode cX6_reset 38 = .ok (.goto (-15), 3) := by decide +kernel
theorem dX6_reset_41 : decode cX6_reset 41 = .ok (.return_, 1) := by decide +kernel
theorem dX6_ready_0 : decode cX6_ready 0 = .ok (.iconst 0, 1) := by decide +kernel
theorem dX6_ready_1 : decode cX6_ready 1 = .ok (.istore_n 3, 1) := by decide +kernel
theorem dX6_ready_2 : decode cX6_ready 2 = .ok (.iload_n 3, 1) := by decide +kernel
theorem dX6_ready_3 : decode cX6_ready 3 = .ok (.bipush 8, 2) := by decide +kernel
theorem dX6_ready_5 : decode cX6_ready 5 = .ok (.if_icmp .ge 100, 3) := by decide +kernel
theorem dX6_ready_8 : decode cX6_ready 8 = .ok (.aload_n 0, 1) := by decide +kernel
theorem dX6_ready_9 : decode cX6_ready 9 = .ok (.getfield 13, 3) := by decide +kernel
theorem dX6_ready_12 : decode cX6_ready 12 = .ok (.iload_n 3, 1) := by decide +kernel
theorem dX6_ready_13 : decode cX6_ready 13 = .ok (.iaload, 1) := by decide +kernel
theorem dX6_ready_14 : decode cX6_ready 14 = .ok (.iconst 1, 1) := by decide +kernel
theorem dX6_ready_15 : decode cX6_ready 15 = .ok (.if_icmp .ne 84, 3) := by decide +kernel
theorem dX6_ready_18 : decode cX6_ready 18 = .ok (.aload_n 0, 1) := by decide +kernel
theorem dX6_ready_19 : decode cX6_ready 19 = .ok (.getfield 16, 3) := by decide +kernel
theorem dX6_ready_22 : decode cX6_ready 22 = .ok (.iload_n 3, 1) := by decide +kernel
theorem dX6_ready_23 : decode cX6_ready 23 = .ok (.iaload, 1) := by decide +kernel
theorem dX6_ready_24 : decode cX6_ready 24 = .ok (.iload_n 1, 1) := by decide +kernel
theorem dX6_ready_25 : decode cX6_ready 25 = .ok (.if_icmp .eq 6, 3) := by decide +kernel
theorem dX6_ready_28 : decode cX6_ready 28 = .ok (.goto 71, 3) := by decide +kernel
theorem dX6_ready_31 : decode cX6_ready 31 = .ok (.iconst 0, 1) := by decide +kernel
theorem dX6_ready_32 : decode cX6_ready 32 = .ok (.istore 4, 2) := by decide +kernel
theorem dX6_ready_34 : decode cX6_ready 34 = .ok (.iconst 0, 1) := by decide +kernel
theorem dX6_ready_35 : decode cX6_ready 35 = .ok (.istore 5, 2) := by decide +kernel
theorem dX6_ready_37 : decode cX6_ready 37 = .ok (.iload 5, 2) := by decide +kernel
theorem dX6_ready_39 : decode cX6_ready 39 = .ok (.bipush 8, 2) := by decide +kernel
theorem dX6_ready_41 : decode cX6_ready 41 = .ok (.if_icmp .ge 50, 3) := by decide +kernel
theorem dX6_ready_44 : decode cX6_ready 44 = .ok (.aload_n 0, 1) := by decide +kernel
theorem dX6_ready_45 : decode cX6_ready 45 = .ok (.getfield 13, 3) := by decide +kernel
theorem dX6_ready_48 : decode cX6_ready 48 = .ok (.iload 5, 2) := by decide +kernel
theorem dX6_ready_50 : decode cX6_ready 50 = .ok (.iaload, 1) := by decide +kernel
theorem dX6_ready_51 : decode cX6_ready 51 = .ok (.iconst 1, 1) := by decide +kernel
theorem dX6_ready_52 : decode cX6_ready 52 = .ok (.if_icmp .ne 33, 3) := by decide +kernel
theorem dX6_ready_55 : decode cX6_ready 55 = .ok (.aload_n 0, 1) := by decide +kernel
theorem dX6_ready_56 : decode cX6_ready 56 = .ok (.getfield 16, 3) := by decide +kernel
theorem dX6_ready_59 : decode cX6_ready 59 = .ok (.iload 5, 2) := by decide +kernel
theorem dX6_ready_61 : decode cX6_ready 61 = .ok (.iaload, 1) := by decide +kernel
theorem dX6_ready_62 : decode cX6_ready 62 = .ok (.iload_n 1, 1) := by decide +kernel
theorem dX6_ready_63 : decode cX6_ready 63 = .ok (.if_icmp .ne 22, 3) := by decide +kernel
theorem dX6_ready_66 : decode cX6_ready 66 = .ok (.aload_n 0, 1) := by decide +kernel
theorem dX6_ready_67 : decode cX6_ready 67 = .ok (.getfield 25, 3) := by decide +kernel
theorem dX6_ready_70 : decode cX6_ready 70 = .ok (.iload 5, 2) := by decide +kernel
theorem dX6_ready_72 : decode cX6_ready 72 = .ok (.iaload, 1) := by decide +kernel
theorem dX6_ready_73 : decode cX6_ready 73 = .ok (.aload_n 0, 1) := by decide +kernel
theorem dX6_ready_74 : decode cX6_ready 74 = .ok (.getfield 25, 3) := by decide +kernel
theorem dX6_ready_77 : decode cX6_ready 77 = .ok (.iload_n 3, 1) := by decide +kernel
theorem dX6_ready_78 : decode cX6_ready 78 = .ok (.iaload, 1) := by decide +kernel
theorem dX6_ready_79 : decode cX6_ready 79 = .ok (.if_icmp .ge 6, 3) := by decide +kernel
theorem dX6_ready_82 : decode cX6_ready 82 = .ok (.iinc 4 1, 3) := by decide +kernel
theorem dX6_ready_85 : decode cX6_ready 85 = .ok (.iinc 5 1, 3) := by decide +kernel
theorem dX6_ready_88 : decode cX6_ready 88 = .ok (.goto (-51), 3) := by decide +kernel
theorem dX6_ready_91 : decode cX6_ready 91 = .ok (.iload 4, 2) := by decide +kernel
theorem dX6_ready_93 : decode cX6_ready 93 = .ok (.iload_n 2, 1) := by decide +kernel
theorem dX6_ready_94 : decode cX6_ready 94 = .ok (.if_icmp .ne 5, 3) := by decide +kernel
theorem dX6_ready_97 : decode cX6_ready 97 = .ok (.iload_n 3, 1) := by decide +kernel
theorem dX6_ready_98 : decode cX6_ready 98 = .ok (.ireturn, 1) := by decide +kernel
theorem dX6_ready_99 : decode cX6_ready 99 = .ok (.iinc 3 1, 3) := by decide +kernel
theorem dX6_ready_102 : decode cX6_ready 102 = .ok (.goto (-100), 3) := by decide +kernel
theorem dX6_ready_105 : decode cX6_ready 105 = .ok (.iconst (-1), 1) := by decide +kernel
theorem dX6_ready_106 : decode cX6_ready 106 = .ok (.ireturn, 1) := by decide +kernel
theorem dX6_current_0 : decode cX6_current 0 = .ok (.iconst 0, 1) := by decide +kernel
theorem dX6_current_1 : decode cX6_current 1 = .ok (.istore_n 1, 1) := by decide +kernel
theorem dX6_current_2 : decode cX6_current 2 = .ok (.iload_n 1, 1) := by decide +kernel
theorem dX6_current_3 : decode cX6_current 3 = .ok (.bipush 8, 2) := by decide +kernel
theorem dX6_current_5 : decode cX6_current 5 = .ok (.if_icmp .ge 21, 3) := by decide +kernel
theorem dX6_current_8 : decode cX6_current 8 = .ok (.aload_n 0, 1) := by decide +kernel
theorem dX6_current_9 : decode cX6_current 9 = .ok (.getfield 13, 3) := by decide +kernel
theorem dX6_current_12 : decode cX6_current 12 = .ok (.iload_n 1, 1) := by decide +kernel
theorem dX6_current_13 : decode cX6_current 13 = .ok (.iaload, 1) := by decide +kernel
theorem dX6_current_14 : decode cX6_current 14 = .ok (.iconst 2, 1) := by decide +kernel
theorem dX6_current_15 : decode cX6_current 15 = .ok (.if_icmp .ne 5, 3) := by decide +kernel
theorem dX6_current_18 : decode cX6_current 18 = .ok (.iload_n 1, 1) := by decide +kernel
theorem dX6_current_19 : decode cX6_current 19 = .ok (.ireturn, 1) := by decide +kernel
theorem dX6_current_20 : decode cX6_current 20 = .ok (.iinc 1 1, 3) := by decide +kernel
theorem dX6_current_23 : decode cX6_current 23 = .ok (.goto (-21), 3) := by decide +kernel
theorem dX6_current_26 : decode cX6_current 26 = .ok (.iconst (-1), 1) := by decide +kernel
theorem dX6_current_27 : decode cX6_current 27 = .ok (.ireturn, 1) := by decide +kernel
theorem dX6_push_0 : decode cX6_push 0 = .ok (.aload_n 0, 1) := by decide +kernel
theorem dX6_push_1 : decode cX6_push 1 = .ok (.getfield 22, 3) := by decide +kernel
theorem dX6_push_4 : decode cX6_push 4 = .ok (.bipush 7, 2) := by decide +kernel
theorem dX6_push_6 : decode cX6_push 6 = .ok (.iload_n 1, 1) := by decide +kernel
theorem dX6_push_7 : decode cX6_push 7 = .ok (.imul, 1) := by decide +kernel
theorem dX6_push_8 : decode cX6_push 8 = .ok (.iconst 2, 1) := by decide +kernel
theorem dX6_push_9 : decode cX6_push 9 = .ok (.iadd, 1) := by decide +kernel
theorem dX6_push_10 : decode cX6_push 10 = .ok (.aload_n 0, 1) := by decide +kernel
theorem dX6_push_11 : decode cX6_push 11 = .ok (.getfield 22, 3) := by decide +kernel
theorem dX6_push_14 : decode cX6_push 14 = .ok (.bipush 7, 2) := by decide +kernel
theorem dX6_push_16 : decode cX6_push 16 = .ok (.iload_n 1, 1) := by decide +kernel
theorem dX6_push_17 : decode cX6_push 17 = .ok (.imul, 1) := by decide +kernel
theorem dX6_push_18 : decode cX6_push 18 = .ok (.iconst 1, 1) := by decide +kernel
theorem dX6_push_19 : decode cX6_push 19 = .ok (.iadd, 1) := by decide +kernel
theorem dX6_push_20 : decode cX6_push 20 = .ok (.iaload, 1) := by decide +kernel
theorem dX6_push_21 : decode cX6_push 21 = .ok (.iastore, 1) := by decide +kernel
theorem dX6_push_22 : decode cX6_push 22 = .ok (.aload_n 0, 1) := by decide +kernel
theorem dX6_push_23 : decode cX6_push 23 = .ok (.getfield 22, 3) := by decide +kernel
theorem dX6_push_26 : decode cX6_push 26 = .ok (.bipush 7, 2) := by decide +kernel
theorem dX6_push_28 : decode cX6_push 28 = .ok (.iload_n 1, 1) := by decide +kernel
theorem dX6_push_29 : decode cX6_push 29 = .ok (.imul, 1) := by decide +kernel
theorem dX6_push_30 : decode cX6_push 30 = .ok (.iconst 1, 1) := by decide +kernel
theorem dX6_push_31 : decode cX6_push 31 = .ok (.iadd, 1) := by decide +kernel
theorem dX6_push_32 : decode cX6_push 32 = .ok (.aload_n 0, 1) := by decide +kernel
theorem dX6_push_33 : decode cX6_push 33 = .ok (.getfield 22, 3) := by decide +kernel
theorem dX6_push_36 : decode cX6_push 36 = .ok (.bipush 7, 2) := by decide +kernel
theorem dX6_push_38 : decode cX6_push 38 = .ok (.iload_n 1, 1) := by decide +kernel
theorem dX6_push_39 : decode cX6_push 39 = .ok (.imul, 1) := by decide +kernel
theorem dX6_push_40 : decode cX6_push 40 = .ok (.iaload, 1) := by decide +kernel
theorem dX6_push_41 : decode cX6_push 41 = .ok (.iastore, 1) := by decide +kernel
theorem dX6_push_42 : decode cX6_push 42 = .ok (.aload_n 0, 1) := by decide +kernel
theorem dX6_push_43 : decode cX6_push 43 = .ok (.getfield 22, 3) := by decide +kernel
theorem dX6_push_46 : decode cX6_push 46 = .ok (.bipush 7, 2) := by decide +kernel
theorem dX6_push_48 : decode cX6_push 48 = .ok (.iload_n 1, 1) := by decide +kernel
theorem dX6_push_49 : decode cX6_push 49 = .ok (.imul, 1) := by decide +kernel
theorem dX6_push_50 : decode cX6_push 50 = .ok (.iload_n 2, 1) := by decide +kernel
theorem dX6_push_51 : decode cX6_push 51 = .ok (.iastore, 1) := by decide +kernel
theorem dX6_push_52 : decode cX6_push 52 = .ok (.return_, 1) := by decide +kernel
theorem dX6_pull_0 : decode cX6_pull 0 = .ok (.aload_n 0, 1) := by decide +kernel
theorem dX6_pull_1 : decode cX6_pull 1 = .ok (.getfield 22, 3) := by decide +kernel
theorem dX6_pull_4 : decode cX6_pull 4 = .ok (.bipush 7, 2) := by decide +kernel
theorem dX6_pull_6 : decode cX6_pull 6 = .ok (.iload_n 1, 1) := by decide +kernel
theorem dX6_pull_7 : decode cX6_pull 7 = .ok (.imul, 1) := by decide +kernel
theorem dX6_pull_8 : decode cX6_pull 8 = .ok (.aload_n 0, 1) := by decide +kernel
theorem dX6_pull_9 : decode cX6_pull 9 = .ok (.getfield 22, 3) := by decide +kernel
theorem dX6_pull_12 : decode cX6_pull 12 = .ok (.bipush 7, 2) := by decide +kernel
theorem dX6_pull_14 : decode cX6_pull 14 = .ok (.iload_n 1, 1) := by decide +kernel
theorem dX6_pull_15 : decode cX6_pull 15 = .ok (.imul, 1) := by decide +kernel
theorem dX6_pull_16 : decode cX6_pull 16 = .ok (.iconst 1, 1) := by decide +kernel
theorem dX6_pull_17 : decode cX6_pull 17 = .ok (.iadd, 1) := by decide +kernel
theorem dX6_pull_18 : decode cX6_pull 18 = .ok (.iaload, 1) := by decide +kernel
theorem dX6_pull_19 : decode cX6_pull 19 = .ok (.iastore, 1) := by decide +kernel
theorem dX6_pull_20 : decode cX6_pull 20 = .ok (.aload_n 0, 1) := by decide +kernel
theorem dX6_pull_21 : decode cX6_pull 21 = .ok (.getfield 22, 3) := by decide +kernel
theorem dX6_pull_24 : decode cX6_pull 24 = .ok (.bipush 7, 2) := by decide +kernel
theorem dX6_pull_26 : decode cX6_pull 26 = .ok (.iload_n 1, 1) := by decide +kernel
theorem dX6_pull_27 : decode cX6_pull 27 = .ok (.imul, 1) := by decide +kernel
theorem dX6_pull_28 : decode cX6_pull 28 = .ok (.iconst 1, 1) := by decide +kernel
theorem dX6_pull_29 : decode cX6_pull 29 = .ok (.iadd, 1) := by decide +kernel
theorem dX6_pull_30 : decode cX6_pull 30 = .ok (.aload_n 0, 1) := by decide +kernel
theorem dX6_pull_31 : decode cX6_pull 31 = .ok (.getfield 22, 3) := by decide +kernel
theorem dX6_pull_34 : decode cX6_pull 34 = .ok (.bipush 7, 2) := by decide +kernel
theorem dX6_pull_36 : decode cX6_pull 36 = .ok (.iload_n 1, 1) := by decide +kernel
theorem dX6_pull_37 : decode cX6_pull 37 = .ok (.imul, 1) := by decide +kernel
theorem dX6_pull_38 : decode cX6_pull 38 = .ok (.iconst 2, 1) := by decide +kernel
theorem dX6_pull_39 : decode cX6_pull 39 = .ok (.iadd, 1) := by decide +kernel
theorem dX6_pull_40 : decode cX6_pull 40 = .ok (.iaload, 1) := by decide +kernel
theorem dX6_pull_41 : decode cX6_pull 41 = .ok (.iastore, 1) := by decide +kernel
theorem dX6_pull_42 : decode cX6_pull 42 = .ok (.return_, 1) := by decide +kernel
theorem dX6_tell_0 : decode cX6_tell 0 = .ok (.iconst 5, 1) := by decide +kernel
theorem dX6_tell_1 : decode cX6_tell 1 = .ok (.aload_n 0, 1) := by decide +kernel
theorem dX6_tell_2 : decode cX6_tell 2 = .ok (.getfield 62, 3) := by decide +kernel
theorem dX6_tell_5 : decode cX6_tell 5 = .ok (.bipush 16, 2) := by decide +kernel
theorem dX6_tell_7 : decode cX6_tell 7 = .ok (.irem, 1) := by decide +kernel
theorem dX6_tell_8 : decode cX6_tell 8 = .ok (.imul, 1) := by decide +kernel
theorem dX6_tell_9 : decode cX6_tell 9 = .ok (.istore 5, 2) := by decide +kernel
theorem dX6_tell_11 : decode cX6_tell 11 = .ok (.aload_n 0, 1) := by decide +kernel
theorem dX6_tell_12 : decode cX6_tell 12 = .ok (.getfield 37, 3) := by decide +kernel
theorem dX6_tell_15 : decode cX6_tell 15 = .ok (.iload 5, 2) := by decide +kernel
theorem dX6_tell_17 : decode cX6_tell 17 = .ok (.iload_n 1, 1) := by decide +kernel
theorem dX6_tell_18 : decode cX6_tell 18 = .ok (.iastore, 1) := by decide +kernel
theorem dX6_tell_19 : decode cX6_tell 19 = .ok (.aload_n 0, 1) := by decide +kernel
theorem dX6_tell_20 : decode cX6_tell 20 = .ok (.getfield 37, 3) := by decide +kernel
theorem dX6_tell_23 : decode cX6_tell 23 = .ok (.iload 5, 2) := by decide +kernel
theorem dX6_tell_25 : decode cX6_tell 25 = .ok (.iconst 1, 1) := by decide +kernel
theorem dX6_tell_26 : decode cX6_tell 26 = .ok (.iadd, 1) := by decide +kernel
theorem dX6_tell_27 : decode cX6_tell 27 = .ok (.iload_n 2, 1) := by decide +kernel
theorem dX6_tell_28 : decode cX6_tell 28 = .ok (.iastore, 1) := by decide +kernel
theorem dX6_tell_29 : decode cX6_tell 29 = .ok (.aload_n 0, 1) := by decide +kernel
theorem dX6_tell_30 : decode cX6_tell 30 = .ok (.getfield 37, 3) := by decide +kernel
theorem dX6_tell_33 : decode cX6_tell 33 = .ok (.iload 5, 2) := by decide +kernel
theorem dX6_tell_35 : decode cX6_tell 35 = .ok (.iconst 2, 1) := by decide +kernel
theorem dX6_tell_36 : decode cX6_tell 36 = .ok (.iadd, 1) := by decide +kernel
theorem dX6_tell_37 : decode cX6_tell 37 = .ok (.iload_n 3, 1) := by decide +kernel
theorem dX6_tell_38 : decode cX6_tell 38 = .ok (.iastore, 1) := by decide +kernel
theorem dX6_tell_39 : decode cX6_tell 39 = .ok (.aload_n 0, 1) := by decide +kernel
theorem dX6_tell_40 : decode cX6_tell 40 = .ok (.getfield 37, 3) := by decide +kernel
theorem dX6_tell_43 : decode cX6_tell 43 = .ok (.iload 5, 2) := by decide +kernel
theorem dX6_tell_45 : decode cX6_tell 45 = .ok (.iconst 3, 1) := by decide +kernel
theorem dX6_tell_46 : decode cX6_tell 46 = .ok (.iadd, 1) := by decide +kernel
theorem dX6_tell_47 : decode cX6_tell 47 = .ok (.iload 4, 2) := by decide +kernel
theorem dX6_tell_49 : decode cX6_tell 49 = .ok (.iastore, 1) := by decide +kernel
theorem dX6_tell_50 : decode cX6_tell 50 = .ok (.aload_n 0, 1) := by decide +kernel
theorem dX6_tell_51 : decode cX6_tell 51 = .ok (.getfield 37, 3) := by decide +kernel
theorem dX6_tell_54 : decode cX6_tell 54 = .ok (.iload 5, 2) := by decide +kernel
theorem dX6_tell_56 : decode cX6_tell 56 = .ok (.iconst 4, 1) := by decide +kernel
theorem dX6_tell_57 : decode cX6_tell 57 = .ok (.iadd, 1) := by decide +kernel
theorem dX6_tell_58 : decode cX6_tell 58 = .ok (.aload_n 0, 1) := by decide +kernel
theorem dX6_tell_59 : decode cX6_tell 59 = .ok (.getfield 59, 3) := by decide +kernel
theorem dX6_tell_62 : decode cX6_tell 62 = .ok (.iastore, 1) := by decide +kernel
theorem dX6_tell_63 : decode cX6_tell 63 = .ok (.aload_n 0, 1) := by decide +kernel
theorem dX6_tell_64 : decode cX6_tell 64 = .ok (.dup, 1) := by decide +kernel
theorem dX6_tell_65 : decode cX6_tell 65 = .ok (.getfield 62, 3) := by decide +kernel
theorem dX6_tell_68 : decode cX6_tell 68 = .ok (.iconst 1, 1) := by decide +kernel
theorem dX6_tell_69 : decode cX6_tell 69 = .ok (.iadd, 1) := by decide +kernel
theorem dX6_tell_70 : decode cX6_tell 70 = .ok (.putfield 62, 3) := by decide +kernel
theorem dX6_tell_73 : decode cX6_tell 73 = .ok (.aload_n 0, 1) := by decide +kernel
theorem dX6_tell_74 : decode cX6_tell 74 = .ok (.iload_n 3, 1) := by decide +kernel
theorem dX6_tell_75 : decode cX6_tell 75 = .ok (.iload 4, 2) := by decide +kernel
theorem dX6_tell_77 : decode cX6_tell 77 = .ok (.invokevirtual 65, 3) := by decide +kernel
theorem dX6_tell_80 : decode cX6_tell 80 = .ok (.aload_n 0, 1) := by decide +kernel
theorem dX6_tell_81 : decode cX6_tell 81 = .ok (.getfield 34, 3) := by decide +kernel
theorem dX6_tell_84 : decode cX6_tell 84 = .ok (.iload_n 1, 1) := by decide +kernel
theorem dX6_tell_85 : decode cX6_tell 85 = .ok (.iconst 0, 1) := by decide +kernel
theorem dX6_tell_86 : decode cX6_tell 86 = .ok (.iastore, 1) := by decide +kernel
theorem dX6_tell_87 : decode cX6_tell 87 = .ok (.return_, 1) := by decide +kernel
theorem dX6_send_0 : decode cX6_send 0 = .ok (.aload_n 0, 1) := by decide +kernel
theorem dX6_send_1 : decode cX6_send 1 = .ok (.getfield 34, 3) := by decide +kernel
theorem dX6_send_4 : decode cX6_send 4 = .ok (.iload_n 2, 1) := by decide +kernel
theorem dX6_send_5 : decode cX6_send 5 = .ok (.iaload, 1) := by decide +kernel
theorem dX6_send_6 : decode cX6_send 6 = .ok (.bipush 8, 2) := by decide +kernel
theorem dX6_send_8 : decode cX6_send 8 = .ok (.irem, 1) := by decide +kernel
theorem dX6_send_9 : decode cX6_send 9 = .ok (.istore_n 3, 1) := by decide +kernel
theorem dX6_send_10 : decode cX6_send 10 = .ok (.aload_n 0, 1) := by decide +kernel
theorem dX6_send_11 : decode cX6_send 11 = .ok (.getfield 22, 3) := by decide +kernel
theorem dX6_send_14 : decode cX6_send 14 = .ok (.bipush 7, 2) := by decide +kernel
theorem dX6_send_16 : decode cX6_send 16 = .ok (.iload_n 1, 1) := by decide +kernel
theorem dX6_send_17 : decode cX6_send 17 = .ok (.imul, 1) := by decide +kernel
theorem dX6_send_18 : decode cX6_send 18 = .ok (.iaload, 1) := by decide +kernel
theorem dX6_send_19 : decode cX6_send 19 = .ok (.istore 4, 2) := by decide +kernel
theorem dX6_send_21 : decode cX6_send 21 = .ok (.aload_n 0, 1) := by decide +kernel
theorem dX6_send_22 : decode cX6_send 22 = .ok (.getfield 34, 3) := by decide +kernel
theorem dX6_send_25 : decode cX6_send 25 = .ok (.iload_n 2, 1) := by decide +kernel
theorem dX6_send_26 : decode cX6_send 26 = .ok (.iaload, 1) := by decide +kernel
theorem dX6_send_27 : decode cX6_send 27 = .ok (.bipush 8, 2) := by decide +kernel
theorem dX6_send_29 : decode cX6_send 29 = .ok (.if_icmp .lt 32, 3) := by decide +kernel
theorem dX6_send_32 : decode cX6_send 32 = .ok (.aload_n 0, 1) := by decide +kernel
theorem dX6_send_33 : decode cX6_send 33 = .ok (.getfield 34, 3) := by decide +kernel
theorem dX6_send_36 : decode cX6_send 36 = .ok (.iload_n 2, 1) := by decide +kernel
theorem dX6_send_37 : decode cX6_send 37 = .ok (.iaload, 1) := by decide +kernel
theorem dX6_send_38 : decode cX6_send 38 = .ok (.bipush 16, 2) := by decide +kernel
theorem dX6_send_40 : decode cX6_send 40 = .ok (.if_icmp .ge 21, 3) := by decide +kernel
theorem dX6_send_43 : decode cX6_send 43 = .ok (.aload_n 0, 1) := by decide +kernel
theorem dX6_send_44 : decode cX6_send 44 = .ok (.getfield 13, 3) := by decide +kernel
theorem dX6_send_47 : decode cX6_send 47 = .ok (.iload_n 1, 1) := by decide +kernel
theorem dX6_send_48 : decode cX6_send 48 = .ok (.iconst 5, 1) := by decide +kernel
theorem dX6_send_49 : decode cX6_send 49 = .ok (.iastore, 1) := by decide +kernel
theorem dX6_send_50 : decode cX6_send 50 = .ok (.aload_n 0, 1) := by decide +kernel
theorem dX6_send_51 : decode cX6_send 51 = .ok (.getfield 19, 3) := by decide +kernel
theorem dX6_send_54 : decode cX6_send 54 = .ok (.iload_n 1, 1) := by decide +kernel
theorem dX6_send_55 : decode cX6_send 55 = .ok (.dup2, 1) := by decide +kernel
theorem dX6_send_56 : decode cX6_send 56 = .ok (.iaload, 1) := by decide +kernel
theorem dX6_send_57 : decode cX6_send 57 = .ok (.iconst 1, 1) := by decide +kernel
theorem dX6_send_58 : decode cX6_send 58 = .ok (.isub, 1) := by decide +kernel
theorem dX6_send_59 : decode cX6_send 59 = .ok (.iastore, 1) := by decide +kernel
theorem dX6_send_60 : decode cX6_send 60 = .ok (.return_, 1) := by decide +kernel
theorem dX6_send_61 : decode cX6_send 61 = .ok (.aload_n 0, 1) := by decide +kernel
theorem dX6_send_62 : decode cX6_send 62 = .ok (.iload_n 1, 1) := by decide +kernel
theorem dX6_send_63 : decode cX6_send 63 = .ok (.invokevirtual 69, 3) := by decide +kernel
theorem dX6_send_66 : decode cX6_send 66 = .ok (.aload_n 0, 1) := by decide +kernel
theorem dX6_send_67 : decode cX6_send 67 = .ok (.getfield 34, 3) := by decide +kernel
theorem dX6_send_70 : decode cX6_send 70 = .ok (.iload_n 2, 1) := by decide +kernel
theorem dX6_send_71 : decode cX6_send 71 = .ok (.iaload, 1) := by decide +kernel
theorem dX6_send_72 : decode cX6_send 72 = .ok (.ifCond .ne 31, 3) := by decide +kernel
theorem dX6_send_75 : decode cX6_send 75 = .ok (.aload_n 0, 1) := by decide +kernel
theorem dX6_send_76 : decode cX6_send 76 = .ok (.getfield 13, 3) := by decide +kernel
theorem dX6_send_79 : decode cX6_send 79 = .ok (.iload_n 1, 1) := by decide +kernel
theorem dX6_send_80 : decode cX6_send 80 = .ok (.iconst 3, 1) := by decide +kernel
theorem dX6_send_81 : decode cX6_send 81 = .ok (.iastore, 1) := by decide +kernel
theorem dX6_send_82 : decode cX6_send 82 = .ok (.aload_n 0, 1) := by decide +kernel
theorem dX6_send_83 : decode cX6_send 83 = .ok (.getfield 31, 3) := by decide +kernel
theorem dX6_send_86 : decode cX6_send 86 = .ok (.iload_n 1, 1) := by decide +kernel
theorem dX6_send_87 : decode cX6_send 87 = .ok (.iload 4, 2) := by decide +kernel
theorem dX6_send_89 : decode cX6_send 89 = .ok (.iastore, 1) := by decide +kernel
theorem dX6_send_90 : decode cX6_send 90 = .ok (.aload_n 0, 1) := by decide +kernel
theorem dX6_send_91 : decode cX6_send 91 = .ok (.getfield 34, 3) := by decide +kernel
theorem dX6_send_94 : decode cX6_send 94 = .ok (.iload_n 2, 1) := by decide +kernel
theorem dX6_send_95 : decode cX6_send 95 = .ok (.bipush 8, 2) := by decide +kernel
theorem dX6_send_97 : decode cX6_send 97 = .ok (.iload_n 1, 1) := by decide +kernel
theorem dX6_send_98 : decode cX6_send 98 = .ok (.iadd, 1) := by decide +kernel
theorem dX6_send_99 : decode cX6_send 99 = .ok (.iastore, 1) := by decide +kernel
theorem dX6_send_100 : decode cX6_send 100 = .ok (.goto 17, 3) := by decide +kernel
theorem dX6_send_103 : decode cX6_send 103 = .ok (.aload_n 0, 1) := by decide +kernel
theorem dX6_send_104 : decode cX6_send 104 = .ok (.iload_n 2, 1) := by decide +kernel
theorem dX6_send_105 : decode cX6_send 105 = .ok (.iload_n 1, 1) := by decide +kernel
theorem dX6_send_106 : decode cX6_send 106 = .ok (.iload_n 3, 1) := by decide +kernel
theorem dX6_send_107 : decode cX6_send 107 = .ok (.iload 4, 2) := by decide +kernel
theorem dX6_send_109 : decode cX6_send 109 = .ok (.invokevirtual 72, 3) := by decide +kernel
theorem dX6_send_112 : decode cX6_send 112 = .ok (.aload_n 0, 1) := by decide +kernel
theorem dX6_send_113 : decode cX6_send 113 = .ok (.iload_n 3, 1) := by decide +kernel
theorem dX6_send_114 : decode cX6_send 114 = .ok (.invokevirtual 51, 3) := by decide +kernel
theorem dX6_send_117 : decode cX6_send 117 = .ok (.return_, 1) := by decide +kernel
theorem dX6_receive_0 : decode cX6_receive 0 = .ok (.aload_n 0, 1) := by decide +kernel
theorem dX6_receive_1 : decode cX6_receive 1 = .ok (.getfield 34, 3) := by decide +kernel
theorem dX6_receive_4 : decode cX6_receive 4 = .ok (.iload_n 2, 1) := by decide +kernel
theorem dX6_receive_5 : decode cX6_receive 5 = .ok (.iaload, 1) := by decide +kernel
theorem dX6_receive_6 : decode cX6_receive 6 = .ok (.bipush 8, 2) := by decide +kernel
theorem dX6_receive_8 : decode cX6_receive 8 = .ok (.irem, 1) := by decide +kernel
theorem dX6_receive_9 : decode cX6_receive 9 = .ok (.istore_n 3, 1) := by decide +kernel
theorem dX6_receive_10 : decode cX6_receive 10 = .ok (.aload_n 0, 1) := by decide +kernel
theorem dX6_receive_11 : decode cX6_receive 11 = .ok (.getfield 34, 3) := by decide +kernel
theorem dX6_receive_14 : decode cX6_receive 14 = .ok (.iload_n 2, 1) := by decide +kernel
theorem dX6_receive_15 : decode cX6_receive 15 = .ok (.iaload, 1) := by decide +kernel
theorem dX6_receive_16 : decode cX6_receive 16 = .ok (.bipush 16, 2) := by decide +kernel
theorem dX6_receive_18 : decode cX6_receive 18 = .ok (.if_icmp .lt 23, 3) := by decide +kernel
theorem dX6_receive_21 : decode cX6_receive 21 = .ok (.aload_n 0, 1) := by decide +kernel
theorem dX6_receive_22 : decode cX6_receive 22 = .ok (.getfield 13, 3) := by decide +kernel
theorem dX6_receive_25 : decode cX6_receive 25 = .ok (.iload_n 1, 1) := by decide +kernel
theorem dX6_receive_26 : decode cX6_receive 26 = .ok (.iconst 5, 1) := by decide +kernel
theorem dX6_receive_27 : decode cX6_receive 27 = .ok (.iastore, 1) := by decide +kernel
theorem dX6_receive_28 : decode cX6_receive 28 = .ok (.aload_n 0, 1) := by decide +kernel
theorem dX6_receive_29 : decode cX6_receive 29 = .ok (.getfield 19, 3) := by decide +kernel
theorem dX6_receive_32 : decode cX6_receive 32 = .ok (.iload_n 1, 1) := by decide +kernel
theorem dX6_receive_33 : decode cX6_receive 33 = .ok (.dup2, 1) := by decide +kernel
theorem dX6_receive_34 : decode cX6_receive 34 = .ok (.iaload, 1) := by decide +kernel
theorem dX6_receive_35 : decode cX6_receive 35 = .ok (.iconst 1, 1) := by decide +kernel
theorem dX6_receive_36 : decode cX6_receive 36 = .ok (.isub, 1) := by decide +kernel
theorem dX6_receive_37 : decode cX6_receive 37 = .ok (.iastore, 1) := by decide +kernel
theorem dX6_receive_38 : decode cX6_receive 38 = .ok (.goto 50, 3) := by decide +kernel
theorem dX6_receive_41 : decode cX6_receive 41 = .ok (.aload_n 0, 1) := by decide +kernel
theorem dX6_receive_42 : decode cX6_receive 42 = .ok (.getfield 34, 3) := by decide +kernel
theorem dX6_receive_45 : decode cX6_receive 45 = .ok (.iload_n 2, 1) := by decide +kernel
theorem dX6_receive_46 : decode cX6_receive 46 = .ok (.iaload, 1) := by decide +kernel
theorem dX6_receive_47 : decode cX6_receive 47 = .ok (.ifCond .ne 23, 3) := by decide +kernel
theorem dX6_receive_50 : decode cX6_receive 50 = .ok (.aload_n 0, 1) := by decide +kernel
theorem dX6_receive_51 : decode cX6_receive 51 = .ok (.getfield 13, 3) := by decide +kernel
theorem dX6_receive_54 : decode cX6_receive 54 = .ok (.iload_n 1, 1) := by decide +kernel
theorem dX6_receive_55 : decode cX6_receive 55 = .ok (.iconst 3, 1) := by decide +kernel
theorem dX6_receive_56 : decode cX6_receive 56 = .ok (.iastore, 1) := by decide +kernel
theorem dX6_receive_57 : decode cX6_receive 57 = .ok (.aload_n 0, 1) := by decide +kernel
theorem dX6_receive_58 : decode cX6_receive 58 = .ok (.getfield 34, 3) := by decide +kernel
theorem dX6_receive_61 : decode cX6_receive 61 = .ok (.iload_n 2, 1) := by decide +kernel
theorem dX6_receive_62 : decode cX6_receive 62 = .ok (.bipush 16, 2) := by decide +kernel
theorem dX6_receive_64 : decode cX6_receive 64 = .ok (.iload_n 1, 1) := by decide +kernel
theorem dX6_receive_65 : decode cX6_receive 65 = .ok (.iadd, 1) := by decide +kernel
theorem dX6_receive_66 : decode cX6_receive 66 = .ok (.iastore, 1) := by decide +kernel
theorem dX6_receive_67 : decode cX6_receive 67 = .ok (.goto 21, 3) := by decide +kernel
theorem dX6_receive_70 : decode cX6_receive 70 = .ok (.aload_n 0, 1) := by decide +kernel
theorem dX6_receive_71 : decode cX6_receive 71 = .ok (.iload_n 2, 1) := by decide +kernel
theorem dX6_receive_72 : decode cX6_receive 72 = .ok (.iload_n 3, 1) := by decide +kernel
theorem dX6_receive_73 : decode cX6_receive 73 = .ok (.iload_n 1, 1) := by decide +kernel
theorem dX6_receive_74 : decode cX6_receive 74 = .ok (.aload_n 0, 1) := by decide +kernel
theorem dX6_receive_75 : decode cX6_receive 75 = .ok (.getfield 31, 3) := by decide +kernel
theorem dX6_receive_78 : decode cX6_receive 78 = .ok (.iload_n 3, 1) := by decide +kernel
theorem dX6_receive_79 : decode cX6_receive 79 = .ok (.iaload, 1) := by decide +kernel
theorem dX6_receive_80 : decode cX6_receive 80 = .ok (.invokevirtual 72, 3) := by decide +kernel
theorem dX6_receive_83 : decode cX6_receive 83 = .ok (.aload_n 0, 1) := by decide +kernel
theorem dX6_receive_84 : decode cX6_receive 84 = .ok (.iload_n 3, 1) := by decide +kernel
theorem dX6_receive_85 : decode cX6_receive 85 = .ok (.invokevirtual 51, 3) := by decide +kernel
theorem dX6_receive_88 : decode cX6_receive 88 = .ok (.return_, 1) := by decide +kernel
theorem dX6_value_0 : decode cX6_value 0 = .ok (.iload_n 0, 1) := by decide +kernel
theorem dX6_value_1 : decode cX6_value 1 = .ok (.iconst 4, 1) := by decide +kernel
theorem dX6_value_2 : decode cX6_value 2 = .ok (.if_icmp .ne 9, 3) := by decide +kernel
theorem dX6_value_5 : decode cX6_value 5 = .ok (.iload_n 2, 1) := by decide +kernel
theorem dX6_value_6 : decode cX6_value 6 = .ok (.iload_n 1, 1) := by decide +kernel
theorem dX6_value_7 : decode cX6_value 7 = .ok (.iadd, 1) := by decide +kernel
theorem dX6_value_8 : decode cX6_value 8 = .ok (.goto 36, 3) := by decide +kernel
theorem dX6_value_11 : decode cX6_value 11 = .ok (.iload_n 0, 1) := by decide +kernel
theorem dX6_value_12 : decode cX6_value 12 = .ok (.iconst 5, 1) := by decide +kernel
theorem dX6_value_13 : decode cX6_value 13 = .ok (.if_icmp .ne 9, 3) := by decide +kernel
theorem dX6_value_16 : decode cX6_value 16 = .ok (.iload_n 2, 1) := by decide +kernel
theorem dX6_value_17 : decode cX6_value 17 = .ok (.iload_n 1, 1) := by decide +kernel
theorem dX6_value_18 : decode cX6_value 18 = .ok (.isub, 1) := by decide +kernel
theorem dX6_value_19 : decode cX6_value 19 = .ok (.goto 25, 3) := by decide +kernel
theorem dX6_value_22 : decode cX6_value 22 = .ok (.iload_n 0, 1) := by decide +kernel
theorem dX6_value_23 : decode cX6_value 23 = .ok (.bipush 6, 2) := by decide +kernel
theorem dX6_value_25 : decode cX6_value 25 = .ok (.if_icmp .ne 9, 3) := by decide +kernel
theorem dX6_value_28 : decode cX6_value 28 = .ok (.iload_n 2, 1) := by decide +kernel
theorem dX6_value_29 : decode cX6_value 29 = .ok (.iload_n 1, 1) := by decide +kernel
theorem dX6_value_30 : decode cX6_value 30 = .ok (.imul, 1) := by decide +kernel
theorem dX6_value_31 : decode cX6_value 31 = .ok (.goto 13, 3) := by decide +kernel
theorem dX6_value_34 : decode cX6_value 34 = .ok (.iload_n 2, 1) := by decide +kernel
theorem dX6_value_35 : decode cX6_value 35 = .ok (.iload_n 1, 1) := by decide +kernel
theorem dX6_value_36 : decode cX6_value 36 = .ok (.if_icmp .le 7, 3) := by decide +kernel
theorem dX6_value_39 : decode cX6_value 39 = .ok (.iconst 1, 1) := by decide +kernel
theorem dX6_value_40 : decode cX6_value 40 = .ok (.goto 4, 3) := by decide +kernel
theorem dX6_value_43 : decode cX6_value 43 = .ok (.iconst 0, 1) := by decide +kernel
theorem dX6_value_44 : decode cX6_value 44 = .ok (.ireturn, 1) := by decide +kernel
theorem dX6_instruction_0 : decode cX6_instruction 0 = .ok (.aload_n 0, 1) := by decide +kernel
theorem dX6_instruction_1 : decode cX6_instruction 1 = .ok (.getfield 19, 3) := by decide +kernel
theorem dX6_instruction_4 : decode cX6_instruction 4 = .ok (.iload_n 1, 1) := by decide +kernel
theorem dX6_instruction_5 : decode cX6_instruction 5 = .ok (.iaload, 1) := by decide +kernel
theorem dX6_instruction_6 : decode cX6_instruction 6 = .ok (.istore_n 2, 1) := by decide +kernel
theorem dX6_instruction_7 : decode cX6_instruction 7 = .ok (.iload_n 2, 1) := by decide +kernel
theorem dX6_instruction_8 : decode cX6_instruction 8 = .ok (.aload_n 0, 1) := by decide +kernel
theorem dX6_instruction_9 : decode cX6_instruction 9 = .ok (.getfield 44, 3) := by decide +kernel
theorem dX6_instruction_12 : decode cX6_instruction 12 = .ok (.if_icmp .ge 14, 3) := by decide +kernel
theorem dX6_instruction_15 : decode cX6_instruction 15 = .ok (.aload_n 0, 1) := by decide +kernel
theorem dX6_instruction_16 : decode cX6_instruction 16 = .ok (.getfield 7, 3) := by decide +kernel
theorem dX6_instruction_19 : decode cX6_instruction 19 = .ok (.iconst 2, 1) := by decide +kernel
theorem dX6_instruction_20 : decode cX6_instruction 20 = .ok (.iload_n 2, 1) := by decide +kernel
theorem dX6_instruction_21 : decode cX6_instruction 21 = .ok (.imul, 1) := by decide +kernel
theorem dX6_instruction_22 : decode cX6_instruction 22 = .ok (.iaload, 1) := by decide +kernel
theorem dX6_instruction_23 : decode cX6_instruction 23 = .ok (.goto 4, 3) := by decide +kernel
theorem dX6_instruction_26 : decode cX6_instruction 26 = .ok (.iconst 0, 1) := by decide +kernel
theorem dX6_instruction_27 : decode cX6_instruction 27 = .ok (.istore_n 3, 1) := by decide +kernel
theorem dX6_instruction_28 : decode cX6_instruction 28 = .ok (.iload_n 2, 1) := by decide +kernel
theorem dX6_instruction_29 : decode cX6_instruction 29 = .ok (.aload_n 0, 1) := by decide +kernel
theorem dX6_instruction_30 : decode cX6_instruction 30 = .ok (.getfield 44, 3) := by decide +kernel
theorem dX6_instruction_33 : decode cX6_instruction 33 = .ok (.if_icmp .ge 16, 3) := by decide +kernel
theorem dX6_instruction_36 : decode cX6_instruction 36 = .ok (.aload_n 0, 1) := by decide +kernel
theorem dX6_instruction_37 : decode cX6_instruction 37 = .ok (.getfield 7, 3) := by decide +kernel
theorem dX6_instruction_40 : decode cX6_instruction 40 = .ok (.iconst 2, 1) := by decide +kernel
theorem dX6_instruction_41 : decode cX6_instruction 41 = .ok (.iload_n 2, 1) := by decide +kernel
theorem dX6_instruction_42 : decode cX6_instruction 42 = .ok (.imul, 1) := by decide +kernel
theorem dX6_instruction_43 : decode cX6_instruction 43 = .ok (.iconst 1, 1) := by decide +kernel
theorem dX6_instruction_44 : decode cX6_instruction 44 = .ok (.iadd, 1) := by decide +kernel
theorem dX6_instruction_45 : decode cX6_instruction 45 = .ok (.iaload, 1) := by decide +kernel
theorem dX6_instruction_46 : decode cX6_instruction 46 = .ok (.goto 4, 3) := by decide +kernel
theorem dX6_instruction_49 : decode cX6_instruction 49 = .ok (.iconst 0, 1) := by decide +kernel
theorem dX6_instruction_50 : decode cX6_instruction 50 = .ok (.istore 4, 2) := by decide +kernel
theorem dX6_instruction_52 : decode cX6_instruction 52 = .ok (.aload_n 0, 1) := by decide +kernel
theorem dX6_instruction_53 : decode cX6_instruction 53 = .ok (.getfield 22, 3) := by decide +kernel
theorem dX6_instruction_56 : decode cX6_instruction 56 = .ok (.bipush 7, 2) := by decide +kernel
theorem dX6_instruction_58 : decode cX6_instruction 58 = .ok (.iload_n 1, 1) := by decide +kernel
theorem dX6_instruction_59 : decode cX6_instruction 59 = .ok (.imul, 1) := by decide +kernel
theorem dX6_instruction_60 : decode cX6_instruction 60 = .ok (.iaload, 1) := by decide +kernel
theorem dX6_instruction_61 : decode cX6_instruction 61 = .ok (.istore 5, 2) := by decide +kernel
theorem dX6_instruction_63 : decode cX6_instruction 63 = .ok (.aload_n 0, 1) := by decide +kernel
theorem dX6_instruction_64 : decode cX6_instruction 64 = .ok (.dup, 1) := by decide +kernel
theorem dX6_instruction_65 : decode cX6_instruction 65 = .ok (.getfield 76, 3) := by decide +kernel
theorem dX6_instruction_68 : decode cX6_instruction 68 = .ok (.iconst 1, 1) := by decide +kernel
theorem dX6_instruction_69 : decode cX6_instruction 69 = .ok (.iadd, 1) := by decide +kernel
theorem dX6_instruction_70 : decode cX6_instruction 70 = .ok (.putfield 76, 3) := by decide +kernel
theorem dX6_instruction_73 : decode cX6_instruction 73 = .ok (.iload_n 3, 1) := by decide +kernel
theorem dX6_instruction_74 : decode cX6_instruction 74 = .ok (.ifCond .ne 11, 3) := by decide +kernel
theorem dX6_instruction_77 : decode cX6_instruction 77 = .ok (.aload_n 0, 1) := by decide +kernel
theorem dX6_instruction_78 : decode cX6_instruction 78 = .ok (.getfield 13, 3) := by decide +kernel
theorem dX6_instruction_81 : decode cX6_instruction 81 = .ok (.iload_n 1, 1) := by decide +kernel
theorem dX6_instruction_82 : decode cX6_instruction 82 = .ok (.iconst 5, 1) := by decide +kernel
theorem dX6_instruction_83 : decode cX6_instruction 83 = .ok (.iastore, 1) := by decide +kernel
theorem dX6_instruction_84 : decode cX6_instruction 84 = .ok (.return_, 1) := by decide +kernel
theorem dX6_instruction_85 : decode cX6_instruction 85 = .ok (.aload_n 0, 1) := by decide +kernel
theorem dX6_instruction_86 : decode cX6_instruction 86 = .ok (.getfield 19, 3) := by decide +kernel
theorem dX6_instruction_89 : decode cX6_instruction 89 = .ok (.iload_n 1, 1) := by decide +kernel
theorem dX6_instruction_90 : decode cX6_instruction 90 = .ok (.iload_n 2, 1) := by decide +kernel
theorem dX6_instruction_91 : decode cX6_instruction 91 = .ok (.iconst 1, 1) := by decide +kernel
theorem dX6_instruction_92 : decode cX6_instruction 92 = .ok (.iadd, 1) := by decide +kernel
theorem dX6_instruction_93 : decode cX6_instruction 93 = .ok (.iastore, 1) := by decide +kernel
theorem dX6_instruction_94 : decode cX6_instruction 94 = .ok (.iload_n 3, 1) := by decide +kernel
theorem dX6_instruction_95 : decode cX6_instruction 95 = .ok (.tableswitch 326 1 14 #[69, 79, 101, 125, 125, 125, 125, 176, 211, 235, 245, 255, 267, 300], 69) := by decide +kernel
theorem dX6_instruction_164 : decode cX6_instruction 164 = .ok (.aload_n 0, 1) := by decide +kernel
theorem dX6_instruction_165 : decode cX6_instruction 165 = .ok (.iload_n 1, 1) := by decide +kernel
theorem dX6_instruction_166 : decode cX6_instruction 166 = .ok (.iload 4, 2) := by decide +kernel
theorem dX6_instruction_168 : decode cX6_instruction 168 = .ok (.invokevirtual 65, 3) := by decide +kernel
theorem dX6_instruction_171 : decode cX6_instruction 171 = .ok (.goto 257, 3) := by decide +kernel
theorem dX6_instruction_174 : decode cX6_instruction 174 = .ok (.aload_n 0, 1) := by decide +kernel
theorem dX6_instruction_175 : decode cX6_instruction 175 = .ok (.iload_n 1, 1) := by decide +kernel
theorem dX6_instruction_176 : decode cX6_instruction 176 = .ok (.aload_n 0, 1) := by decide +kernel
theorem dX6_instruction_177 : decode cX6_instruction 177 = .ok (.getfield 22, 3) := by decide +kernel
theorem dX6_instruction_180 : decode cX6_instruction 180 = .ok (.bipush 7, 2) := by decide +kernel
theorem dX6_instruction_182 : decode cX6_instruction 182 = .ok (.iload_n 1, 1) := by decide +kernel
theorem dX6_instruction_183 : decode cX6_instruction 183 = .ok (.imul, 1) := by decide +kernel
theorem dX6_instruction_184 : decode cX6_instruction 184 = .ok (.iconst 3, 1) := by decide +kernel
theorem dX6_instruction_185 : decode cX6_instruction 185 = .ok (.iadd, 1) := by decide +kernel
theorem dX6_instruction_186 : decode cX6_instruction 186 = .ok (.iload 4, 2) := by decide +kernel
theorem dX6_instruction_188 : decode cX6_instruction 188 = .ok (.iadd, 1) := by decide +kernel
theorem dX6_instruction_189 : decode cX6_instruction 189 = .ok (.iaload, 1) := by decide +kernel
theorem dX6_instruction_190 : decode cX6_instruction 190 = .ok (.invokevirtual 65, 3) := by decide +kernel
theorem dX6_instruction_193 : decode cX6_instruction 193 = .ok (.goto 235, 3) := by decide +kernel
theorem dX6_instruction_196 : decode cX6_instruction 196 = .ok (.aload_n 0, 1) := by decide +kernel
theorem dX6_instruction_197 : decode cX6_instruction 197 = .ok (.getfield 22, 3) := by decide +kernel
theorem dX6_instruction_200 : decode cX6_instruction 200 = .ok (.bipush 7, 2) := by decide +kernel
theorem dX6_instruction_202 : decode cX6_instruction 202 = .ok (.iload_n 1, 1) := by decide +kernel
theorem dX6_instruction_203 : decode cX6_instruction 203 = .ok (.imul, 1) := by decide +kernel
theorem dX6_instruction_204 : decode cX6_instruction 204 = .ok (.iconst 3, 1) := by decide +kernel
theorem dX6_instruction_205 : decode cX6_instruction 205 = .ok (.iadd, 1) := by decide +kernel
theorem dX6_instruction_206 : decode cX6_instruction 206 = .ok (.iload 4, 2) := by decide +kernel
theorem dX6_instruction_208 : decode cX6_instruction 208 = .ok (.iadd, 1) := by decide +kernel
theorem dX6_instruction_209 : decode cX6_instruction 209 = .ok (.iload 5, 2) := by decide +kernel
theorem dX6_instruction_211 : decode cX6_instruction 211 = .ok (.iastore, 1) := by decide +kernel
theorem dX6_instruction_212 : decode cX6_instruction 212 = .ok (.aload_n 0, 1) := by decide +kernel
theorem dX6_instruction_213 : decode cX6_instruction 213 = .ok (.iload_n 1, 1) := by decide +kernel
theorem dX6_instruction_214 : decode cX6_instruction 214 = .ok (.invokevirtual 69, 3) := by decide +kernel
theorem dX6_instruction_217 : decode cX6_instruction 217 = .ok (.goto 211, 3) := by decide +kernel
theorem dX6_instruction_220 : decode cX6_instruction 220 = .ok (.aload_n 0, 1) := by decide +kernel
theorem dX6_instruction_221 : decode cX6_instruction 221 = .ok (.getfield 22, 3) := by decide +kernel
theorem dX6_instruction_224 : decode cX6_instruction 224 = .ok (.bipush 7, 2) := by decide +kernel
theorem dX6_instruction_226 : decode cX6_instruction 226 = .ok (.iload_n 1, 1) := by decide +kernel
theorem dX6_instruction_227 : decode cX6_instruction 227 = .ok (.imul, 1) := by decide +kernel
theorem dX6_instruction_228 : decode cX6_instruction 228 = .ok (.iload_n 3, 1) := by decide +kernel
theorem dX6_instruction_229 : decode cX6_instruction 229 = .ok (.iload 5, 2) := by decide +kernel
theorem dX6_instruction_231 : decode cX6_instruction 231 = .ok (.aload_n 0, 1) := by decide +kernel
theorem dX6_instruction_232 : decode cX6_instruction 232 = .ok (.getfield 22, 3) := by decide +kernel
theorem dX6_instruction_235 : decode cX6_instruction 235 = .ok (.bipush 7, 2) := by decide +kernel
theorem dX6_instruction_237 : decode cX6_instruction 237 = .ok (.iload_n 1, 1) := by decide +kernel
theorem dX6_instruction_238 : decode cX6_instruction 238 = .ok (.imul, 1) := by decide +kernel
theorem dX6_instruction_239 : decode cX6_instruction 239 = .ok (.iconst 1, 1) := by decide +kernel
theorem dX6_instruction_240 : decode cX6_instruction 240 = .ok (.iadd, 1) := by decide +kernel
theorem dX6_instruction_241 : decode cX6_instruction 241 = .ok (.iaload, 1) := by decide +kernel
theorem dX6_instruction_242 : decode cX6_instruction 242 = .ok (.invokestatic 79, 3) := by decide +kernel
theorem dX6_instruction_245 : decode cX6_instruction 245 = .ok (.iastore, 1) := by decide +kernel
theorem dX6_instruction_246 : decode cX6_instruction 246 = .ok (.aload_n 0, 1) := by decide +kernel
theorem dX6_instruction_247 : decode cX6_instruction 247 = .ok (.getfield 22, 3) := by decide +kernel
theorem dX6_instruction_250 : decode cX6_instruction 250 = .ok (.bipush 7, 2) := by decide +kernel
theorem dX6_instruction_252 : decode cX6_instruction 252 = .ok (.iload_n 1, 1) := by decide +kernel
theorem dX6_instruction_253 : decode cX6_instruction 253 = .ok (.imul, 1) := by decide +kernel
theorem dX6_instruction_254 : decode cX6_instruction 254 = .ok (.iconst 1, 1) := by decide +kernel
theorem dX6_instruction_255 : decode cX6_instruction 255 = .ok (.iadd, 1) := by decide +kernel
theorem dX6_instruction_256 : decode cX6_instruction 256 = .ok (.aload_n 0, 1) := by decide +kernel
theorem dX6_instruction_257 : decode cX6_instruction 257 = .ok (.getfield 22, 3) := by decide +kernel
theorem dX6_instruction_260 : decode cX6_instruction 260 = .ok (.bipush 7, 2) := by decide +kernel
theorem dX6_instruction_262 : decode cX6_instruction 262 = .ok (.iload_n 1, 1) := by decide +kernel
theorem dX6_instruction_263 : decode cX6_instruction 263 = .ok (.imul, 1) := by decide +kernel
theorem dX6_instruction_264 : decode cX6_instruction 264 = .ok (.iconst 2, 1) := by decide +kernel
theorem dX6_instruction_265 : decode cX6_instruction 265 = .ok (.iadd, 1) := by decide +kernel
theorem dX6_instruction_266 : decode cX6_instruction 266 = .ok (.iaload, 1) := by decide +kernel
theorem dX6_instruction_267 : decode cX6_instruction 267 = .ok (.iastore, 1) := by decide +kernel
theorem dX6_instruction_268 : decode cX6_instruction 268 = .ok (.goto 160, 3) := by decide +kernel
theorem dX6_instruction_271 : decode cX6_instruction 271 = .ok (.aload_n 0, 1) := by decide +kernel
theorem dX6_instruction_272 : decode cX6_instruction 272 = .ok (.getfield 19, 3) := by decide +kernel
theorem dX6_instruction_275 : decode cX6_instruction 275 = .ok (.iload_n 1, 1) := by decide +kernel
theorem dX6_instruction_276 : decode cX6_instruction 276 = .ok (.iload 4, 2) := by decide +kernel
theorem dX6_instruction_278 : decode cX6_instruction 278 = .ok (.iastore, 1) := by decide +kernel
theorem dX6_instruction_279 : decode cX6_instruction 279 = .ok (.aload_n 0, 1) := by decide +kernel
theorem dX6_instruction_280 : decode cX6_instruction 280 = .ok (.getfield 16, 3) := by decide +kernel
theorem dX6_instruction_283 : decode cX6_instruction 283 = .ok (.iload_n 1, 1) := by decide +kernel
theorem dX6_instruction_284 : decode cX6_instruction 284 = .ok (.iaload, 1) := by decide +kernel
theorem dX6_instruction_285 : decode cX6_instruction 285 = .ok (.iconst 1, 1) := by decide +kernel
theorem dX6_instruction_286 : decode cX6_instruction 286 = .ok (.if_icmp .ne 142, 3) := by decide +kernel
theorem dX6_instruction_289 : decode cX6_instruction 289 = .ok (.aload_n 0, 1) := by decide +kernel
theorem dX6_instruction_290 : decode cX6_instruction 290 = .ok (.getfield 76, 3) := by decide +kernel
theorem dX6_instruction_293 : decode cX6_instruction 293 = .ok (.bipush 8, 2) := by decide +kernel
theorem dX6_instruction_295 : decode cX6_instruction 295 = .ok (.if_icmp .lt 133, 3) := by decide +kernel
theorem dX6_instruction_298 : decode cX6_instruction 298 = .ok (.aload_n 0, 1) := by decide +kernel
theorem dX6_instruction_299 : decode cX6_instruction 299 = .ok (.iload_n 1, 1) := by decide +kernel
theorem dX6_instruction_300 : decode cX6_instruction 300 = .ok (.invokevirtual 51, 3) := by decide +kernel
theorem dX6_instruction_303 : decode cX6_instruction 303 = .ok (.goto 125, 3) := by decide +kernel
theorem dX6_instruction_306 : decode cX6_instruction 306 = .ok (.iload 5, 2) := by decide +kernel
theorem dX6_instruction_308 : decode cX6_instruction 308 = .ok (.ifCond .ne 14, 3) := by decide +kernel
theorem dX6_instruction_311 : decode cX6_instruction 311 = .ok (.aload_n 0, 1) := by decide +kernel
theorem dX6_instruction_312 : decode cX6_instruction 312 = .ok (.getfield 19, 3) := by decide +kernel
theorem dX6_instruction_315 : decode cX6_instruction 315 = .ok (.iload_n 1, 1) := by decide +kernel
theorem dX6_instruction_316 : decode cX6_instruction 316 = .ok (.iload 4, 2) := by decide +kernel
theorem dX6_instruction_318 : decode cX6_instruction 318 = .ok (.iastore, 1) := by decide +kernel
theorem dX6_instruction_319 : decode cX6_instruction 319 = .ok (.goto 109, 3) := by decide +kernel
theorem dX6_instruction_322 : decode cX6_instruction 322 = .ok (.aload_n 0, 1) := by decide +kernel
theorem dX6_instruction_323 : decode cX6_instruction 323 = .ok (.iload_n 1, 1) := by decide +kernel
theorem dX6_instruction_324 : decode cX6_instruction 324 = .ok (.invokevirtual 69, 3) := by decide +kernel
theorem dX6_instruction_327 : decode cX6_instruction 327 = .ok (.goto 101, 3) := by decide +kernel
theorem dX6_instruction_330 : decode cX6_instruction 330 = .ok (.aload_n 0, 1) := by decide +kernel
theorem dX6_instruction_331 : decode cX6_instruction 331 = .ok (.iload_n 1, 1) := by decide +kernel
theorem dX6_instruction_332 : decode cX6_instruction 332 = .ok (.iload 4, 2) := by decide +kernel
theorem dX6_instruction_334 : decode cX6_instruction 334 = .ok (.invokevirtual 82, 3) := by decide +kernel
theorem dX6_instruction_337 : decode cX6_instruction 337 = .ok (.goto 91, 3) := by decide +kernel
theorem dX6_instruction_340 : decode cX6_instruction 340 = .ok (.aload_n 0, 1) := by decide +kernel
theorem dX6_instruction_341 : decode cX6_instruction 341 = .ok (.iload_n 1, 1) := by decide +kernel
theorem dX6_instruction_342 : decode cX6_instruction 342 = .ok (.iload 4, 2) := by decide +kernel
theorem dX6_instruction_344 : decode cX6_instruction 344 = .ok (.invokevirtual 85, 3) := by decide +kernel
theorem dX6_instruction_347 : decode cX6_instruction 347 = .ok (.goto 81, 3) := by decide +kernel
theorem dX6_instruction_350 : decode cX6_instruction 350 = .ok (.aload_n 0, 1) := by decide +kernel
theorem dX6_instruction_351 : decode cX6_instruction 351 = .ok (.iload_n 1, 1) := by decide +kernel
theorem dX6_instruction_352 : decode cX6_instruction 352 = .ok (.aload_n 0, 1) := by decide +kernel
theorem dX6_instruction_353 : decode cX6_instruction 353 = .ok (.getfield 59, 3) := by decide +kernel
theorem dX6_instruction_356 : decode cX6_instruction 356 = .ok (.invokevirtual 65, 3) := by decide +kernel
theorem dX6_instruction_359 : decode cX6_instruction 359 = .ok (.goto 69, 3) := by decide +kernel
theorem dX6_instruction_362 : decode cX6_instruction 362 = .ok (.aload_n 0, 1) := by decide +kernel
theorem dX6_instruction_363 : decode cX6_instruction 363 = .ok (.iload_n 1, 1) := by decide +kernel
theorem dX6_instruction_364 : decode cX6_instruction 364 = .ok (.invokevirtual 69, 3) := by decide +kernel
theorem dX6_instruction_367 : decode cX6_instruction 367 = .ok (.aload_n 0, 1) := by decide +kernel
theorem dX6_instruction_368 : decode cX6_instruction 368 = .ok (.getfield 28, 3) := by decide +kernel
theorem dX6_instruction_371 : decode cX6_instruction 371 = .ok (.iload_n 1, 1) := by decide +kernel
theorem dX6_instruction_372 : decode cX6_instruction 372 = .ok (.iload 5, 2) := by decide +kernel
theorem dX6_instruction_374 : decode cX6_instruction 374 = .ok (.iastore, 1) := by decide +kernel
theorem dX6_instruction_375 : decode cX6_instruction 375 = .ok (.iload 5, 2) := by decide +kernel
theorem dX6_instruction_377 : decode cX6_instruction 377 = .ok (.aload_n 0, 1) := by decide +kernel
theorem dX6_instruction_378 : decode cX6_instruction 378 = .ok (.getfield 59, 3) := by decide +kernel
theorem dX6_instruction_381 : decode cX6_instruction 381 = .ok (.isub, 1) := by decide +kernel
theorem dX6_instruction_382 : decode cX6_instruction 382 = .ok (.ifCond .le 46, 3) := by decide +kernel
theorem dX6_instruction_385 : decode cX6_instruction 385 = .ok (.aload_n 0, 1) := by decide +kernel
theorem dX6_instruction_386 : decode cX6_instruction 386 = .ok (.getfield 13, 3) := by decide +kernel
theorem dX6_instruction_389 : decode cX6_instruction 389 = .ok (.iload_n 1, 1) := by decide +kernel
theorem dX6_instruction_390 : decode cX6_instruction 390 = .ok (.iconst 4, 1) := by decide +kernel
theorem dX6_instruction_391 : decode cX6_instruction 391 = .ok (.iastore, 1) := by decide +kernel
theorem dX6_instruction_392 : decode cX6_instruction 392 = .ok (.goto 36, 3) := by decide +kernel
theorem dX6_instruction_395 : decode cX6_instruction 395 = .ok (.aload_n 0, 1) := by decide +kernel
theorem dX6_instruction_396 : decode cX6_instruction 396 = .ok (.iload 4, 2) := by decide +kernel
theorem dX6_instruction_398 : decode cX6_instruction 398 = .ok (.iconst 2, 1) := by decide +kernel
theorem dX6_instruction_399 : decode cX6_instruction 399 = .ok (.irem, 1) := by decide +kernel
theorem dX6_instruction_400 : decode cX6_instruction 400 = .ok (.iload 4, 2) := by decide +kernel
theorem dX6_instruction_402 : decode cX6_instruction 402 = .ok (.iconst 2, 1) := by decide +kernel
theorem dX6_instruction_403 : decode cX6_instruction 403 = .ok (.idiv, 1) := by decide +kernel
theorem dX6_instruction_404 : decode cX6_instruction 404 = .ok (.iload 5, 2) := by decide +kernel
theorem dX6_instruction_406 : decode cX6_instruction 406 = .ok (.invokevirtual 55, 3) := by decide +kernel
theorem dX6_instruction_409 : decode cX6_instruction 409 = .ok (.istore 6, 2) := by decide +kernel
theorem dX6_instruction_411 : decode cX6_instruction 411 = .ok (.aload_n 0, 1) := by decide +kernel
theorem dX6_instruction_412 : decode cX6_instruction 412 = .ok (.iload_n 1, 1) := by decide +kernel
theorem dX6_instruction_413 : decode cX6_instruction 413 = .ok (.iload 6, 2) := by decide +kernel
theorem dX6_instruction_415 : decode cX6_instruction 415 = .ok (.invokevirtual 65, 3) := by decide +kernel
theorem dX6_instruction_418 : decode cX6_instruction 418 = .ok (.goto 10, 3) := by decide +kernel
theorem dX6_instruction_421 : decode cX6_instruction 421 = .ok (.aload_n 0, 1) := by decide +kernel
theorem dX6_instruction_422 : decode cX6_instruction 422 = .ok (.getfield 13, 3) := by decide +kernel
theorem dX6_instruction_425 : decode cX6_instruction 425 = .ok (.iload_n 1, 1) := by decide +kernel
theorem dX6_instruction_426 : decode cX6_instruction 426 = .ok (.iconst 0, 1) := by decide +kernel
theorem dX6_instruction_427 : decode cX6_instruction 427 = .ok (.iastore, 1) := by decide +kernel
theorem dX6_instruction_428 : decode cX6_instruction 428 = .ok (.return_, 1) := by decide +kernel
theorem dX6_step_0 : decode cX6_step 0 = .ok (.iconst 0, 1) := by decide +kernel
theorem dX6_step_1 : decode cX6_step 1 = .ok (.istore_n 1, 1) := by decide +kernel
theorem dX6_step_2 : decode cX6_step 2 = .ok (.iload_n 1, 1) := by decide +kernel
theorem dX6_step_3 : decode cX6_step 3 = .ok (.bipush 8, 2) := by decide +kernel
theorem dX6_step_5 : decode cX6_step 5 = .ok (.if_icmp .ge 38, 3) := by decide +kernel
theorem dX6_step_8 : decode cX6_step 8 = .ok (.aload_n 0, 1) := by decide +kernel
theorem dX6_step_9 : decode cX6_step 9 = .ok (.getfield 13, 3) := by decide +kernel
theorem dX6_step_12 : decode cX6_step 12 = .ok (.iload_n 1, 1) := by decide +kernel
theorem dX6_step_13 : decode cX6_step 13 = .ok (.iaload, 1) := by decide +kernel
theorem dX6_step_14 : decode cX6_step 14 = .ok (.iconst 4, 1) := by decide +kernel
theorem dX6_step_15 : decode cX6_step 15 = .ok (.if_icmp .ne 22, 3) := by decide +kernel
theorem dX6_step_18 : decode cX6_step 18 = .ok (.aload_n 0, 1) := by decide +kernel
theorem dX6_step_19 : decode cX6_step 19 = .ok (.getfield 28, 3) := by decide +kernel
theorem dX6_step_22 : decode cX6_step 22 = .ok (.iload_n 1, 1) := by decide +kernel
theorem dX6_step_23 : decode cX6_step 23 = .ok (.iaload, 1) := by decide +kernel
theorem dX6_step_24 : decode cX6_step 24 = .ok (.aload_n 0, 1) := by decide +kernel
theorem dX6_step_25 : decode cX6_step 25 = .ok (.getfield 59, 3) := by decide +kernel
theorem dX6_step_28 : decode cX6_step 28 = .ok (.isub, 1) := by decide +kernel
theorem dX6_step_29 : decode cX6_step 29 = .ok (.ifCond .gt 8, 3) := by decide +kernel
theorem dX6_step_32 : decode cX6_step 32 = .ok (.aload_n 0, 1) := by decide +kernel
theorem dX6_step_33 : decode cX6_step 33 = .ok (.iload_n 1, 1) := by decide +kernel
theorem dX6_step_34 : decode cX6_step 34 = .ok (.invokevirtual 51, 3) := by decide +kernel
theorem dX6_step_37 : decode cX6_step 37 = .ok (.iinc 1 1, 3) := by decide +kernel
theorem dX6_step_40 : decode cX6_step 40 = .ok (.goto (-38), 3) := by decide +kernel
theorem dX6_step_43 : decode cX6_step 43 = .ok (.aload_n 0, 1) := by decide +kernel
theorem dX6_step_44 : decode cX6_step 44 = .ok (.invokevirtual 88, 3) := by decide +kernel
theorem dX6_step_47 : decode cX6_step 47 = .ok (.istore_n 1, 1) := by decide +kernel
theorem dX6_step_48 : decode cX6_step 48 = .ok (.iload_n 1, 1) := by decide +kernel
theorem dX6_step_49 : decode cX6_step 49 = .ok (.ifCond .lt 51, 3) := by decide +kernel
theorem dX6_step_52 : decode cX6_step 52 = .ok (.aload_n 0, 1) := by decide +kernel
theorem dX6_step_53 : decode cX6_step 53 = .ok (.getfield 16, 3) := by decide +kernel
theorem dX6_step_56 : decode cX6_step 56 = .ok (.iload_n 1, 1) := by decide +kernel
theorem dX6_step_57 : decode cX6_step 57 = .ok (.iaload, 1) := by decide +kernel
theorem dX6_step_58 : decode cX6_step 58 = .ok (.iconst 1, 1) := by decide +kernel
theorem dX6_step_59 : decode cX6_step 59 = .ok (.if_icmp .ne 41, 3) := by decide +kernel
theorem dX6_step_62 : decode cX6_step 62 = .ok (.aload_n 0, 1) := by decide +kernel
theorem dX6_step_63 : decode cX6_step 63 = .ok (.iconst 0, 1) := by decide +kernel
theorem dX6_step_64 : decode cX6_step 64 = .ok (.iconst 0, 1) := by decide +kernel
theorem dX6_step_65 : decode cX6_step 65 = .ok (.invokevirtual 92, 3) := by decide +kernel
theorem dX6_step_68 : decode cX6_step 68 = .ok (.ifCond .lt 32, 3) := by decide +kernel
theorem dX6_step_71 : decode cX6_step 71 = .ok (.aload_n 0, 1) := by decide +kernel
theorem dX6_step_72 : decode cX6_step 72 = .ok (.getfield 13, 3) := by decide +kernel
theorem dX6_step_75 : decode cX6_step 75 = .ok (.iload_n 1, 1) := by decide +kernel
theorem dX6_step_76 : decode cX6_step 76 = .ok (.iconst 1, 1) := by decide +kernel
theorem dX6_step_77 : decode cX6_step 77 = .ok (.iastore, 1) := by decide +kernel
theorem dX6_step_78 : decode cX6_step 78 = .ok (.aload_n 0, 1) := by decide +kernel
theorem dX6_step_79 : decode cX6_step 79 = .ok (.dup, 1) := by decide +kernel
theorem dX6_step_80 : decode cX6_step 80 = .ok (.getfield 96, 3) := by decide +kernel
theorem dX6_step_83 : decode cX6_step 83 = .ok (.iconst 1, 1) := by decide +kernel
theorem dX6_step_84 : decode cX6_step 84 = .ok (.isub, 1) := by decide +kernel
theorem dX6_step_85 : decode cX6_step 85 = .ok (.putfield 96, 3) := by decide +kernel
theorem dX6_step_88 : decode cX6_step 88 = .ok (.aload_n 0, 1) := by decide +kernel
theorem dX6_step_89 : decode cX6_step 89 = .ok (.getfield 25, 3) := by decide +kernel
theorem dX6_step_92 : decode cX6_step 92 = .ok (.iload_n 1, 1) := by decide +kernel
theorem dX6_step_93 : decode cX6_step 93 = .ok (.aload_n 0, 1) := by decide +kernel
theorem dX6_step_94 : decode cX6_step 94 = .ok (.getfield 96, 3) := by decide +kernel
theorem dX6_step_97 : decode cX6_step 97 = .ok (.iastore, 1) := by decide +kernel
theorem dX6_step_98 : decode cX6_step 98 = .ok (.iconst (-1), 1) := by decide +kernel
theorem dX6_step_99 : decode cX6_step 99 = .ok (.istore_n 1, 1) := by decide +kernel
theorem dX6_step_100 : decode cX6_step 100 = .ok (.iload_n 1, 1) := by decide +kernel
theorem dX6_step_101 : decode cX6_step 101 = .ok (.ifCond .ge 44, 3) := by decide +kernel
theorem dX6_step_104 : decode cX6_step 104 = .ok (.aload_n 0, 1) := by decide +kernel
theorem dX6_step_105 : decode cX6_step 105 = .ok (.iconst 0, 1) := by decide +kernel
theorem dX6_step_106 : decode cX6_step 106 = .ok (.iconst 0, 1) := by decide +kernel
theorem dX6_step_107 : decode cX6_step 107 = .ok (.invokevirtual 92, 3) := by decide +kernel
theorem dX6_step_110 : decode cX6_step 110 = .ok (.ifCond .lt 12, 3) := by decide +kernel
theorem dX6_step_113 : decode cX6_step 113 = .ok (.aload_n 0, 1) := by decide +kernel
theorem dX6_step_114 : decode cX6_step 114 = .ok (.iconst 0, 1) := by decide +kernel
theorem dX6_step_115 : decode cX6_step 115 = .ok (.iconst 0, 1) := by decide +kernel
theorem dX6_step_116 : decode cX6_step 116 = .ok (.invokevirtual 92, 3) := by decide +kernel
theorem dX6_step_119 : decode cX6_step 119 = .ok (.goto 9, 3) := by decide +kernel
theorem dX6_step_122 : decode cX6_step 122 = .ok (.aload_n 0, 1) := by decide +kernel
theorem dX6_step_123 : decode cX6_step 123 = .ok (.iconst 1, 1) := by decide +kernel
theorem dX6_step_124 : decode cX6_step 124 = .ok (.iconst 0, 1) := by decide +kernel
theorem dX6_step_125 : decode cX6_step 125 = .ok (.invokevirtual 92, 3) := by decide +kernel
theorem dX6_step_128 : decode cX6_step 128 = .ok (.istore_n 1, 1) := by decide +kernel
theorem dX6_step_129 : decode cX6_step 129 = .ok (.aload_n 0, 1) := by decide +kernel
theorem dX6_step_130 : decode cX6_step 130 = .ok (.iconst 0, 1) := by decide +kernel
theorem dX6_step_131 : decode cX6_step 131 = .ok (.putfield 76, 3) := by decide +kernel
theorem dX6_step_134 : decode cX6_step 134 = .ok (.iload_n 1, 1) := by decide +kernel
theorem dX6_step_135 : decode cX6_step 135 = .ok (.ifCond .lt 10, 3) := by decide +kernel
theorem dX6_step_138 : decode cX6_step 138 = .ok (.aload_n 0, 1) := by decide +kernel
theorem dX6_step_139 : decode cX6_step 139 = .ok (.getfield 13, 3) := by decide +kernel
theorem dX6_step_142 : decode cX6_step 142 = .ok (.iload_n 1, 1) := by decide +kernel
theorem dX6_step_143 : decode cX6_step 143 = .ok (.iconst 2, 1) := by decide +kernel
theorem dX6_step_144 : decode cX6_step 144 = .ok (.iastore, 1) := by decide +kernel
theorem dX6_step_145 : decode cX6_step 145 = .ok (.iload_n 1, 1) := by decide +kernel
theorem dX6_step_146 : decode cX6_step 146 = .ok (.ifCond .lt 8, 3) := by decide +kernel
theorem dX6_step_149 : decode cX6_step 149 = .ok (.aload_n 0, 1) := by decide +kernel
theorem dX6_step_150 : decode cX6_step 150 = .ok (.iload_n 1, 1) := by decide +kernel
theorem dX6_step_151 : decode cX6_step 151 = .ok (.invokevirtual 99, 3) := by decide +kernel
theorem dX6_step_154 : decode cX6_step 154 = .ok (.aload_n 0, 1) := by decide +kernel
theorem dX6_step_155 : decode cX6_step 155 = .ok (.dup, 1) := by decide +kernel
theorem dX6_step_156 : decode cX6_step 156 = .ok (.getfield 59, 3) := by decide +kernel
theorem dX6_step_159 : decode cX6_step 159 = .ok (.iconst 1, 1) := by decide +kernel
theorem dX6_step_160 : decode cX6_step 160 = .ok (.iadd, 1) := by decide +kernel
theorem dX6_step_161 : decode cX6_step 161 = .ok (.putfield 59, 3) := by decide +kernel
theorem dX6_step_164 : decode cX6_step 164 = .ok (.iload_n 1, 1) := by decide +kernel
theorem dX6_step_165 : decode cX6_step 165 = .ok (.ifCond .ge 7, 3) := by decide +kernel
theorem dX6_step_168 : decode cX6_step 168 = .ok (.iconst 1, 1) := by decide +kernel
theorem dX6_step_169 : decode cX6_step 169 = .ok (.goto 4, 3) := by decide +kernel
theorem dX6_step_172 : decode cX6_step 172 = .ok (.iconst 0, 1) := by decide +kernel
theorem dX6_step_173 : decode cX6_step 173 = .ok (.ireturn, 1) := by decide +kernel
theorem dX6_run_0 : decode cX6_run 0 = .ok (.iload_n 1, 1) := by decide +kernel
theorem dX6_run_1 : decode cX6_run 1 = .ok (.iconst 0, 1) := by decide +kernel
theorem dX6_run_2 : decode cX6_run 2 = .ok (.sipush 400, 3) := by decide +kernel
theorem dX6_run_5 : decode cX6_run 5 = .ok (.invokestatic 40, 3) := by decide +kernel
theorem dX6_run_8 : decode cX6_run 8 = .ok (.ifCond .ne 5, 3) := by decide +kernel
theorem dX6_run_11 : decode cX6_run 11 = .ok (.iconst (-1), 1) := by decide +kernel
theorem dX6_run_12 : decode cX6_run 12 = .ok (.ireturn, 1) := by decide +kernel
theorem dX6_run_13 : decode cX6_run 13 = .ok (.iconst 0, 1) := by decide +kernel
theorem dX6_run_14 : decode cX6_run 14 = .ok (.istore_n 2, 1) := by decide +kernel
theorem dX6_run_15 : decode cX6_run 15 = .ok (.iconst 0, 1) := by decide +kernel
theorem dX6_run_16 : decode cX6_run 16 = .ok (.istore_n 3, 1) := by decide +kernel
theorem dX6_run_17 : decode cX6_run 17 = .ok (.iload_n 3, 1) := by decide +kernel
theorem dX6_run_18 : decode cX6_run 18 = .ok (.iload_n 1, 1) := by decide +kernel
theorem dX6_run_19 : decode cX6_run 19 = .ok (.if_icmp .ge 19, 3) := by decide +kernel
theorem dX6_run_22 : decode cX6_run 22 = .ok (.aload_n 0, 1) := by decide +kernel
theorem dX6_run_23 : decode cX6_run 23 = .ok (.invokevirtual 102, 3) := by decide +kernel
theorem dX6_run_26 : decode cX6_run 26 = .ok (.ifCond .eq 6, 3) := by decide +kernel
theorem dX6_run_29 : decode cX6_run 29 = .ok (.iinc 2 1, 3) := by decide +kernel
theorem dX6_run_32 : decode cX6_run 32 = .ok (.iinc 3 1, 3) := by decide +kernel
theorem dX6_run_35 : decode cX6_run 35 = .ok (.goto (-18), 3) := by decide +kernel
theorem dX6_run_38 : decode cX6_run 38 = .ok (.iload_n 2, 1) := by decide +kernel
theorem dX6_run_39 : decode cX6_run 39 = .ok (.ireturn, 1) := by decide +kernel
theorem dX6_clock_0 : decode cX6_clock 0 = .ok (.aload_n 0, 1) := by decide +kernel
theorem dX6_clock_1 : decode cX6_clock 1 = .ok (.getfield 59, 3) := by decide +kernel
theorem dX6_clock_4 : decode cX6_clock 4 = .ok (.ireturn, 1) := by decide +kernel
theorem dX6_running_0 : decode cX6_running 0 = .ok (.aload_n 0, 1) := by decide +kernel
theorem dX6_running_1 : decode cX6_running 1 = .ok (.invokevirtual 88, 3) := by decide +kernel
theorem dX6_running_4 : decode cX6_running 4 = .ok (.ireturn, 1) := by decide +kernel
theorem dX6_state_0 : decode cX6_state 0 = .ok (.iload_n 1, 1) := by decide +kernel
theorem dX6_state_1 : decode cX6_state 1 = .ok (.iconst 0, 1) := by decide +kernel
theorem dX6_state_2 : decode cX6_state 2 = .ok (.bipush 7, 2) := by decide +kernel
theorem dX6_state_4 : decode cX6_state 4 = .ok (.invokestatic 40, 3) := by decide +kernel
theorem dX6_state_7 : decode cX6_state 7 = .ok (.ifCond .eq 12, 3) := by decide +kernel
theorem dX6_state_10 : decode cX6_state 10 = .ok (.aload_n 0, 1) := by decide +kernel
theorem dX6_state_11 : decode cX6_state 11 = .ok (.getfield 13, 3) := by decide +kernel
theorem dX6_state_14 : decode cX6_state 14 = .ok (.iload_n 1, 1) := by decide +kernel
theorem dX6_state_15 : decode cX6_state 15 = .ok (.iaload, 1) := by decide +kernel
theorem dX6_state_16 : decode cX6_state 16 = .ok (.goto 4, 3) := by decide +kernel
theorem dX6_state_19 : decode cX6_state 19 = .ok (.iconst (-1), 1) := by decide +kernel
theorem dX6_state_20 : decode cX6_state 20 = .ok (.ireturn, 1) := by decide +kernel
theorem dX6_look_0 : decode cX6_look 0 = .ok (.iload_n 1, 1) := by decide +kernel
theorem dX6_look_1 : decode cX6_look 1 = .ok (.iconst 0, 1) := by decide +kernel
theorem dX6_look_2 : decode cX6_look 2 = .ok (.bipush 7, 2) := by decide +kernel
theorem dX6_look_4 : decode cX6_look 4 = .ok (.invokestatic 40, 3) := by decide +kernel
theorem dX6_look_7 : decode cX6_look 7 = .ok (.ifCond .eq 22, 3) := by decide +kernel
theorem dX6_look_10 : decode cX6_look 10 = .ok (.aload_n 0, 1) := by decide +kernel
theorem dX6_look_11 : decode cX6_look 11 = .ok (.getfield 13, 3) := by decide +kernel
theorem dX6_look_14 : decode cX6_look 14 = .ok (.iload_n 1, 1) := by decide +kernel
theorem dX6_look_15 : decode cX6_look 15 = .ok (.iaload, 1) := by decide +kernel
theorem dX6_look_16 : decode cX6_look 16 = .ok (.ifCond .eq 13, 3) := by decide +kernel
theorem dX6_look_19 : decode cX6_look 19 = .ok (.iload_n 2, 1) := by decide +kernel
theorem dX6_look_20 : decode cX6_look 20 = .ok (.iconst 0, 1) := by decide +kernel
theorem dX6_look_21 : decode cX6_look 21 = .ok (.bipush 8, 2) := by decide +kernel
theorem dX6_look_23 : decode cX6_look 23 = .ok (.invokestatic 40, 3) := by decide +kernel
theorem dX6_look_26 : decode cX6_look 26 = .ok (.ifCond .ne 7, 3) := by decide +kernel
theorem dX6_look_29 : decode cX6_look 29 = .ok (.ldc2_w 106, 3) := by decide +kernel
theorem dX6_look_32 : decode cX6_look 32 = .ok (.lreturn, 1) := by decide +kernel
theorem dX6_look_33 : decode cX6_look 33 = .ok (.iload_n 2, 1) := by decide +kernel
theorem dX6_look_34 : decode cX6_look 34 = .ok (.ifCond .ne 13, 3) := by decide +kernel
theorem dX6_look_37 : decode cX6_look 37 = .ok (.aload_n 0, 1) := by decide +kernel
theorem dX6_look_38 : decode cX6_look 38 = .ok (.getfield 16, 3) := by decide +kernel
theorem dX6_look_41 : decode cX6_look 41 = .ok (.iload_n 1, 1) := by decide +kernel
theorem dX6_look_42 : decode cX6_look 42 = .ok (.iaload, 1) := by decide +kernel
theorem dX6_look_43 : decode cX6_look 43 = .ok (.i2l, 1) := by decide +kernel
theorem dX6_look_44 : decode cX6_look 44 = .ok (.goto 32, 3) := by decide +kernel
theorem dX6_look_47 : decode cX6_look 47 = .ok (.iload_n 2, 1) := by decide +kernel
theorem dX6_look_48 : decode cX6_look 48 = .ok (.iconst 1, 1) := by decide +kernel
theorem dX6_look_49 : decode cX6_look 49 = .ok (.if_icmp .ne 13, 3) := by decide +kernel
theorem dX6_look_52 : decode cX6_look 52 = .ok (.aload_n 0, 1) := by decide +kernel
theorem dX6_look_53 : decode cX6_look 53 = .ok (.getfield 19, 3) := by decide +kernel
theorem dX6_look_56 : decode cX6_look 56 = .ok (.iload_n 1, 1) := by decide +kernel
theorem dX6_look_57 : decode cX6_look 57 = .ok (.iaload, 1) := by decide +kernel
theorem dX6_look_58 : decode cX6_look 58 = .ok (.i2l, 1) := by decide +kernel
theorem dX6_look_59 : decode cX6_look 59 = .ok (.goto 17, 3) := by decide +kernel
theorem dX6_look_62 : decode cX6_look 62 = .ok (.aload_n 0, 1) := by decide +kernel
theorem dX6_look_63 : decode cX6_look 63 = .ok (.getfield 22, 3) := by decide +kernel
theorem dX6_look_66 : decode cX6_look 66 = .ok (.bipush 7, 2) := by decide +kernel
theorem dX6_look_68 : decode cX6_look 68 = .ok (.iload_n 1, 1) := by decide +kernel
theorem dX6_look_69 : decode cX6_look 69 = .ok (.imul, 1) := by decide +kernel
theorem dX6_look_70 : decode cX6_look 70 = .ok (.iload_n 2, 1) := by decide +kernel
theorem dX6_look_71 : decode cX6_look 71 = .ok (.iadd, 1) := by decide +kernel
theorem dX6_look_72 : decode cX6_look 72 = .ok (.iconst 2, 1) := by decide +kernel
theorem dX6_look_73 : decode cX6_look 73 = .ok (.isub, 1) := by decide +kernel
theorem dX6_look_74 : decode cX6_look 74 = .ok (.iaload, 1) := by decide +kernel
theorem dX6_look_75 : decode cX6_look 75 = .ok (.i2l, 1) := by decide +kernel
theorem dX6_look_76 : decode cX6_look 76 = .ok (.lreturn, 1) := by decide +kernel
theorem dX6_waiting_0 : decode cX6_waiting 0 = .ok (.iload_n 1, 1) := by decide +kernel
theorem dX6_waiting_1 : decode cX6_waiting 1 = .ok (.iconst 0, 1) := by decide +kernel
theorem dX6_waiting_2 : decode cX6_waiting 2 = .ok (.iconst 1, 1) := by decide +kernel
theorem dX6_waiting_3 : decode cX6_waiting 3 = .ok (.invokestatic 40, 3) := by decide +kernel
theorem dX6_waiting_6 : decode cX6_waiting 6 = .ok (.ifCond .eq 16, 3) := by decide +kernel
theorem dX6_waiting_9 : decode cX6_waiting 9 = .ok (.iload_n 2, 1) := by decide +kernel
theorem dX6_waiting_10 : decode cX6_waiting 10 = .ok (.ifCond .lt 12, 3) := by decide +kernel
theorem dX6_waiting_13 : decode cX6_waiting 13 = .ok (.aload_n 0, 1) := by decide +kernel
theorem dX6_waiting_14 : decode cX6_waiting 14 = .ok (.iload_n 1, 1) := by decide +kernel
theorem dX6_waiting_15 : decode cX6_waiting 15 = .ok (.iload_n 2, 1) := by decide +kernel
theorem dX6_waiting_16 : decode cX6_waiting 16 = .ok (.invokevirtual 92, 3) := by decide +kernel
theorem dX6_waiting_19 : decode cX6_waiting 19 = .ok (.goto 4, 3) := by decide +kernel
theorem dX6_waiting_22 : decode cX6_waiting 22 = .ok (.iconst (-1), 1) := by decide +kernel
theorem dX6_waiting_23 : decode cX6_waiting 23 = .ok (.ireturn, 1) := by decide +kernel
theorem dX6_channel_0 : decode cX6_channel 0 = .ok (.iload_n 1, 1) := by decide +kernel
theorem dX6_channel_1 : decode cX6_channel 1 = .ok (.iconst 0, 1) := by decide +kernel
theorem dX6_channel_2 : decode cX6_channel 2 = .ok (.iconst 3, 1) := by decide +kernel
theorem dX6_channel_3 : decode cX6_channel 3 = .ok (.invokestatic 40, 3) := by decide +kernel
theorem dX6_channel_6 : decode cX6_channel 6 = .ok (.ifCond .eq 12, 3) := by decide +kernel
theorem dX6_channel_9 : decode cX6_channel 9 = .ok (.aload_n 0, 1) := by decide +kernel
theorem dX6_channel_10 : decode cX6_channel 10 = .ok (.getfield 34, 3) := by decide +kernel
theorem dX6_channel_13 : decode cX6_channel 13 = .ok (.iload_n 1, 1) := by decide +kernel
theorem dX6_channel_14 : decode cX6_channel 14 = .ok (.iaload, 1) := by decide +kernel
theorem dX6_channel_15 : decode cX6_channel 15 = .ok (.goto 4, 3) := by decide +kernel
theorem dX6_channel_18 : decode cX6_channel 18 = .ok (.iconst (-1), 1) := by decide +kernel
theorem dX6_channel_19 : decode cX6_channel 19 = .ok (.ireturn, 1) := by decide +kernel
theorem dX6_messages_0 : decode cX6_messages 0 = .ok (.aload_n 0, 1) := by decide +kernel
theorem dX6_messages_1 : decode cX6_messages 1 = .ok (.getfield 62, 3) := by decide +kernel
theorem dX6_messages_4 : decode cX6_messages 4 = .ok (.ireturn, 1) := by decide +kernel
theorem dX6_message_0 : decode cX6_message 0 = .ok (.iload_n 1, 1) := by decide +kernel
theorem dX6_message_1 : decode cX6_message 1 = .ok (.ifCond .lt 26, 3) := by decide +kernel
theorem dX6_message_4 : decode cX6_message 4 = .ok (.iload_n 1, 1) := by decide +kernel
theorem dX6_message_5 : decode cX6_message 5 = .ok (.bipush 15, 2) := by decide +kernel
theorem dX6_message_7 : decode cX6_message 7 = .ok (.if_icmp .gt 20, 3) := by decide +kernel
theorem dX6_message_10 : decode cX6_message 10 = .ok (.iload_n 1, 1) := by decide +kernel
theorem dX6_message_11 : decode cX6_message 11 = .ok (.aload_n 0, 1) := by decide +kernel
theorem dX6_message_12 : decode cX6_message 12 = .ok (.getfield 62, 3) := by decide +kernel
theorem dX6_message_15 : decode cX6_message 15 = .ok (.if_icmp .ge 12, 3) := by decide +kernel
theorem dX6_message_18 : decode cX6_message 18 = .ok (.iload_n 2, 1) := by decide +kernel
theorem dX6_message_19 : decode cX6_message 19 = .ok (.iconst 0, 1) := by decide +kernel
theorem dX6_message_20 : decode cX6_message 20 = .ok (.iconst 4, 1) := by decide +kernel
theorem dX6_message_21 : decode cX6_message 21 = .ok (.invokestatic 40, 3) := by decide +kernel
theorem dX6_message_24 : decode cX6_message 24 = .ok (.ifCond .ne 7, 3) := by decide +kernel
theorem dX6_message_27 : decode cX6_message 27 = .ok (.ldc2_w 106, 3) := by decide +kernel
theorem dX6_message_30 : decode cX6_message 30 = .ok (.lreturn, 1) := by decide +kernel
theorem dX6_message_31 : decode cX6_message 31 = .ok (.aload_n 0, 1) := by decide +kernel
theorem dX6_message_32 : decode cX6_message 32 = .ok (.getfield 37, 3) := by decide +kernel
theorem dX6_message_35 : decode cX6_message 35 = .ok (.iconst 5, 1) := by decide +kernel
theorem dX6_message_36 : decode cX6_message 36 = .ok (.aload_n 0, 1) := by decide +kernel
theorem dX6_message_37 : decode cX6_message 37 = .ok (.getfield 62, 3) := by decide +kernel
theorem dX6_message_40 : decode cX6_message 40 = .ok (.iconst 1, 1) := by decide +kernel
theorem dX6_message_41 : decode cX6_message 41 = .ok (.isub, 1) := by decide +kernel
theorem dX6_message_42 : decode cX6_message 42 = .ok (.iload_n 1, 1) := by decide +kernel
theorem dX6_message_43 : decode cX6_message 43 = .ok (.isub, 1) := by decide +kernel
theorem dX6_message_44 : decode cX6_message 44 = .ok (.bipush 16, 2) := by decide +kernel
theorem dX6_message_46 : decode cX6_message 46 = .ok (.irem, 1) := by decide +kernel
theorem dX6_message_47 : decode cX6_message 47 = .ok (.imul, 1) := by decide +kernel
theorem dX6_message_48 : decode cX6_message 48 = .ok (.iload_n 2, 1) := by decide +kernel
theorem dX6_message_49 : decode cX6_message 49 = .ok (.iadd, 1) := by decide +kernel
theorem dX6_message_50 : decode cX6_message 50 = .ok (.iaload, 1) := by decide +kernel
theorem dX6_message_51 : decode cX6_message 51 = .ok (.i2l, 1) := by decide +kernel
theorem dX6_message_52 : decode cX6_message 52 = .ok (.lreturn, 1) := by decide +kernel
