theorem dX0_init_0 : decode cX0_init 0 = .ok (.aload_n 0, 1) := by decide +kernel
theorem dX0_init_1 : decode cX0_init 1 = .ok (.invokespecial 3, 3) := by decide +kernel
theorem dX0_init_4 : decode cX0_init 4 = .ok (.aload_n 0, 1) := by decide +kernel
theorem dX0_init_5 : decode cX0_init 5 = .ok (.bipush 60, 2) := by decide +kernel
theorem dX0_init_7 : decode cX0_init 7 = .ok (.newarray .int, 2) := by decide +kernel
theorem dX0_init_9 : decode cX0_init 9 = .ok (.putfield 9, 3) := by decide +kernel
theorem dX0_init_12 : decode cX0_init 12 = .ok (.aload_n 0, 1) := by decide +kernel
theorem dX0_init_13 : decode cX0_init 13 = .ok (.bipush 60, 2) := by decide +kernel
theorem dX0_init_15 : decode cX0_init 15 = .ok (.newarray .int, 2) := by decide +kernel
theorem dX0_init_17 : decode cX0_init 17 = .ok (.putfield 15, 3) := by decide +kernel
theorem dX0_init_20 : decode cX0_init 20 = .ok (.aload_n 0, 1) := by decide +kernel
theorem dX0_init_21 : decode cX0_init 21 = .ok (.iconst 0, 1) := by decide +kernel
theorem dX0_init_22 : decode cX0_init 22 = .ok (.putfield 18, 3) := by decide +kernel
theorem dX0_init_25 : decode cX0_init 25 = .ok (.return_, 1) := by decide +kernel
theorem dX0_begin_0 : decode cX0_begin 0 = .ok (.aload_n 0, 1) := by decide +kernel
theorem dX0_begin_1 : decode cX0_begin 1 = .ok (.iconst 0, 1) := by decide +kernel
theorem dX0_begin_2 : decode cX0_begin 2 = .ok (.iload_n 1, 1) := by decide +kernel
theorem dX0_begin_3 : decode cX0_begin 3 = .ok (.aload_n 0, 1) := by decide +kernel
theorem dX0_begin_4 : decode cX0_begin 4 = .ok (.getfield 9, 3) := by decide +kernel
theorem dX0_begin_7 : decode cX0_begin 7 = .ok (.arraylength, 1) := by decide +kernel
theorem dX0_begin_8 : decode cX0_begin 8 = .ok (.invokestatic 22, 3) := by decide +kernel
theorem dX0_begin_11 : decode cX0_begin 11 = .ok (.invokestatic 28, 3) := by decide +kernel
theorem dX0_begin_14 : decode cX0_begin 14 = .ok (.putfield 18, 3) := by decide +kernel
theorem dX0_begin_17 : decode cX0_begin 17 = .ok (.iconst 0, 1) := by decide +kernel
theorem dX0_begin_18 : decode cX0_begin 18 = .ok (.istore_n 2, 1) := by decide +kernel
theorem dX0_begin_19 : decode cX0_begin 19 = .ok (.iload_n 2, 1) := by decide +kernel
theorem dX0_begin_20 : decode cX0_begin 20 = .ok (.aload_n 0, 1) := by decide +kernel
theorem dX0_begin_21 : decode cX0_begin 21 = .ok (.getfield 18, 3) := by decide +kernel
theorem dX0_begin_24 : decode cX0_begin 24 = .ok (.if_icmp .ge 24, 3) := by decide +kernel
theorem dX0_begin_27 : decode cX0_begin 27 = .ok (.aload_n 0, 1) := by decide +kernel
theorem dX0_begin_28 : decode cX0_begin 28 = .ok (.getfield 9, 3) := by decide +kernel
theorem dX0_begin_31 : decode cX0_begin 31 = .ok (.iload_n 2, 1) := by decide +kernel
theorem dX0_begin_32 : decode cX0_begin 32 = .ok (.iload_n 2, 1) := by decide +kernel
theorem dX0_begin_33 : decode cX0_begin 33 = .ok (.iastore, 1) := by decide +kernel
theorem dX0_begin_34 : decode cX0_begin 34 = .ok (.aload_n 0, 1) := by decide +kernel
theorem dX0_begin_35 : decode cX0_begin 35 = .ok (.getfield 15, 3) := by decide +kernel
theorem dX0_begin_38 : decode cX0_begin 38 = .ok (.iload_n 2, 1) := by decide +kernel
theorem dX0_begin_39 : decode cX0_begin 39 = .ok (.bipush 7, 2) := by decide +kernel
theorem dX0_begin_41 : decode cX0_begin 41 = .ok (.iastore, 1) := by decide +kernel
theorem dX0_begin_42 : decode cX0_begin 42 = .ok (.iinc 2 1, 3) := by decide +kernel
theorem dX0_begin_45 : decode cX0_begin 45 = .ok (.goto (-26), 3) := by decide +kernel
theorem dX0_begin_48 : decode cX0_begin 48 = .ok (.return_, 1) := by decide +kernel
theorem dX0_allow_0 : decode cX0_allow 0 = .ok (.iload_n 1, 1) := by decide +kernel
theorem dX0_allow_1 : decode cX0_allow 1 = .ok (.ifCond .lt 18, 3) := by decide +kernel
theorem dX0_allow_4 : decode cX0_allow 4 = .ok (.iload_n 1, 1) := by decide +kernel
theorem dX0_allow_5 : decode cX0_allow 5 = .ok (.aload_n 0, 1) := by decide +kernel
theorem dX0_allow_6 : decode cX0_allow 6 = .ok (.getfield 18, 3) := by decide +kernel
theorem dX0_allow_9 : decode cX0_allow 9 = .ok (.if_icmp .ge 10, 3) := by decide +kernel
theorem dX0_allow_12 : decode cX0_allow 12 = .ok (.aload_n 0, 1) := by decide +kernel
theorem dX0_allow_13 : decode cX0_allow 13 = .ok (.getfield 15, 3) := by decide +kernel
theorem dX0_allow_16 : decode cX0_allow 16 = .ok (.iload_n 1, 1) := by decide +kernel
theorem dX0_allow_17 : decode cX0_allow 17 = .ok (.iload_n 2, 1) := by decide +kernel
theorem dX0_allow_18 : decode cX0_allow 18 = .ok (.iastore, 1) := by decide +kernel
theorem dX0_allow_19 : decode cX0_allow 19 = .ok (.return_, 1) := by decide +kernel
theorem dX0_first_0 : decode cX0_first 0 = .ok (.iload_n 1, 1) := by decide +kernel
theorem dX0_first_1 : decode cX0_first 1 = .ok (.ifCond .lt 20, 3) := by decide +kernel
theorem dX0_first_4 : decode cX0_first 4 = .ok (.iload_n 1, 1) := by decide +kernel
theorem dX0_first_5 : decode cX0_first 5 = .ok (.aload_n 0, 1) := by decide +kernel
theorem dX0_first_6 : decode cX0_first 6 = .ok (.getfield 18, 3) := by decide +kernel
theorem dX0_first_9 : decode cX0_first 9 = .ok (.if_icmp .ge 12, 3) := by decide +kernel
theorem dX0_first_12 : decode cX0_first 12 = .ok (.aload_n 0, 1) := by decide +kernel
theorem dX0_first_13 : decode cX0_first 13 = .ok (.getfield 9, 3) := by decide +kernel
theorem dX0_first_16 : decode cX0_first 16 = .ok (.iload_n 1, 1) := by decide +kernel
theorem dX0_first_17 : decode cX0_first 17 = .ok (.iaload, 1) := by decide +kernel
theorem dX0_first_18 : decode cX0_first 18 = .ok (.goto 4, 3) := by decide +kernel
theorem dX0_first_21 : decode cX0_first 21 = .ok (.iconst (-1), 1) := by decide +kernel
theorem dX0_first_22 : decode cX0_first 22 = .ok (.ireturn, 1) := by decide +kernel
theorem dX0_letters_0 : decode cX0_letters 0 = .ok (.iload_n 1, 1) := by decide +kernel
theorem dX0_letters_1 : decode cX0_letters 1 = .ok (.ifCond .lt 20, 3) := by decide +kernel
theorem dX0_letters_4 : decode cX0_letters 4 = .ok (.iload_n 1, 1) := by decide +kernel
theorem dX0_letters_5 : decode cX0_letters 5 = .ok (.aload_n 0, 1) := by decide +kernel
theorem dX0_letters_6 : decode cX0_letters 6 = .ok (.getfield 18, 3) := by decide +kernel
theorem dX0_letters_9 : decode cX0_letters 9 = .ok (.if_icmp .ge 12, 3) := by decide +kernel
theorem dX0_letters_12 : decode cX0_letters 12 = .ok (.aload_n 0, 1) := by decide +kernel
theorem dX0_letters_13 : decode cX0_letters 13 = .ok (.getfield 15, 3) := by decide +kernel
theorem dX0_letters_16 : decode cX0_letters 16 = .ok (.iload_n 1, 1) := by decide +kernel
theorem dX0_letters_17 : decode cX0_letters 17 = .ok (.iaload, 1) := by decide +kernel
theorem dX0_letters_18 : decode cX0_letters 18 = .ok (.goto 4, 3) := by decide +kernel
theorem dX0_letters_21 : decode cX0_letters 21 = .ok (.iconst 0, 1) := by decide +kernel
theorem dX0_letters_22 : decode cX0_letters 22 = .ok (.ireturn, 1) := by decide +kernel
theorem dX0_join_0 : decode cX0_join 0 = .ok (.iload_n 1, 1) := by decide +kernel
theorem dX0_join_1 : decode cX0_join 1 = .ok (.ifCond .lt 23, 3) := by decide +kernel
theorem dX0_join_4 : decode cX0_join 4 = .ok (.iload_n 1, 1) := by decide +kernel
theorem dX0_join_5 : decode cX0_join 5 = .ok (.aload_n 0, 1) := by decide +kernel
theorem dX0_join_6 : decode cX0_join 6 = .ok (.getfield 18, 3) := by decide +kernel
theorem dX0_join_9 : decode cX0_join 9 = .ok (.if_icmp .ge 15, 3) := by decide +kernel
theorem dX0_join_12 : decode cX0_join 12 = .ok (.iload_n 2, 1) := by decide +kernel
theorem dX0_join_13 : decode cX0_join 13 = .ok (.ifCond .lt 11, 3) := by decide +kernel
theorem dX0_join_16 : decode cX0_join 16 = .ok (.iload_n 2, 1) := by decide +kernel
theorem dX0_join_17 : decode cX0_join 17 = .ok (.aload_n 0, 1) := by decide +kernel
theorem dX0_join_18 : decode cX0_join 18 = .ok (.getfield 18, 3) := by decide +kernel
theorem dX0_join_21 : decode cX0_join 21 = .ok (.if_icmp .lt 5, 3) := by decide +kernel
theorem dX0_join_24 : decode cX0_join 24 = .ok (.iconst 0, 1) := by decide +kernel
theorem dX0_join_25 : decode cX0_join 25 = .ok (.ireturn, 1) := by decide +kernel
theorem dX0_join_26 : decode cX0_join 26 = .ok (.aload_n 0, 1) := by decide +kernel
theorem dX0_join_27 : decode cX0_join 27 = .ok (.getfield 9, 3) := by decide +kernel
theorem dX0_join_30 : decode cX0_join 30 = .ok (.iload_n 1, 1) := by decide +kernel
theorem dX0_join_31 : decode cX0_join 31 = .ok (.iaload, 1) := by decide +kernel
theorem dX0_join_32 : decode cX0_join 32 = .ok (.aload_n 0, 1) := by decide +kernel
theorem dX0_join_33 : decode cX0_join 33 = .ok (.getfield 9, 3) := by decide +kernel
theorem dX0_join_36 : decode cX0_join 36 = .ok (.iload_n 2, 1) := by decide +kernel
theorem dX0_join_37 : decode cX0_join 37 = .ok (.iaload, 1) := by decide +kernel
theorem dX0_join_38 : decode cX0_join 38 = .ok (.invokestatic 22, 3) := by decide +kernel
theorem dX0_join_41 : decode cX0_join 41 = .ok (.istore_n 3, 1) := by decide +kernel
theorem dX0_join_42 : decode cX0_join 42 = .ok (.aload_n 0, 1) := by decide +kernel
theorem dX0_join_43 : decode cX0_join 43 = .ok (.getfield 9, 3) := by decide +kernel
theorem dX0_join_46 : decode cX0_join 46 = .ok (.iload_n 1, 1) := by decide +kernel
theorem dX0_join_47 : decode cX0_join 47 = .ok (.iaload, 1) := by decide +kernel
theorem dX0_join_48 : decode cX0_join 48 = .ok (.aload_n 0, 1) := by decide +kernel
theorem dX0_join_49 : decode cX0_join 49 = .ok (.getfield 9, 3) := by decide +kernel
theorem dX0_join_52 : decode cX0_join 52 = .ok (.iload_n 2, 1) := by decide +kernel
theorem dX0_join_53 : decode cX0_join 53 = .ok (.iaload, 1) := by decide +kernel
theorem dX0_join_54 : decode cX0_join 54 = .ok (.invokestatic 28, 3) := by decide +kernel
theorem dX0_join_57 : decode cX0_join 57 = .ok (.istore 4, 2) := by decide +kernel
theorem dX0_join_59 : decode cX0_join 59 = .ok (.iload_n 3, 1) := by decide +kernel
theorem dX0_join_60 : decode cX0_join 60 = .ok (.iload 4, 2) := by decide +kernel
theorem dX0_join_62 : decode cX0_join 62 = .ok (.if_icmp .ne 5, 3) := by decide +kernel
theorem dX0_join_65 : decode cX0_join 65 = .ok (.iconst 1, 1) := by decide +kernel
theorem dX0_join_66 : decode cX0_join 66 = .ok (.ireturn, 1) := by decide +kernel
theorem dX0_join_67 : decode cX0_join 67 = .ok (.iload 4, 2) := by decide +kernel
theorem dX0_join_69 : decode cX0_join 69 = .ok (.istore 5, 2) := by decide +kernel
theorem dX0_join_71 : decode cX0_join 71 = .ok (.iload 5, 2) := by decide +kernel
theorem dX0_join_73 : decode cX0_join 73 = .ok (.aload_n 0, 1) := by decide +kernel
theorem dX0_join_74 : decode cX0_join 74 = .ok (.getfield 18, 3) := by decide +kernel
theorem dX0_join_77 : decode cX0_join 77 = .ok (.if_icmp .ge 29, 3) := by decide +kernel
theorem dX0_join_80 : decode cX0_join 80 = .ok (.aload_n 0, 1) := by decide +kernel
theorem dX0_join_81 : decode cX0_join 81 = .ok (.getfield 9, 3) := by decide +kernel
theorem dX0_join_84 : decode cX0_join 84 = .ok (.iload 5, 2) := by decide +kernel
theorem dX0_join_86 : decode cX0_join 86 = .ok (.iaload, 1) := by decide +kernel
theorem dX0_join_87 : decode cX0_join 87 = .ok (.iload 4, 2) := by decide +kernel
theorem dX0_join_89 : decode cX0_join 89 = .ok (.if_icmp .ne 11, 3) := by decide +kernel
theorem dX0_join_92 : decode cX0_join 92 = .ok (.aload_n 0, 1) := by decide +kernel
theorem dX0_join_93 : decode cX0_join 93 = .ok (.getfield 9, 3) := by decide +kernel
theorem dX0_join_96 : decode cX0_join 96 = .ok (.iload 5, 2) := by decide +kernel
theorem dX0_join_98 : decode cX0_join 98 = .ok (.iload_n 3, 1) := by decide +kernel
theorem dX0_join_99 : decode cX0_join 99 = .ok (.iastore, 1) := by decide +kernel
theorem dX0_join_100 : decode cX0_join 100 = .ok (.iinc 5 1, 3) := by decide +kernel
theorem dX0_join_103 : decode cX0_join 103 = .ok (.goto (-32), 3) := by decide +kernel
theorem dX0_join_106 : decode cX0_join 106 = .ok (.aload_n 0, 1) := by decide +kernel
theorem dX0_join_107 : decode cX0_join 107 = .ok (.getfield 15, 3) := by decide +kernel
theorem dX0_join_110 : decode cX0_join 110 = .ok (.iload_n 3, 1) := by decide +kernel
theorem dX0_join_111 : decode cX0_join 111 = .ok (.dup2, 1) := by decide +kernel
theorem dX0_join_112 : decode cX0_join 112 = .ok (.iaload, 1) := by decide +kernel
theorem dX0_join_113 : decode cX0_join 113 = .ok (.aload_n 0, 1) := by decide +kernel
theorem dX0_join_114 : decode cX0_join 114 = .ok (.getfield 15, 3) := by decide +kernel
theorem dX0_join_117 : decode cX0_join 117 = .ok (.iload 4, 2) := by decide +kernel
theorem dX0_join_119 : decode cX0_join 119 = .ok (.iaload, 1) := by decide +kernel
theorem dX0_join_120 : decode cX0_join 120 = .ok (.iand, 1) := by decide +kernel
theorem dX0_join_121 : decode cX0_join 121 = .ok (.iastore, 1) := by decide +kernel
theorem dX0_join_122 : decode cX0_join 122 = .ok (.aload_n 0, 1) := by decide +kernel
theorem dX0_join_123 : decode cX0_join 123 = .ok (.getfield 15, 3) := by decide +kernel
theorem dX0_join_126 : decode cX0_join 126 = .ok (.iload_n 3, 1) := by decide +kernel
theorem dX0_join_127 : decode cX0_join 127 = .ok (.iaload, 1) := by decide +kernel
theorem dX0_join_128 : decode cX0_join 128 = .ok (.ifCond .eq 7, 3) := by decide +kernel
theorem dX0_join_131 : decode cX0_join 131 = .ok (.iconst 1, 1) := by decide +kernel
theorem dX0_join_132 : decode cX0_join 132 = .ok (.goto 4, 3) := by decide +kernel
theorem dX0_join_135 : decode cX0_join 135 = .ok (.iconst 0, 1) := by decide +kernel
theorem dX0_join_136 : decode cX0_join 136 = .ok (.ireturn, 1) := by decide +kernel
theorem dX0_joinApart_0 : decode cX0_joinApart 0 = .ok (.iconst 0, 1) := by decide +kernel
theorem dX0_joinApart_1 : decode cX0_joinApart 1 = .ok (.istore_n 2, 1) := by decide +kernel
theorem dX0_joinApart_2 : decode cX0_joinApart 2 = .ok (.iload_n 2, 1) := by decide +kernel
theorem dX0_joinApart_3 : decode cX0_joinApart 3 = .ok (.iload_n 1, 1) := by decide +kernel
theorem dX0_joinApart_4 : decode cX0_joinApart 4 = .ok (.iadd, 1) := by decide +kernel
theorem dX0_joinApart_5 : decode cX0_joinApart 5 = .ok (.aload_n 0, 1) := by decide +kernel
theorem dX0_joinApart_6 : decode cX0_joinApart 6 = .ok (.getfield 18, 3) := by decide +kernel
theorem dX0_joinApart_9 : decode cX0_joinApart 9 = .ok (.if_icmp .ge 18, 3) := by decide +kernel
theorem dX0_joinApart_12 : decode cX0_joinApart 12 = .ok (.aload_n 0, 1) := by decide +kernel
theorem dX0_joinApart_13 : decode cX0_joinApart 13 = .ok (.iload_n 2, 1) := by decide +kernel
theorem dX0_joinApart_14 : decode cX0_joinApart 14 = .ok (.iload_n 2, 1) := by decide +kernel
theorem dX0_joinApart_15 : decode cX0_joinApart 15 = .ok (.iload_n 1, 1) := by decide +kernel
theorem dX0_joinApart_16 : decode cX0_joinApart 16 = .ok (.iadd, 1) := by decide +kernel
theorem dX0_joinApart_17 : decode cX0_joinApart 17 = .ok (.invokevirtual 31, 3) := by decide +kernel
theorem dX0_joinApart_20 : decode cX0_joinApart 20 = .ok (.pop, 1) := by decide +kernel
theorem dX0_joinApart_21 : decode cX0_joinApart 21 = .ok (.iinc 2 1, 3) := by decide +kernel
theorem dX0_joinApart_24 : decode cX0_joinApart 24 = .ok (.goto (-22), 3) := by decide +kernel
theorem dX0_joinApart_27 : decode cX0_joinApart 27 = .ok (.return_, 1) := by decide +kernel
theorem dX0_classesAheadOf_0 : decode cX0_classesAheadOf 0 = .ok (.iconst 0, 1) := by decide +kernel
theorem dX0_classesAheadOf_1 : decode cX0_classesAheadOf 1 = .ok (.istore_n 2, 1) := by decide +kernel
theorem dX0_classesAheadOf_2 : decode cX0_classesAheadOf 2 = .ok (.iconst 0, 1) := by decide +kernel
theorem dX0_classesAheadOf_3 : decode cX0_classesAheadOf 3 = .ok (.istore_n 3, 1) := by decide +kernel
theorem dX0_classesAheadOf_4 : decode cX0_classesAheadOf 4 = .ok (.iload_n 3, 1) := by decide +kernel
theorem dX0_classesAheadOf_5 : decode cX0_classesAheadOf 5 = .ok (.iload_n 1, 1) := by decide +kernel
theorem dX0_classesAheadOf_6 : decode cX0_classesAheadOf 6 = .ok (.if_icmp .ge 30, 3) := by decide +kernel
theorem dX0_classesAheadOf_9 : decode cX0_classesAheadOf 9 = .ok (.iload_n 3, 1) := by decide +kernel
theorem dX0_classesAheadOf_10 : decode cX0_classesAheadOf 10 = .ok (.aload_n 0, 1) := by decide +kernel
theorem dX0_classesAheadOf_11 : decode cX0_classesAheadOf 11 = .ok (.getfield 18, 3) := by decide +kernel
theorem dX0_classesAheadOf_14 : decode cX0_classesAheadOf 14 = .ok (.if_icmp .ge 22, 3) := by decide +kernel
theorem dX0_classesAheadOf_17 : decode cX0_classesAheadOf 17 = .ok (.aload_n 0, 1) := by decide +kernel
theorem dX0_classesAheadOf_18 : decode cX0_classesAheadOf 18 = .ok (.getfield 9, 3) := by decide +kernel
theorem dX0_classesAheadOf_21 : decode cX0_classesAheadOf 21 = .ok (.iload_n 3, 1) := by decide +kernel
theorem dX0_classesAheadOf_22 : decode cX0_classesAheadOf 22 = .ok (.iaload, 1) := by decide +kernel
theorem dX0_classesAheadOf_23 : decode cX0_classesAheadOf 23 = .ok (.iload_n 3, 1) := by decide +kernel
theorem dX0_classesAheadOf_24 : decode cX0_classesAheadOf 24 = .ok (.if_icmp .ne 6, 3) := by decide +kernel
theorem dX0_classesAheadOf_27 : decode cX0_classesAheadOf 27 = .ok (.iinc 2 1, 3) := by decide +kernel
theorem dX0_classesAheadOf_30 : decode cX0_classesAheadOf 30 = .ok (.iinc 3 1, 3) := by decide +kernel
theorem dX0_classesAheadOf_33 : decode cX0_classesAheadOf 33 = .ok (.goto (-29), 3) := by decide +kernel
theorem dX0_classesAheadOf_36 : decode cX0_classesAheadOf 36 = .ok (.iload_n 2, 1) := by decide +kernel
theorem dX0_classesAheadOf_37 : decode cX0_classesAheadOf 37 = .ok (.ireturn, 1) := by decide +kernel
theorem dX1_init_0 : decode cX1_init 0 = .ok (.aload_n 0, 1) := by decide +kernel
theorem dX1_init_1 : decode cX1_init 1 = .ok (.invokespecial 3, 3) := by decide +kernel
theorem dX1_init_4 : decode cX1_init 4 = .ok (.aload_n 0, 1) := by decide +kernel
theorem dX1_init_5 : decode cX1_init 5 = .ok (.iconst 4, 1) := by decide +kernel
theorem dX1_init_6 : decode cX1_init 6 = .ok (.newarray .int, 2) := by decide +kernel
theorem dX1_init_8 : decode cX1_init 8 = .ok (.putfield 9, 3) := by decide +kernel
theorem dX1_init_11 : decode cX1_init 11 = .ok (.aload_n 0, 1) := by decide +kernel
theorem dX1_init_12 : decode cX1_init 12 = .ok (.iconst 4, 1) := by decide +kernel
theorem dX1_init_13 : decode cX1_init 13 = .ok (.newarray .int, 2) := by decide +kernel
theorem dX1_init_15 : decode cX1_init 15 = .ok (.putfield 15, 3) := by decide +kernel
theorem dX1_init_18 : decode cX1_init 18 = .ok (.aload_n 0, 1) := by decide +kernel
theorem dX1_init_19 : decode cX1_init 19 = .ok (.iconst 4, 1) := by decide +kernel
theorem dX1_init_20 : decode cX1_init 20 = .ok (.newarray .int, 2) := by decide +kernel
theorem dX1_init_22 : decode cX1_init 22 = .ok (.putfield 18, 3) := by decide +kernel
theorem dX1_init_25 : decode cX1_init 25 = .ok (.aload_n 0, 1) := by decide +kernel
theorem dX1_init_26 : decode cX1_init 26 = .ok (.iconst 4, 1) := by decide +kernel
theorem dX1_init_27 : decode cX1_init 27 = .ok (.newarray .int, 2) := by decide +kernel
theorem dX1_init_29 : decode cX1_init 29 = .ok (.putfield 21, 3) := by decide +kernel
theorem dX1_init_32 : decode cX1_init 32 = .ok (.aload_n 0, 1) := by decide +kernel
theorem dX1_init_33 : decode cX1_init 33 = .ok (.iconst 4, 1) := by decide +kernel
theorem dX1_init_34 : decode cX1_init 34 = .ok (.newarray .int, 2) := by decide +kernel
theorem dX1_init_36 : decode cX1_init 36 = .ok (.putfield 24, 3) := by decide +kernel
theorem dX1_init_39 : decode cX1_init 39 = .ok (.aload_n 0, 1) := by decide +kernel
theorem dX1_init_40 : decode cX1_init 40 = .ok (.iconst 4, 1) := by decide +kernel
theorem dX1_init_41 : decode cX1_init 41 = .ok (.newarray .int, 2) := by decide +kernel
theorem dX1_init_43 : decode cX1_init 43 = .ok (.putfield 27, 3) := by decide +kernel
theorem dX1_init_46 : decode cX1_init 46 = .ok (.aload_n 0, 1) := by decide +kernel
theorem dX1_init_47 : decode cX1_init 47 = .ok (.iconst 4, 1) := by decide +kernel
theorem dX1_init_48 : decode cX1_init 48 = .ok (.newarray .int, 2) := by decide +kernel
theorem dX1_init_50 : decode cX1_init 50 = .ok (.putfield 30, 3) := by decide +kernel
theorem dX1_init_53 : decode cX1_init 53 = .ok (.aload_n 0, 1) := by decide +kernel
theorem dX1_init_54 : decode cX1_init 54 = .ok (.bipush 32, 2) := by decide +kernel
theorem dX1_init_56 : decode cX1_init 56 = .ok (.newarray .int, 2) := by decide +kernel
theorem dX1_init_58 : decode cX1_init 58 = .ok (.putfield 33, 3) := by decide +kernel
theorem dX1_init_61 : decode cX1_init 61 = .ok (.aload_n 0, 1) := by decide +kernel
theorem dX1_init_62 : decode cX1_init 62 = .ok (.new 36, 3) := by decide +kernel
theorem dX1_init_65 : decode cX1_init 65 = .ok (.dup, 1) := by decide +kernel
theorem dX1_init_66 : decode cX1_init 66 = .ok (.invokespecial 38, 3) := by decide +kernel
theorem dX1_init_69 : decode cX1_init 69 = .ok (.putfield 39, 3) := by decide +kernel
theorem dX1_init_72 : decode cX1_init 72 = .ok (.aload_n 0, 1) := by decide +kernel
theorem dX1_init_73 : decode cX1_init 73 = .ok (.iconst 0, 1) := by decide +kernel
theorem dX1_init_74 : decode cX1_init 74 = .ok (.newarray .int, 2) := by decide +kernel
theorem dX1_init_76 : decode cX1_init 76 = .ok (.putfield 43, 3) := by decide +kernel
theorem dX1_init_79 : decode cX1_init 79 = .ok (.aload_n 0, 1) := by decide +kernel
theorem dX1_init_80 : decode cX1_init 80 = .ok (.iconst 0, 1) := by decide +kernel
theorem dX1_init_81 : decode cX1_init 81 = .ok (.newarray .long, 2) := by decide +kernel
theorem dX1_init_83 : decode cX1_init 83 = .ok (.putfield 46, 3) := by decide +kernel
theorem dX1_init_86 : decode cX1_init 86 = .ok (.aload_n 0, 1) := by decide +kernel
theorem dX1_init_87 : decode cX1_init 87 = .ok (.iconst 0, 1) := by decide +kernel
theorem dX1_init_88 : decode cX1_init 88 = .ok (.putfield 50, 3) := by decide +kernel
theorem dX1_init_91 : decode cX1_init 91 = .ok (.aload_n 0, 1) := by decide +kernel
theorem dX1_init_92 : decode cX1_init 92 = .ok (.lconst 0, 1) := by decide +kernel
theorem dX1_init_93 : decode cX1_init 93 = .ok (.putfield 54, 3) := by decide +kernel
theorem dX1_init_96 : decode cX1_init 96 = .ok (.aload_n 0, 1) := by decide +kernel
theorem dX1_init_97 : decode cX1_init 97 = .ok (.iconst 0, 1) := by decide +kernel
theorem dX1_init_98 : decode cX1_init 98 = .ok (.putfield 58, 3) := by decide +kernel
theorem dX1_init_101 : decode cX1_init 101 = .ok (.aload_n 0, 1) := by decide +kernel
theorem dX1_init_102 : decode cX1_init 102 = .ok (.getfield 15, 3) := by decide +kernel
theorem dX1_init_105 : decode cX1_init 105 = .ok (.iconst 4, 1) := by decide +kernel
theorem dX1_init_106 : decode cX1_init 106 = .ok (.invokestatic 62, 3) := by decide +kernel
theorem dX1_init_109 : decode cX1_init 109 = .ok (.aload_n 0, 1) := by decide +kernel
theorem dX1_init_110 : decode cX1_init 110 = .ok (.getfield 18, 3) := by decide +kernel
theorem dX1_init_113 : decode cX1_init 113 = .ok (.bipush 7, 2) := by decide +kernel
theorem dX1_init_115 : decode cX1_init 115 = .ok (.invokestatic 62, 3) := by decide +kernel
theorem dX1_init_118 : decode cX1_init 118 = .ok (.return_, 1) := by decide +kernel
theorem dX1_forget_0 : decode cX1_forget 0 = .ok (.aload_n 0, 1) := by decide +kernel
theorem dX1_forget_1 : decode cX1_forget 1 = .ok (.iconst 0, 1) := by decide +kernel
theorem dX1_forget_2 : decode cX1_forget 2 = .ok (.putfield 58, 3) := by decide +kernel
theorem dX1_forget_5 : decode cX1_forget 5 = .ok (.return_, 1) := by decide +kernel
theorem dX1_limit_0 : decode cX1_limit 0 = .ok (.iload_n 1, 1) := by decide +kernel
theorem dX1_limit_1 : decode cX1_limit 1 = .ok (.invokestatic 68, 3) := by decide +kernel
theorem dX1_limit_4 : decode cX1_limit 4 = .ok (.ifCond .eq 4, 3) := by decide +kernel
theorem dX1_limit_7 : decode cX1_limit 7 = .ok (.return_, 1) := by decide +kernel
theorem dX1_limit_8 : decode cX1_limit 8 = .ok (.aload_n 0, 1) := by decide +kernel
theorem dX1_limit_9 : decode cX1_limit 9 = .ok (.getfield 9, 3) := by decide +kernel
theorem dX1_limit_12 : decode cX1_limit 12 = .ok (.iload_n 1, 1) := by decide +kernel
theorem dX1_limit_13 : decode cX1_limit 13 = .ok (.iaload, 1) := by decide +kernel
theorem dX1_limit_14 : decode cX1_limit 14 = .ok (.iload_n 2, 1) := by decide +kernel
theorem dX1_limit_15 : decode cX1_limit 15 = .ok (.if_icmp .ne 25, 3) := by decide +kernel
theorem dX1_limit_18 : decode cX1_limit 18 = .ok (.aload_n 0, 1) := by decide +kernel
theorem dX1_limit_19 : decode cX1_limit 19 = .ok (.getfield 15, 3) := by decide +kernel
theorem dX1_limit_22 : decode cX1_limit 22 = .ok (.iload_n 1, 1) := by decide +kernel
theorem dX1_limit_23 : decode cX1_limit 23 = .ok (.iaload, 1) := by decide +kernel
theorem dX1_limit_24 : decode cX1_limit 24 = .ok (.iload_n 3, 1) := by decide +kernel
theorem dX1_limit_25 : decode cX1_limit 25 = .ok (.if_icmp .ne 15, 3) := by decide +kernel
theorem dX1_limit_28 : decode cX1_limit 28 = .ok (.aload_n 0, 1) := by decide +kernel
theorem dX1_limit_29 : decode cX1_limit 29 = .ok (.getfield 18, 3) := by decide +kernel
theorem dX1_limit_32 : decode cX1_limit 32 = .ok (.iload_n 1, 1) := by decide +kernel
theorem dX1_limit_33 : decode cX1_limit 33 = .ok (.iaload, 1) := by decide +kernel
theorem dX1_limit_34 : decode cX1_limit 34 = .ok (.iload 4, 2) := by decide +kernel
theorem dX1_limit_36 : decode cX1_limit 36 = .ok (.if_icmp .ne 4, 3) := by decide +kernel
theorem dX1_limit_39 : decode cX1_limit 39 = .ok (.return_, 1) := by decide +kernel
theorem dX1_limit_40 : decode cX1_limit 40 = .ok (.aload_n 0, 1) := by decide +kernel
theorem dX1_limit_41 : decode cX1_limit 41 = .ok (.getfield 9, 3) := by decide +kernel
theorem dX1_limit_44 : decode cX1_limit 44 = .ok (.iload_n 1, 1) := by decide +kernel
theorem dX1_limit_45 : decode cX1_limit 45 = .ok (.iload_n 2, 1) := by decide +kernel
theorem dX1_limit_46 : decode cX1_limit 46 = .ok (.iastore, 1) := by decide +kernel
theorem dX1_limit_47 : decode cX1_limit 47 = .ok (.aload_n 0, 1) := by decide +kernel
theorem dX1_limit_48 : decode cX1_limit 48 = .ok (.getfield 15, 3) := by decide +kernel
theorem dX1_limit_51 : decode cX1_limit 51 = .ok (.iload_n 1, 1) := by decide +kernel
theorem dX1_limit_52 : decode cX1_limit 52 = .ok (.iload_n 3, 1) := by decide +kernel
theorem dX1_limit_53 : decode cX1_limit 53 = .ok (.iastore, 1) := by decide +kernel
theorem dX1_limit_54 : decode cX1_limit 54 = .ok (.aload_n 0, 1) := by decide +kernel
theorem dX1_limit_55 : decode cX1_limit 55 = .ok (.getfield 18, 3) := by decide +kernel
theorem dX1_limit_58 : decode cX1_limit 58 = .ok (.iload_n 1, 1) := by decide +kernel
theorem dX1_limit_59 : decode cX1_limit 59 = .ok (.iload 4, 2) := by decide +kernel
theorem dX1_limit_61 : decode cX1_limit 61 = .ok (.iastore, 1) := by decide +kernel
theorem dX1_limit_62 : decode cX1_limit 62 = .ok (.aload_n 0, 1) := by decide +kernel
theorem dX1_limit_63 : decode cX1_limit 63 = .ok (.iconst 0, 1) := by decide +kernel
theorem dX1_limit_64 : decode cX1_limit 64 = .ok (.putfield 58, 3) := by decide +kernel
theorem dX1_limit_67 : decode cX1_limit 67 = .ok (.return_, 1) := by decide +kernel
theorem dX1_hear_0 : decode cX1_hear 0 = .ok (.iload_n 1, 1) := by decide +kernel
theorem dX1_hear_1 : decode cX1_hear 1 = .ok (.invokestatic 68, 3) := by decide +kernel
theorem dX1_hear_4 : decode cX1_hear 4 = .ok (.ifCond .eq 4, 3) := by decide +kernel
theorem dX1_hear_7 : decode cX1_hear 7 = .ok (.return_, 1) := by decide +kernel
theorem dX1_hear_8 : decode cX1_hear 8 = .ok (.aload_n 0, 1) := by decide +kernel
theorem dX1_hear_9 : decode cX1_hear 9 = .ok (.getfield 21, 3) := by decide +kernel
theorem dX1_hear_12 : decode cX1_hear 12 = .ok (.iload_n 1, 1) := by decide +kernel
theorem dX1_hear_13 : decode cX1_hear 13 = .ok (.iload_n 2, 1) := by decide +kernel
theorem dX1_hear_14 : decode cX1_hear 14 = .ok (.iastore, 1) := by decide +kernel
theorem dX1_hear_15 : decode cX1_hear 15 = .ok (.aload_n 0, 1) := by decide +kernel
theorem dX1_hear_16 : decode cX1_hear 16 = .ok (.getfield 24, 3) := by decide +kernel
theorem dX1_hear_19 : decode cX1_hear 19 = .ok (.iload_n 1, 1) := by decide +kernel
theorem dX1_hear_20 : decode cX1_hear 20 = .ok (.iload_n 3, 1) := by decide +kernel
theorem dX1_hear_21 : decode cX1_hear 21 = .ok (.iastore, 1) := by decide +kernel
theorem dX1_hear_22 : decode cX1_hear 22 = .ok (.return_, 1) := by decide +kernel
theorem dX1_survey_0 : decode cX1_survey 0 = .ok (.aload_n 0, 1) := by decide +kernel
theorem dX1_survey_1 : decode cX1_survey 1 = .ok (.getfield 58, 3) := by decide +kernel
theorem dX1_survey_4 : decode cX1_survey 4 = .ok (.ifCond .eq 4, 3) := by decide +kernel
theorem dX1_survey_7 : decode cX1_survey 7 = .ok (.return_, 1) := by decide +kernel
theorem dX1_survey_8 : decode cX1_survey 8 = .ok (.aload_n 0, 1) := by decide +kernel
theorem dX1_survey_9 : decode cX1_survey 9 = .ok (.iconst 1, 1) := by decide +kernel
theorem dX1_survey_10 : decode cX1_survey 10 = .ok (.putfield 58, 3) := by decide +kernel
theorem dX1_survey_13 : decode cX1_survey 13 = .ok (.aload_n 0, 1) := by decide +kernel
theorem dX1_survey_14 : decode cX1_survey 14 = .ok (.iconst 0, 1) := by decide +kernel
theorem dX1_survey_15 : decode cX1_survey 15 = .ok (.putfield 50, 3) := by decide +kernel
theorem dX1_survey_18 : decode cX1_survey 18 = .ok (.aload_n 0, 1) := by decide +kernel
theorem dX1_survey_19 : decode cX1_survey 19 = .ok (.lconst 0, 1) := by decide +kernel
theorem dX1_survey_20 : decode cX1_survey 20 = .ok (.putfield 54, 3) := by decide +kernel
theorem dX1_survey_23 : decode cX1_survey 23 = .ok (.aload_n 0, 1) := by decide +kernel
theorem dX1_survey_24 : decode cX1_survey 24 = .ok (.getfield 43, 3) := by decide +kernel
theorem dX1_survey_27 : decode cX1_survey 27 = .ok (.arraylength, 1) := by decide +kernel
theorem dX1_survey_28 : decode cX1_survey 28 = .ok (.sipush 6561, 3) := by decide +kernel
theorem dX1_survey_31 : decode cX1_survey 31 = .ok (.if_icmp .lt 14, 3) := by decide +kernel
theorem dX1_survey_34 : decode cX1_survey 34 = .ok (.aload_n 0, 1) := by decide +kernel
theorem dX1_survey_35 : decode cX1_survey 35 = .ok (.getfield 46, 3) := by decide +kernel
theorem dX1_survey_38 : decode cX1_survey 38 = .ok (.arraylength, 1) := by decide +kernel
theorem dX1_survey_39 : decode cX1_survey 39 = .ok (.sipush 6561, 3) := by decide +kernel
theorem dX1_survey_42 : decode cX1_survey 42 = .ok (.if_icmp .ge 21, 3) := by decide +kernel
theorem dX1_survey_45 : decode cX1_survey 45 = .ok (.aload_n 0, 1) := by decide +kernel
theorem dX1_survey_46 : decode cX1_survey 46 = .ok (.sipush 6561, 3) := by decide +kernel
theorem dX1_survey_49 : decode cX1_survey 49 = .ok (.newarray .int, 2) := by decide +kernel
theorem dX1_survey_51 : decode cX1_survey 51 = .ok (.putfield 43, 3) := by decide +kernel
theorem dX1_survey_54 : decode cX1_survey 54 = .ok (.aload_n 0, 1) := by decide +kernel
theorem dX1_survey_55 : decode cX1_survey 55 = .ok (.sipush 6561, 3) := by decide +kernel
theorem dX1_survey_58 : decode cX1_survey 58 = .ok (.newarray .long, 2) := by decide +kernel
theorem dX1_survey_60 : decode cX1_survey 60 = .ok (.putfield 46, 3) := by decide +kernel
theorem dX1_survey_63 : decode cX1_survey 63 = .ok (.aload_n 0, 1) := by decide +kernel
theorem dX1_survey_64 : decode cX1_survey 64 = .ok (.getfield 33, 3) := by decide +kernel
theorem dX1_survey_67 : decode cX1_survey 67 = .ok (.bipush (-2), 2) := by decide +kernel
theorem dX1_survey_69 : decode cX1_survey 69 = .ok (.invokestatic 62, 3) := by decide +kernel
theorem dX1_survey_72 : decode cX1_survey 72 = .ok (.iconst 0, 1) := by decide +kernel
theorem dX1_survey_73 : decode cX1_survey 73 = .ok (.istore_n 2, 1) := by decide +kernel
theorem dX1_survey_74 : decode cX1_survey 74 = .ok (.iload_n 2, 1) := by decide +kernel
theorem dX1_survey_75 : decode cX1_survey 75 = .ok (.iconst 4, 1) := by decide +kernel
theorem dX1_survey_76 : decode cX1_survey 76 = .ok (.if_icmp .ge 47, 3) := by decide +kernel
theorem dX1_survey_79 : decode cX1_survey 79 = .ok (.aload_n 1, 1) := by decide +kernel
theorem dX1_survey_80 : decode cX1_survey 80 = .ok (.iload_n 2, 1) := by decide +kernel
theorem dX1_survey_81 : decode cX1_survey 81 = .ok (.invokevirtual 72, 3) := by decide +kernel
theorem dX1_survey_84 : decode cX1_survey 84 = .ok (.istore_n 3, 1) := by decide +kernel
theorem dX1_survey_85 : decode cX1_survey 85 = .ok (.aload_n 0, 1) := by decide +kernel
theorem dX1_survey_86 : decode cX1_survey 86 = .ok (.getfield 27, 3) := by decide +kernel
theorem dX1_survey_89 : decode cX1_survey 89 = .ok (.iload_n 2, 1) := by decide +kernel
theorem dX1_survey_90 : decode cX1_survey 90 = .ok (.aload_n 0, 1) := by decide +kernel
theorem dX1_survey_91 : decode cX1_survey 91 = .ok (.getfield 9, 3) := by decide +kernel
theorem dX1_survey_94 : decode cX1_survey 94 = .ok (.iload_n 2, 1) := by decide +kernel
theorem dX1_survey_95 : decode cX1_survey 95 = .ok (.iaload, 1) := by decide +kernel
theorem dX1_survey_96 : decode cX1_survey 96 = .ok (.iastore, 1) := by decide +kernel
theorem dX1_survey_97 : decode cX1_survey 97 = .ok (.aload_n 0, 1) := by decide +kernel
theorem dX1_survey_98 : decode cX1_survey 98 = .ok (.getfield 30, 3) := by decide +kernel
theorem dX1_survey_101 : decode cX1_survey 101 = .ok (.iload_n 2, 1) := by decide +kernel
theorem dX1_survey_102 : decode cX1_survey 102 = .ok (.iload_n 3, 1) := by decide +kernel
theorem dX1_survey_103 : decode cX1_survey 103 = .ok (.ifCond .eq 12, 3) := by decide +kernel
theorem dX1_survey_106 : decode cX1_survey 106 = .ok (.aload_n 0, 1) := by decide +kernel
theorem dX1_survey_107 : decode cX1_survey 107 = .ok (.getfield 15, 3) := by decide +kernel
theorem dX1_survey_110 : decode cX1_survey 110 = .ok (.iload_n 2, 1) := by decide +kernel
theorem dX1_survey_111 : decode cX1_survey 111 = .ok (.iaload, 1) := by decide +kernel
theorem dX1_survey_112 : decode cX1_survey 112 = .ok (.goto 4, 3) := by decide +kernel
theorem dX1_survey_115 : decode cX1_survey 115 = .ok (.iconst 0, 1) := by decide +kernel
theorem dX1_survey_116 : decode cX1_survey 116 = .ok (.iastore, 1) := by decide +kernel
theorem dX1_survey_117 : decode cX1_survey 117 = .ok (.iinc 2 1, 3) := by decide +kernel
theorem dX1_survey_120 : decode cX1_survey 120 = .ok (.goto (-46), 3) := by decide +kernel
theorem dX1_survey_123 : decode cX1_survey 123 = .ok (.aload_n 0, 1) := by decide +kernel
theorem dX1_survey_124 : decode cX1_survey 124 = .ok (.getfield 27, 3) := by decide +kernel
theorem dX1_survey_127 : decode cX1_survey 127 = .ok (.iconst 0, 1) := by decide +kernel
theorem dX1_survey_128 : decode cX1_survey 128 = .ok (.iaload, 1) := by decide +kernel
theorem dX1_survey_129 : decode cX1_survey 129 = .ok (.aload_n 0, 1) := by decide +kernel
theorem dX1_survey_130 : decode cX1_survey 130 = .ok (.getfield 27, 3) := by decide +kernel
theorem dX1_survey_133 : decode cX1_survey 133 = .ok (.iconst 1, 1) := by decide +kernel
theorem dX1_survey_134 : decode cX1_survey 134 = .ok (.iaload, 1) := by decide +kernel
theorem dX1_survey_135 : decode cX1_survey 135 = .ok (.iadd, 1) := by decide +kernel
theorem dX1_survey_136 : decode cX1_survey 136 = .ok (.aload_n 0, 1) := by decide +kernel
theorem dX1_survey_137 : decode cX1_survey 137 = .ok (.getfield 27, 3) := by decide +kernel
theorem dX1_survey_140 : decode cX1_survey 140 = .ok (.iconst 2, 1) := by decide +kernel
theorem dX1_survey_141 : decode cX1_survey 141 = .ok (.iaload, 1) := by decide +kernel
theorem dX1_survey_142 : decode cX1_survey 142 = .ok (.iadd, 1) := by decide +kernel
theorem dX1_survey_143 : decode cX1_survey 143 = .ok (.aload_n 0, 1) := by decide +kernel
theorem dX1_survey_144 : decode cX1_survey 144 = .ok (.getfield 27, 3) := by decide +kernel
theorem dX1_survey_147 : decode cX1_survey 147 = .ok (.iconst 3, 1) := by decide +kernel
theorem dX1_survey_148 : decode cX1_survey 148 = .ok (.iaload, 1) := by decide +kernel
theorem dX1_survey_149 : decode cX1_survey 149 = .ok (.iadd, 1) := by decide +kernel
theorem dX1_survey_150 : decode cX1_survey 150 = .ok (.istore_n 2, 1) := by decide +kernel
theorem dX1_survey_151 : decode cX1_survey 151 = .ok (.aload_n 0, 1) := by decide +kernel
theorem dX1_survey_152 : decode cX1_survey 152 = .ok (.getfield 30, 3) := by decide +kernel
theorem dX1_survey_155 : decode cX1_survey 155 = .ok (.iconst 0, 1) := by decide +kernel
theorem dX1_survey_156 : decode cX1_survey 156 = .ok (.iaload, 1) := by decide +kernel
theorem dX1_survey_157 : decode cX1_survey 157 = .ok (.aload_n 0, 1) := by decide +kernel
theorem dX1_survey_158 : decode cX1_survey 158 = .ok (.getfield 30, 3) := by decide +kernel
theorem dX1_survey_161 : decode cX1_survey 161 = .ok (.iconst 1, 1) := by decide +kernel
theorem dX1_survey_162 : decode cX1_survey 162 = .ok (.iaload, 1) := by decide +kernel
theorem dX1_survey_163 : decode cX1_survey 163 = .ok (.iadd, 1) := by decide +kernel
theorem dX1_survey_164 : decode cX1_survey 164 = .ok (.aload_n 0, 1) := by decide +kernel
theorem dX1_survey_165 : decode cX1_survey 165 = .ok (.getfield 30, 3) := by decide +kernel
theorem dX1_survey_168 : decode cX1_survey 168 = .ok (.iconst 2, 1) := by decide +kernel
theorem dX1_survey_169 : decode cX1_survey 169 = .ok (.iaload, 1) := by decide +kernel
theorem dX1_survey_170 : decode cX1_survey 170 = .ok (.iadd, 1) := by decide +kernel
theorem dX1_survey_171 : decode cX1_survey 171 = .ok (.aload_n 0, 1) := by decide +kernel
theorem dX1_survey_172 : decode cX1_survey 172 = .ok (.getfield 30, 3) := by decide +kernel
theorem dX1_survey_175 : decode cX1_survey 175 = .ok (.iconst 3, 1) := by decide +kernel
theorem dX1_survey_176 : decode cX1_survey 176 = .ok (.iaload, 1) := by decide +kernel
theorem dX1_survey_177 : decode cX1_survey 177 = .ok (.iadd, 1) := by decide +kernel
theorem dX1_survey_178 : decode cX1_survey 178 = .ok (.istore_n 3, 1) := by decide +kernel
theorem dX1_survey_179 : decode cX1_survey 179 = .ok (.iload_n 2, 1) := by decide +kernel
theorem dX1_survey_180 : decode cX1_survey 180 = .ok (.istore 4, 2) := by decide +kernel
theorem dX1_survey_182 : decode cX1_survey 182 = .ok (.iload 4, 2) := by decide +kernel
theorem dX1_survey_184 : decode cX1_survey 184 = .ok (.iload_n 3, 1) := by decide +kernel
theorem dX1_survey_185 : decode cX1_survey 185 = .ok (.if_icmp .gt 16, 3) := by decide +kernel
theorem dX1_survey_188 : decode cX1_survey 188 = .ok (.aload_n 0, 1) := by decide +kernel
theorem dX1_survey_189 : decode cX1_survey 189 = .ok (.aload_n 1, 1) := by decide +kernel
theorem dX1_survey_190 : decode cX1_survey 190 = .ok (.iload 4, 2) := by decide +kernel
theorem dX1_survey_192 : decode cX1_survey 192 = .ok (.invokevirtual 77, 3) := by decide +kernel
theorem dX1_survey_195 : decode cX1_survey 195 = .ok (.iinc 4 1, 3) := by decide +kernel
theorem dX1_survey_198 : decode cX1_survey 198 = .ok (.goto (-16), 3) := by decide +kernel
theorem dX1_survey_201 : decode cX1_survey 201 = .ok (.return_, 1) := by decide +kernel
theorem dX1_howMany_0 : decode cX1_howMany 0 = .ok (.aload_n 0, 1) := by decide +kernel
theorem dX1_howMany_1 : decode cX1_howMany 1 = .ok (.getfield 54, 3) := by decide +kernel
theorem dX1_howMany_4 : decode cX1_howMany 4 = .ok (.lreturn, 1) := by decide +kernel
theorem dX1_told_0 : decode cX1_told 0 = .ok (.aload_n 0, 1) := by decide +kernel
theorem dX1_told_1 : decode cX1_told 1 = .ok (.iload_n 2, 1) := by decide +kernel
theorem dX1_told_2 : decode cX1_told 2 = .ok (.i2l, 1) := by decide +kernel
theorem dX1_told_3 : decode cX1_told 3 = .ok (.invokevirtual 81, 3) := by decide +kernel
theorem dX1_told_6 : decode cX1_told 6 = .ok (.istore 5, 2) := by decide +kernel
theorem dX1_told_8 : decode cX1_told 8 = .ok (.iload_n 2, 1) := by decide +kernel
theorem dX1_told_9 : decode cX1_told 9 = .ok (.ifCond .lt 22, 3) := by decide +kernel
theorem dX1_told_12 : decode cX1_told 12 = .ok (.iload_n 2, 1) := by decide +kernel
theorem dX1_told_13 : decode cX1_told 13 = .ok (.i2l, 1) := by decide +kernel
theorem dX1_told_14 : decode cX1_told 14 = .ok (.aload_n 0, 1) := by decide +kernel
theorem dX1_told_15 : decode cX1_told 15 = .ok (.getfield 54, 3) := by decide +kernel
theorem dX1_told_18 : decode cX1_told 18 = .ok (.lcmp, 1) := by decide +kernel
theorem dX1_told_19 : decode cX1_told 19 = .ok (.ifCond .ge 12, 3) := by decide +kernel
theorem dX1_told_22 : decode cX1_told 22 = .ok (.iload 5, 2) := by decide +kernel
theorem dX1_told_24 : decode cX1_told 24 = .ok (.aload_n 0, 1) := by decide +kernel
theorem dX1_told_25 : decode cX1_told 25 = .ok (.getfield 50, 3) := by decide +kernel
theorem dX1_told_28 : decode cX1_told 28 = .ok (.if_icmp .lt 5, 3) := by decide +kernel
theorem dX1_told_31 : decode cX1_told 31 = .ok (.iconst (-1), 1) := by decide +kernel
theorem dX1_told_32 : decode cX1_told 32 = .ok (.ireturn, 1) := by decide +kernel
theorem dX1_told_33 : decode cX1_told 33 = .ok (.aload_n 0, 1) := by decide +kernel
theorem dX1_told_34 : decode cX1_told 34 = .ok (.getfield 39, 3) := by decide +kernel
theorem dX1_told_37 : decode cX1_told 37 = .ok (.aload_n 0, 1) := by decide +kernel
theorem dX1_told_38 : decode cX1_told 38 = .ok (.getfield 43, 3) := by decide +kernel
theorem dX1_told_41 : decode cX1_told 41 = .ok (.iload 5, 2) := by decide +kernel
theorem dX1_told_43 : decode cX1_told 43 = .ok (.iaload, 1) := by decide +kernel
theorem dX1_told_44 : decode cX1_told 44 = .ok (.invokevirtual 85, 3) := by decide +kernel
theorem dX1_told_47 : decode cX1_told 47 = .ok (.iload 4, 2) := by decide +kernel
theorem dX1_told_49 : decode cX1_told 49 = .ok (.iconst (-1), 1) := by decide +kernel
theorem dX1_told_50 : decode cX1_told 50 = .ok (.if_icmp .ne 12, 3) := by decide +kernel
theorem dX1_told_53 : decode cX1_told 53 = .ok (.aload_n 0, 1) := by decide +kernel
theorem dX1_told_54 : decode cX1_told 54 = .ok (.getfield 39, 3) := by decide +kernel
theorem dX1_told_57 : decode cX1_told 57 = .ok (.iload_n 3, 1) := by decide +kernel
theorem dX1_told_58 : decode cX1_told 58 = .ok (.invokevirtual 89, 3) := by decide +kernel
theorem dX1_told_61 : decode cX1_told 61 = .ok (.ireturn, 1) := by decide +kernel
theorem dX1_told_62 : decode cX1_told 62 = .ok (.iload 4, 2) := by decide +kernel
theorem dX1_told_64 : decode cX1_told 64 = .ok (.aload_n 0, 1) := by decide +kernel
theorem dX1_told_65 : decode cX1_told 65 = .ok (.getfield 39, 3) := by decide +kernel
theorem dX1_told_68 : decode cX1_told 68 = .ok (.iload_n 3, 1) := by decide +kernel
theorem dX1_told_69 : decode cX1_told 69 = .ok (.invokevirtual 89, 3) := by decide +kernel
theorem dX1_told_72 : decode cX1_told 72 = .ok (.if_icmp .ge 18, 3) := by decide +kernel
theorem dX1_told_75 : decode cX1_told 75 = .ok (.aload_n 0, 1) := by decide +kernel
theorem dX1_told_76 : decode cX1_told 76 = .ok (.getfield 39, 3) := by decide +kernel
theorem dX1_told_79 : decode cX1_told 79 = .ok (.aload_n 1, 1) := by decide +kernel
theorem dX1_told_80 : decode cX1_told 80 = .ok (.aload_n 0, 1) := by decide +kernel
theorem dX1_told_81 : decode cX1_told 81 = .ok (.getfield 18, 3) := by decide +kernel
theorem dX1_told_84 : decode cX1_told 84 = .ok (.invokevirtual 93, 3) := by decide +kernel
theorem dX1_told_87 : decode cX1_told 87 = .ok (.ifCond .ne 5, 3) := by decide +kernel
theorem dX1_told_90 : decode cX1_told 90 = .ok (.iconst (-1), 1) := by decide +kernel
theorem dX1_told_91 : decode cX1_told 91 = .ok (.ireturn, 1) := by decide +kernel
theorem dX1_told_92 : decode cX1_told 92 = .ok (.aload_n 0, 1) := by decide +kernel
theorem dX1_told_93 : decode cX1_told 93 = .ok (.getfield 39, 3) := by decide +kernel
theorem dX1_told_96 : decode cX1_told 96 = .ok (.iload_n 2, 1) := by decide +kernel
theorem dX1_told_97 : decode cX1_told 97 = .ok (.i2l, 1) := by decide +kernel
theorem dX1_told_98 : decode cX1_told 98 = .ok (.aload_n 0, 1) := by decide +kernel
theorem dX1_told_99 : decode cX1_told 99 = .ok (.getfield 46, 3) := by decide +kernel
theorem dX1_told_102 : decode cX1_told 102 = .ok (.iload 5, 2) := by decide +kernel
theorem dX1_told_104 : decode cX1_told 104 = .ok (.laload, 1) := by decide +kernel
theorem dX1_told_105 : decode cX1_told 105 = .ok (.lsub, 1) := by decide +kernel
theorem dX1_told_106 : decode cX1_told 106 = .ok (.invokevirtual 97, 3) := by decide +kernel
theorem dX1_told_109 : decode cX1_told 109 = .ok (.aload_n 0, 1) := by decide +kernel
theorem dX1_told_110 : decode cX1_told 110 = .ok (.getfield 39, 3) := by decide +kernel
theorem dX1_told_113 : decode cX1_told 113 = .ok (.iload_n 3, 1) := by decide +kernel
theorem dX1_told_114 : decode cX1_told 114 = .ok (.iload 4, 2) := by decide +kernel
theorem dX1_told_116 : decode cX1_told 116 = .ok (.invokevirtual 101, 3) := by decide +kernel
theorem dX1_told_119 : decode cX1_told 119 = .ok (.ireturn, 1) := by decide +kernel
theorem dX1_rowOf_0 : decode cX1_rowOf 0 = .ok (.iconst 0, 1) := by decide +kernel
theorem dX1_rowOf_1 : decode cX1_rowOf 1 = .ok (.istore_n 3, 1) := by decide +kernel
theorem dX1_rowOf_2 : decode cX1_rowOf 2 = .ok (.aload_n 0, 1) := by decide +kernel
theorem dX1_rowOf_3 : decode cX1_rowOf 3 = .ok (.getfield 50, 3) := by decide +kernel
theorem dX1_rowOf_6 : decode cX1_rowOf 6 = .ok (.iconst 1, 1) := by decide +kernel
theorem dX1_rowOf_7 : decode cX1_rowOf 7 = .ok (.isub, 1) := by decide +kernel
theorem dX1_rowOf_8 : decode cX1_rowOf 8 = .ok (.istore 4, 2) := by decide +kernel
theorem dX1_rowOf_10 : decode cX1_rowOf 10 = .ok (.iconst 0, 1) := by decide +kernel
theorem dX1_rowOf_11 : decode cX1_rowOf 11 = .ok (.istore 5, 2) := by decide +kernel
theorem dX1_rowOf_13 : decode cX1_rowOf 13 = .ok (.iload 5, 2) := by decide +kernel
theorem dX1_rowOf_15 : decode cX1_rowOf 15 = .ok (.bipush 32, 2) := by decide +kernel
theorem dX1_rowOf_17 : decode cX1_rowOf 17 = .ok (.if_icmp .ge 49, 3) := by decide +kernel
theorem dX1_rowOf_20 : decode cX1_rowOf 20 = .ok (.iload_n 3, 1) := by decide +kernel
theorem dX1_rowOf_21 : decode cX1_rowOf 21 = .ok (.iload 4, 2) := by decide +kernel
theorem dX1_rowOf_23 : decode cX1_rowOf 23 = .ok (.if_icmp .ge 43, 3) := by decide +kernel
theorem dX1_rowOf_26 : decode cX1_rowOf 26 = .ok (.iload_n 3, 1) := by decide +kernel
theorem dX1_rowOf_27 : decode cX1_rowOf 27 = .ok (.iload 4, 2) := by decide +kernel
theorem dX1_rowOf_29 : decode cX1_rowOf 29 = .ok (.iadd, 1) := by decide +kernel
theorem dX1_rowOf_30 : decode cX1_rowOf 30 = .ok (.iconst 1, 1) := by decide +kernel
theorem dX1_rowOf_31 : decode cX1_rowOf 31 = .ok (.iadd, 1) := by decide +kernel
theorem dX1_rowOf_32 : decode cX1_rowOf 32 = .ok (.iconst 2, 1) := by decide +kernel
theorem dX1_rowOf_33 : decode cX1_rowOf 33 = .ok (.idiv, 1) := by decide +kernel
theorem dX1_rowOf_34 : decode cX1_rowOf 34 = .ok (.istore 6, 2) := by decide +kernel
theorem dX1_rowOf_36 : decode cX1_rowOf 36 = .ok (.aload_n 0, 1) := by decide +kernel
theorem dX1_rowOf_37 : decode cX1_rowOf 37 = .ok (.getfield 46, 3) := by decide +kernel
theorem dX1_rowOf_40 : decode cX1_rowOf 40 = .ok (.iload 6, 2) := by decide +kernel
theorem dX1_rowOf_42 : decode cX1_rowOf 42 = .ok (.laload, 1) := by decide +kernel
theorem dX1_rowOf_43 : decode cX1_rowOf 43 = .ok (.lload_n 1, 1) := by decide +kernel
theorem dX1_rowOf_44 : decode cX1_rowOf 44 = .ok (.lcmp, 1) := by decide +kernel
theorem dX1_rowOf_45 : decode cX1_rowOf 45 = .ok (.ifCond .gt 9, 3) := by decide +kernel
theorem dX1_rowOf_48 : decode cX1_rowOf 48 = .ok (.iload 6, 2) := by decide +kernel
theorem dX1_rowOf_50 : decode cX1_rowOf 50 = .ok (.istore_n 3, 1) := by decide +kernel
theorem dX1_rowOf_51 : decode cX1_rowOf 51 = .ok (.goto 9, 3) := by decide +kernel
theorem dX1_rowOf_54 : decode cX1_rowOf 54 = .ok (.iload 6, 2) := by decide +kernel
theorem dX1_rowOf_56 : decode cX1_rowOf 56 = .ok (.iconst 1, 1) := by decide +kernel
theorem dX1_rowOf_57 : decode cX1_rowOf 57 = .ok (.isub, 1) := by decide +kernel
theorem dX1_rowOf_58 : decode cX1_rowOf 58 = .ok (.istore 4, 2) := by decide +kernel
theorem dX1_rowOf_60 : decode cX1_rowOf 60 = .ok (.iinc 5 1, 3) := by decide +kernel
theorem dX1_rowOf_63 : decode cX1_rowOf 63 = .ok (.goto (-50), 3) := by decide +kernel
theorem dX1_rowOf_66 : decode cX1_rowOf 66 = .ok (.iload_n 3, 1) := by decide +kernel
theorem dX1_rowOf_67 : decode cX1_rowOf 67 = .ok (.ireturn, 1) := by decide +kernel
theorem dX1_rankOfHeard_0 : decode cX1_rankOfHeard 0 = .ok (.aload_n 0, 1) := by decide +kernel
theorem dX1_rankOfHeard_1 : decode cX1_rankOfHeard 1 = .ok (.getfield 24, 3) := by decide +kernel
theorem dX1_rankOfHeard_4 : decode cX1_rankOfHeard 4 = .ok (.iconst 0, 1) := by decide +kernel
theorem dX1_rankOfHeard_5 : decode cX1_rankOfHeard 5 = .ok (.iaload, 1) := by decide +kernel
theorem dX1_rankOfHeard_6 : decode cX1_rankOfHeard 6 = .ok (.aload_n 0, 1) := by decide +kernel
theorem dX1_rankOfHeard_7 : decode cX1_rankOfHeard 7 = .ok (.getfield 24, 3) := by decide +kernel
theorem dX1_rankOfHeard_10 : decode cX1_rankOfHeard 10 = .ok (.iconst 1, 1) := by decide +kernel
theorem dX1_rankOfHeard_11 : decode cX1_rankOfHeard 11 = .ok (.iaload, 1) := by decide +kernel
theorem dX1_rankOfHeard_12 : decode cX1_rankOfHeard 12 = .ok (.aload_n 0, 1) := by decide +kernel
theorem dX1_rankOfHeard_13 : decode cX1_rankOfHeard 13 = .ok (.getfield 24, 3) := by decide +kernel
theorem dX1_rankOfHeard_16 : decode cX1_rankOfHeard 16 = .ok (.iconst 2, 1) := by decide +kernel
theorem dX1_rankOfHeard_17 : decode cX1_rankOfHeard 17 = .ok (.iaload, 1) := by decide +kernel
theorem dX1_rankOfHeard_18 : decode cX1_rankOfHeard 18 = .ok (.aload_n 0, 1) := by decide +kernel
theorem dX1_rankOfHeard_19 : decode cX1_rankOfHeard 19 = .ok (.getfield 24, 3) := by decide +kernel
theorem dX1_rankOfHeard_22 : decode cX1_rankOfHeard 22 = .ok (.iconst 3, 1) := by decide +kernel
theorem dX1_rankOfHeard_23 : decode cX1_rankOfHeard 23 = .ok (.iaload, 1) := by decide +kernel
theorem dX1_rankOfHeard_24 : decode cX1_rankOfHeard 24 = .ok (.invokestatic 105, 3) := by decide +kernel
theorem dX1_rankOfHeard_27 : decode cX1_rankOfHeard 27 = .ok (.istore_n 2, 1) := by decide +kernel
theorem dX1_rankOfHeard_28 : decode cX1_rankOfHeard 28 = .ok (.iconst 0, 1) := by decide +kernel
theorem dX1_rankOfHeard_29 : decode cX1_rankOfHeard 29 = .ok (.istore_n 3, 1) := by decide +kernel
theorem dX1_rankOfHeard_30 : decode cX1_rankOfHeard 30 = .ok (.iload_n 3, 1) := by decide +kernel
theorem dX1_rankOfHeard_31 : decode cX1_rankOfHeard 31 = .ok (.aload_n 0, 1) := by decide +kernel
theorem dX1_rankOfHeard_32 : decode cX1_rankOfHeard 32 = .ok (.getfield 50, 3) := by decide +kernel
theorem dX1_rankOfHeard_35 : decode cX1_rankOfHeard 35 = .ok (.if_icmp .ge 87, 3) := by decide +kernel
theorem dX1_rankOfHeard_38 : decode cX1_rankOfHeard 38 = .ok (.aload_n 0, 1) := by decide +kernel
theorem dX1_rankOfHeard_39 : decode cX1_rankOfHeard 39 = .ok (.getfield 43, 3) := by decide +kernel
theorem dX1_rankOfHeard_42 : decode cX1_rankOfHeard 42 = .ok (.iload_n 3, 1) := by decide +kernel
theorem dX1_rankOfHeard_43 : decode cX1_rankOfHeard 43 = .ok (.iaload, 1) := by decide +kernel
theorem dX1_rankOfHeard_44 : decode cX1_rankOfHeard 44 = .ok (.iload_n 2, 1) := by decide +kernel
theorem dX1_rankOfHeard_45 : decode cX1_rankOfHeard 45 = .ok (.if_icmp .eq 6, 3) := by decide +kernel
theorem dX1_rankOfHeard_48 : decode cX1_rankOfHeard 48 = .ok (.goto 68, 3) := by decide +kernel
theorem dX1_rankOfHeard_51 : decode cX1_rankOfHeard 51 = .ok (.aload_n 0, 1) := by decide +kernel
theorem dX1_rankOfHeard_52 : decode cX1_rankOfHeard 52 = .ok (.getfield 39, 3) := by decide +kernel
theorem dX1_rankOfHeard_55 : decode cX1_rankOfHeard 55 = .ok (.iload_n 2, 1) := by decide +kernel
theorem dX1_rankOfHeard_56 : decode cX1_rankOfHeard 56 = .ok (.invokevirtual 85, 3) := by decide +kernel
theorem dX1_rankOfHeard_59 : decode cX1_rankOfHeard 59 = .ok (.aload_n 0, 1) := by decide +kernel
theorem dX1_rankOfHeard_60 : decode cX1_rankOfHeard 60 = .ok (.getfield 39, 3) := by decide +kernel
theorem dX1_rankOfHeard_63 : decode cX1_rankOfHeard 63 = .ok (.aload_n 1, 1) := by decide +kernel
theorem dX1_rankOfHeard_64 : decode cX1_rankOfHeard 64 = .ok (.aload_n 0, 1) := by decide +kernel
theorem dX1_rankOfHeard_65 : decode cX1_rankOfHeard 65 = .ok (.getfield 18, 3) := by decide +kernel
theorem dX1_rankOfHeard_68 : decode cX1_rankOfHeard 68 = .ok (.invokevirtual 93, 3) := by decide +kernel
theorem dX1_rankOfHeard_71 : decode cX1_rankOfHeard 71 = .ok (.ifCond .ne 7, 3) := by decide +kernel
theorem dX1_rankOfHeard_74 : decode cX1_rankOfHeard 74 = .ok (.ldc2_w 109, 3) := by decide +kernel
theorem dX1_rankOfHeard_77 : decode cX1_rankOfHeard 77 = .ok (.lreturn, 1) := by decide +kernel
theorem dX1_rankOfHeard_78 : decode cX1_rankOfHeard 78 = .ok (.aload_n 0, 1) := by decide +kernel
theorem dX1_rankOfHeard_79 : decode cX1_rankOfHeard 79 = .ok (.getfield 39, 3) := by decide +kernel
theorem dX1_rankOfHeard_82 : decode cX1_rankOfHeard 82 = .ok (.aload_n 0, 1) := by decide +kernel
theorem dX1_rankOfHeard_83 : decode cX1_rankOfHeard 83 = .ok (.getfield 21, 3) := by decide +kernel
theorem dX1_rankOfHeard_86 : decode cX1_rankOfHeard 86 = .ok (.invokevirtual 111, 3) := by decide +kernel
theorem dX1_rankOfHeard_89 : decode cX1_rankOfHeard 89 = .ok (.lstore 4, 2) := by decide +kernel
theorem dX1_rankOfHeard_91 : decode cX1_rankOfHeard 91 = .ok (.lload 4, 2) := by decide +kernel
theorem dX1_rankOfHeard_93 : decode cX1_rankOfHeard 93 = .ok (.ldc2_w 109, 3) := by decide +kernel
theorem dX1_rankOfHeard_96 : decode cX1_rankOfHeard 96 = .ok (.lcmp, 1) := by decide +kernel
theorem dX1_rankOfHeard_97 : decode cX1_rankOfHeard 97 = .ok (.ifCond .ne 9, 3) := by decide +kernel
theorem dX1_rankOfHeard_100 : decode cX1_rankOfHeard 100 = .ok (.ldc2_w 109, 3) := by decide +kernel
theorem dX1_rankOfHeard_103 : decode cX1_rankOfHeard 103 = .ok (.goto 12, 3) := by decide +kernel
theorem dX1_rankOfHeard_106 : decode cX1_rankOfHeard 106 = .ok (.aload_n 0, 1) := by decide +kernel
theorem dX1_rankOfHeard_107 : decode cX1_rankOfHeard 107 = .ok (.getfield 46, 3) := by decide +kernel
theorem dX1_rankOfHeard_110 : decode cX1_rankOfHeard 110 = .ok (.iload_n 3, 1) := by decide +kernel
theorem dX1_rankOfHeard_111 : decode cX1_rankOfHeard 111 = .ok (.laload, 1) := by decide +kernel
theorem dX1_rankOfHeard_112 : decode cX1_rankOfHeard 112 = .ok (.lload 4, 2) := by decide +kernel
theorem dX1_rankOfHeard_114 : decode cX1_rankOfHeard 114 = .ok (.ladd, 1) := by decide +kernel
theorem dX1_rankOfHeard_115 : decode cX1_rankOfHeard 115 = .ok (.lreturn, 1) := by decide +kernel
theorem dX1_rankOfHeard_116 : decode cX1_rankOfHeard 116 = .ok (.iinc 3 1, 3) := by decide +kernel
theorem dX1_rankOfHeard_119 : decode cX1_rankOfHeard 119 = .ok (.goto (-89), 3) := by decide +kernel
theorem dX1_rankOfHeard_122 : decode cX1_rankOfHeard 122 = .ok (.ldc2_w 109, 3) := by decide +kernel
theorem dX1_rankOfHeard_125 : decode cX1_rankOfHeard 125 = .ok (.lreturn, 1) := by decide +kernel
theorem dX1_sureLetter_0 : decode cX1_sureLetter 0 = .ok (.iload_n 1, 1) := by decide +kernel
theorem dX1_sureLetter_1 : decode cX1_sureLetter 1 = .ok (.bipush 8, 2) := by decide +kernel
theorem dX1_sureLetter_3 : decode cX1_sureLetter 3 = .ok (.imul, 1) := by decide +kernel
theorem dX1_sureLetter_4 : decode cX1_sureLetter 4 = .ok (.iload_n 2, 1) := by decide +kernel
theorem dX1_sureLetter_5 : decode cX1_sureLetter 5 = .ok (.iadd, 1) := by decide +kernel
theorem dX1_sureLetter_6 : decode cX1_sureLetter 6 = .ok (.istore_n 3, 1) := by decide +kernel
theorem dX1_sureLetter_7 : decode cX1_sureLetter 7 = .ok (.iload_n 3, 1) := by decide +kernel
theorem dX1_sureLetter_8 : decode cX1_sureLetter 8 = .ok (.ifCond .lt 23, 3) := by decide +kernel
theorem dX1_sureLetter_11 : decode cX1_sureLetter 11 = .ok (.iload_n 3, 1) := by decide +kernel
theorem dX1_sureLetter_12 : decode cX1_sureLetter 12 = .ok (.aload_n 0, 1) := by decide +kernel
theorem dX1_sureLetter_13 : decode cX1_sureLetter 13 = .ok (.getfield 33, 3) := by decide +kernel
theorem dX1_sureLetter_16 : decode cX1_sureLetter 16 = .ok (.arraylength, 1) := by decide +kernel
theorem dX1_sureLetter_17 : decode cX1_sureLetter 17 = .ok (.if_icmp .ge 14, 3) := by decide +kernel
theorem dX1_sureLetter_20 : decode cX1_sureLetter 20 = .ok (.aload_n 0, 1) := by decide +kernel
theorem dX1_sureLetter_21 : decode cX1_sureLetter 21 = .ok (.getfield 33, 3) := by decide +kernel
theorem dX1_sureLetter_24 : decode cX1_sureLetter 24 = .ok (.iload_n 3, 1) := by decide +kernel
theorem dX1_sureLetter_25 : decode cX1_sureLetter 25 = .ok (.iaload, 1) := by decide +kernel
theorem dX1_sureLetter_26 : decode cX1_sureLetter 26 = .ok (.bipush (-2), 2) := by decide +kernel
theorem dX1_sureLetter_28 : decode cX1_sureLetter 28 = .ok (.if_icmp .ne 5, 3) := by decide +kernel
theorem dX1_sureLetter_31 : decode cX1_sureLetter 31 = .ok (.iconst (-1), 1) := by decide +kernel
theorem dX1_sureLetter_32 : decode cX1_sureLetter 32 = .ok (.ireturn, 1) := by decide +kernel
theorem dX1_sureLetter_33 : decode cX1_sureLetter 33 = .ok (.aload_n 0, 1) := by decide +kernel
theorem dX1_sureLetter_34 : decode cX1_sureLetter 34 = .ok (.getfield 33, 3) := by decide +kernel
theorem dX1_sureLetter_37 : decode cX1_sureLetter 37 = .ok (.iload_n 3, 1) := by decide +kernel
theorem dX1_sureLetter_38 : decode cX1_sureLetter 38 = .ok (.iaload, 1) := by decide +kernel
theorem dX1_sureLetter_39 : decode cX1_sureLetter 39 = .ok (.ireturn, 1) := by decide +kernel
theorem dX1_codeOf_0 : decode cX1_codeOf 0 = .ok (.iload_n 0, 1) := by decide +kernel
theorem dX1_codeOf_1 : decode cX1_codeOf 1 = .ok (.bipush 12, 2) := by decide +kernel
theorem dX1_codeOf_3 : decode cX1_codeOf 3 = .ok (.ishl, 1) := by decide +kernel
theorem dX1_codeOf_4 : decode cX1_codeOf 4 = .ok (.iload_n 1, 1) := by decide +kernel
theorem dX1_codeOf_5 : decode cX1_codeOf 5 = .ok (.bipush 8, 2) := by decide +kernel
theorem dX1_codeOf_7 : decode cX1_codeOf 7 = .ok (.ishl, 1) := by decide +kernel
theorem dX1_codeOf_8 : decode cX1_codeOf 8 = .ok (.ior, 1) := by decide +kernel
theorem dX1_codeOf_9 : decode cX1_codeOf 9 = .ok (.iload_n 2, 1) := by decide +kernel
theorem dX1_codeOf_10 : decode cX1_codeOf 10 = .ok (.iconst 4, 1) := by decide +kernel
theorem dX1_codeOf_11 : decode cX1_codeOf 11 = .ok (.ishl, 1) := by decide +kernel
theorem dX1_codeOf_12 : decode cX1_codeOf 12 = .ok (.ior, 1) := by decide +kernel
theorem dX1_codeOf_13 : decode cX1_codeOf 13 = .ok (.iload_n 3, 1) := by decide +kernel
theorem dX1_codeOf_14 : decode cX1_codeOf 14 = .ok (.ior, 1) := by decide +kernel
theorem dX1_codeOf_15 : decode cX1_codeOf 15 = .ok (.ireturn, 1) := by decide +kernel
theorem dX1_surveyOfLength_0 : decode cX1_surveyOfLength 0 = .ok (.aload_n 0, 1) := by decide +kernel
theorem dX1_surveyOfLength_1 : decode cX1_surveyOfLength 1 = .ok (.getfield 27, 3) := by decide +kernel
theorem dX1_surveyOfLength_4 : decode cX1_surveyOfLength 4 = .ok (.iconst 0, 1) := by decide +kernel
theorem dX1_surveyOfLength_5 : decode cX1_surveyOfLength 5 = .ok (.iaload, 1) := by decide +kernel
theorem dX1_surveyOfLength_6 : decode cX1_surveyOfLength 6 = .ok (.istore_n 3, 1) := by decide +kernel
theorem dX1_surveyOfLength_7 : decode cX1_surveyOfLength 7 = .ok (.iload_n 3, 1) := by decide +kernel
theorem dX1_surveyOfLength_8 : decode cX1_surveyOfLength 8 = .ok (.aload_n 0, 1) := by decide +kernel
theorem dX1_surveyOfLength_9 : decode cX1_surveyOfLength 9 = .ok (.getfield 30, 3) := by decide +kernel
theorem dX1_surveyOfLength_12 : decode cX1_surveyOfLength 12 = .ok (.iconst 0, 1) := by decide +kernel
theorem dX1_surveyOfLength_13 : decode cX1_surveyOfLength 13 = .ok (.iaload, 1) := by decide +kernel
theorem dX1_surveyOfLength_14 : decode cX1_surveyOfLength 14 = .ok (.if_icmp .gt 124, 3) := by decide +kernel
theorem dX1_surveyOfLength_17 : decode cX1_surveyOfLength 17 = .ok (.iload_n 3, 1) := by decide +kernel
theorem dX1_surveyOfLength_18 : decode cX1_surveyOfLength 18 = .ok (.iload_n 2, 1) := by decide +kernel
theorem dX1_surveyOfLength_19 : decode cX1_surveyOfLength 19 = .ok (.if_icmp .gt 119, 3) := by decide +kernel
theorem dX1_surveyOfLength_22 : decode cX1_surveyOfLength 22 = .ok (.aload_n 0, 1) := by decide +kernel
theorem dX1_surveyOfLength_23 : decode cX1_surveyOfLength 23 = .ok (.getfield 27, 3) := by decide +kernel
theorem dX1_surveyOfLength_26 : decode cX1_surveyOfLength 26 = .ok (.iconst 1, 1) := by decide +kernel
theorem dX1_surveyOfLength_27 : decode cX1_surveyOfLength 27 = .ok (.iaload, 1) := by decide +kernel
theorem dX1_surveyOfLength_28 : decode cX1_surveyOfLength 28 = .ok (.istore 4, 2) := by decide +kernel
theorem dX1_surveyOfLength_30 : decode cX1_surveyOfLength 30 = .ok (.iload 4, 2) := by decide +kernel
theorem dX1_surveyOfLength_32 : decode cX1_surveyOfLength 32 = .ok (.aload_n 0, 1) := by decide +kernel
theorem dX1_surveyOfLength_33 : decode cX1_surveyOfLength 33 = .ok (.getfield 30, 3) := by decide +kernel
theorem dX1_surveyOfLength_36 : decode cX1_surveyOfLength 36 = .ok (.iconst 1, 1) := by decide +kernel
theorem dX1_surveyOfLength_37 : decode cX1_surveyOfLength 37 = .ok (.iaload, 1) := by decide +kernel
theorem dX1_surveyOfLength_38 : decode cX1_surveyOfLength 38 = .ok (.if_icmp .gt 94, 3) := by decide +kernel
theorem dX1_surveyOfLength_41 : decode cX1_surveyOfLength 41 = .ok (.iload_n 3, 1) := by decide +kernel
theorem dX1_surveyOfLength_42 : decode cX1_surveyOfLength 42 = .ok (.iload 4, 2) := by decide +kernel
theorem dX1_surveyOfLength_44 : decode cX1_surveyOfLength 44 = .ok (.iadd, 1) := by decide +kernel
theorem dX1_surveyOfLength_45 : decode cX1_surveyOfLength 45 = .ok (.iload_n 2, 1) := by decide +kernel
theorem dX1_surveyOfLength_46 : decode cX1_surveyOfLength 46 = .ok (.if_icmp .gt 86, 3) := by decide +kernel
theorem dX1_surveyOfLength_49 : decode cX1_surveyOfLength 49 = .ok (.iload_n 2, 1) := by decide +kernel
theorem dX1_surveyOfLength_50 : decode cX1_surveyOfLength 50 = .ok (.iload_n 3, 1) := by decide +kernel
theorem dX1_surveyOfLength_51 : decode cX1_surveyOfLength 51 = .ok (.isub, 1) := by decide +kernel
theorem dX1_surveyOfLength_52 : decode cX1_surveyOfLength 52 = .ok (.iload 4, 2) := by decide +kernel
theorem dX1_surveyOfLength_54 : decode cX1_surveyOfLength 54 = .ok (.isub, 1) := by decide +kernel
theorem dX1_surveyOfLength_55 : decode cX1_surveyOfLength 55 = .ok (.istore 5, 2) := by decide +kernel
theorem dX1_surveyOfLength_57 : decode cX1_surveyOfLength 57 = .ok (.aload_n 0, 1) := by decide +kernel
theorem dX1_surveyOfLength_58 : decode cX1_surveyOfLength 58 = .ok (.getfield 27, 3) := by decide +kernel
theorem dX1_surveyOfLength_61 : decode cX1_surveyOfLength 61 = .ok (.iconst 2, 1) := by decide +kernel
theorem dX1_surveyOfLength_62 : decode cX1_surveyOfLength 62 = .ok (.iaload, 1) := by decide +kernel
theorem dX1_surveyOfLength_63 : decode cX1_surveyOfLength 63 = .ok (.iload 5, 2) := by decide +kernel
theorem dX1_surveyOfLength_65 : decode cX1_surveyOfLength 65 = .ok (.aload_n 0, 1) := by decide +kernel
theorem dX1_surveyOfLength_66 : decode cX1_surveyOfLength 66 = .ok (.getfield 30, 3) := by decide +kernel
theorem dX1_surveyOfLength_69 : decode cX1_surveyOfLength 69 = .ok (.iconst 3, 1) := by decide +kernel
theorem dX1_surveyOfLength_70 : decode cX1_surveyOfLength 70 = .ok (.iaload, 1) := by decide +kernel
theorem dX1_surveyOfLength_71 : decode cX1_surveyOfLength 71 = .ok (.isub, 1) := by decide +kernel
theorem dX1_surveyOfLength_72 : decode cX1_surveyOfLength 72 = .ok (.invokestatic 115, 3) := by decide +kernel
theorem dX1_surveyOfLength_75 : decode cX1_surveyOfLength 75 = .ok (.istore 6, 2) := by decide +kernel
theorem dX1_surveyOfLength_77 : decode cX1_surveyOfLength 77 = .ok (.iload 6, 2) := by decide +kernel
theorem dX1_surveyOfLength_79 : decode cX1_surveyOfLength 79 = .ok (.aload_n 0, 1) := by decide +kernel
theorem dX1_surveyOfLength_80 : decode cX1_surveyOfLength 80 = .ok (.getfield 30, 3) := by decide +kernel
theorem dX1_surveyOfLength_83 : decode cX1_surveyOfLength 83 = .ok (.iconst 2, 1) := by decide +kernel
theorem dX1_surveyOfLength_84 : decode cX1_surveyOfLength 84 = .ok (.iaload, 1) := by decide +kernel
theorem dX1_surveyOfLength_85 : decode cX1_surveyOfLength 85 = .ok (.if_icmp .gt 41, 3) := by decide +kernel
theorem dX1_surveyOfLength_88 : decode cX1_surveyOfLength 88 = .ok (.iload 6, 2) := by decide +kernel
theorem dX1_surveyOfLength_90 : decode cX1_surveyOfLength 90 = .ok (.iload 5, 2) := by decide +kernel
theorem dX1_surveyOfLength_92 : decode cX1_surveyOfLength 92 = .ok (.aload_n 0, 1) := by decide +kernel
theorem dX1_surveyOfLength_93 : decode cX1_surveyOfLength 93 = .ok (.getfield 27, 3) := by decide +kernel
theorem dX1_surveyOfLength_96 : decode cX1_surveyOfLength 96 = .ok (.iconst 3, 1) := by decide +kernel
theorem dX1_surveyOfLength_97 : decode cX1_surveyOfLength 97 = .ok (.iaload, 1) := by decide +kernel
theorem dX1_surveyOfLength_98 : decode cX1_surveyOfLength 98 = .ok (.isub, 1) := by decide +kernel
theorem dX1_surveyOfLength_99 : decode cX1_surveyOfLength 99 = .ok (.if_icmp .gt 27, 3) := by decide +kernel
theorem dX1_surveyOfLength_102 : decode cX1_surveyOfLength 102 = .ok (.aload_n 0, 1) := by decide +kernel
theorem dX1_surveyOfLength_103 : decode cX1_surveyOfLength 103 = .ok (.aload_n 1, 1) := by decide +kernel
theorem dX1_surveyOfLength_104 : decode cX1_surveyOfLength 104 = .ok (.iload_n 3, 1) := by decide +kernel
theorem dX1_surveyOfLength_105 : decode cX1_surveyOfLength 105 = .ok (.iload 4, 2) := by decide +kernel
theorem dX1_surveyOfLength_107 : decode cX1_surveyOfLength 107 = .ok (.iload 6, 2) := by decide +kernel
theorem dX1_surveyOfLength_109 : decode cX1_surveyOfLength 109 = .ok (.iload 5, 2) := by decide +kernel
theorem dX1_surveyOfLength_111 : decode cX1_surveyOfLength 111 = .ok (.iload 6, 2) := by decide +kernel
theorem dX1_surveyOfLength_113 : decode cX1_surveyOfLength 113 = .ok (.isub, 1) := by decide +kernel
theorem dX1_surveyOfLength_114 : decode cX1_surveyOfLength 114 = .ok (.invokestatic 105, 3) := by decide +kernel
theorem dX1_surveyOfLength_117 : decode cX1_surveyOfLength 117 = .ok (.invokevirtual 120, 3) := by decide +kernel
theorem dX1_surveyOfLength_120 : decode cX1_surveyOfLength 120 = .ok (.iinc 6 1, 3) := by decide +kernel
theorem dX1_surveyOfLength_123 : decode cX1_surveyOfLength 123 = .ok (.goto (-46), 3) := by decide +kernel
theorem dX1_surveyOfLength_126 : decode cX1_surveyOfLength 126 = .ok (.iinc 4 1, 3) := by decide +kernel
theorem dX1_surveyOfLength_129 : decode cX1_surveyOfLength 129 = .ok (.goto (-99), 3) := by decide +kernel
theorem dX1_surveyOfLength_132 : decode cX1_surveyOfLength 132 = .ok (.iinc 3 1, 3) := by decide +kernel
theorem dX1_surveyOfLength_135 : decode cX1_surveyOfLength 135 = .ok (.goto (-128), 3) := by decide +kernel
theorem dX1_surveyOfLength_138 : decode cX1_surveyOfLength 138 = .ok (.return_, 1) := by decide +kernel
theorem dX1_addRow_0 : decode cX1_addRow 0 = .ok (.aload_n 0, 1) := by decide +kernel
theorem dX1_addRow_1 : decode cX1_addRow 1 = .ok (.getfield 39, 3) := by decide +kernel
theorem dX1_addRow_4 : decode cX1_addRow 4 = .ok (.iload_n 2, 1) := by decide +kernel
theorem dX1_addRow_5 : decode cX1_addRow 5 = .ok (.invokevirtual 85, 3) := by decide +kernel
theorem dX1_addRow_8 : decode cX1_addRow 8 = .ok (.aload_n 0, 1) := by decide +kernel
theorem dX1_addRow_9 : decode cX1_addRow 9 = .ok (.getfield 50, 3) := by decide +kernel
theorem dX1_addRow_12 : decode cX1_addRow 12 = .ok (.aload_n 0, 1) := by decide +kernel
theorem dX1_addRow_13 : decode cX1_addRow 13 = .ok (.getfield 43, 3) := by decide +kernel
theorem dX1_addRow_16 : decode cX1_addRow 16 = .ok (.arraylength, 1) := by decide +kernel
theorem dX1_addRow_17 : decode cX1_addRow 17 = .ok (.if_icmp .ge 30, 3) := by decide +kernel
theorem dX1_addRow_20 : decode cX1_addRow 20 = .ok (.aload_n 0, 1) := by decide +kernel
theorem dX1_addRow_21 : decode cX1_addRow 21 = .ok (.getfield 50, 3) := by decide +kernel
theorem dX1_addRow_24 : decode cX1_addRow 24 = .ok (.aload_n 0, 1) := by decide +kernel
theorem dX1_addRow_25 : decode cX1_addRow 25 = .ok (.getfield 46, 3) := by decide +kernel
theorem dX1_addRow_28 : decode cX1_addRow 28 = .ok (.arraylength, 1) := by decide +kernel
theorem dX1_addRow_29 : decode cX1_addRow 29 = .ok (.if_icmp .ge 18, 3) := by decide +kernel
theorem dX1_addRow_32 : decode cX1_addRow 32 = .ok (.aload_n 0, 1) := by decide +kernel
theorem dX1_addRow_33 : decode cX1_addRow 33 = .ok (.getfield 39, 3) := by decide +kernel
theorem dX1_addRow_36 : decode cX1_addRow 36 = .ok (.aload_n 1, 1) := by decide +kernel
theorem dX1_addRow_37 : decode cX1_addRow 37 = .ok (.aload_n 0, 1) := by decide +kernel
theorem dX1_addRow_38 : decode cX1_addRow 38 = .ok (.getfield 18, 3) := by decide +kernel
theorem dX1_addRow_41 : decode cX1_addRow 41 = .ok (.invokevirtual 93, 3) := by decide +kernel
theorem dX1_addRow_44 : decode cX1_addRow 44 = .ok (.ifCond .ne 4, 3) := by decide +kernel
theorem dX1_addRow_47 : decode cX1_addRow 47 = .ok (.return_, 1) := by decide +kernel
theorem dX1_addRow_48 : decode cX1_addRow 48 = .ok (.aload_n 0, 1) := by decide +kernel
theorem dX1_addRow_49 : decode cX1_addRow 49 = .ok (.getfield 39, 3) := by decide +kernel
theorem dX1_addRow_52 : decode cX1_addRow 52 = .ok (.invokevirtual 123, 3) := by decide +kernel
theorem dX1_addRow_55 : decode cX1_addRow 55 = .ok (.lstore_n 3, 1) := by decide +kernel
theorem dX1_addRow_56 : decode cX1_addRow 56 = .ok (.lload_n 3, 1) := by decide +kernel
theorem dX1_addRow_57 : decode cX1_addRow 57 = .ok (.lconst 0, 1) := by decide +kernel
theorem dX1_addRow_58 : decode cX1_addRow 58 = .ok (.lcmp, 1) := by decide +kernel
theorem dX1_addRow_59 : decode cX1_addRow 59 = .ok (.ifCond .ne 4, 3) := by decide +kernel
theorem dX1_addRow_62 : decode cX1_addRow 62 = .ok (.return_, 1) := by decide +kernel
theorem dX1_addRow_63 : decode cX1_addRow 63 = .ok (.aload_n 0, 1) := by decide +kernel
theorem dX1_addRow_64 : decode cX1_addRow 64 = .ok (.getfield 43, 3) := by decide +kernel
theorem dX1_addRow_67 : decode cX1_addRow 67 = .ok (.aload_n 0, 1) := by decide +kernel
theorem dX1_addRow_68 : decode cX1_addRow 68 = .ok (.getfield 50, 3) := by decide +kernel
theorem dX1_addRow_71 : decode cX1_addRow 71 = .ok (.iload_n 2, 1) := by decide +kernel
theorem dX1_addRow_72 : decode cX1_addRow 72 = .ok (.iastore, 1) := by decide +kernel
theorem dX1_addRow_73 : decode cX1_addRow 73 = .ok (.aload_n 0, 1) := by decide +kernel
theorem dX1_addRow_74 : decode cX1_addRow 74 = .ok (.getfield 46, 3) := by decide +kernel
theorem dX1_addRow_77 : decode cX1_addRow 77 = .ok (.aload_n 0, 1) := by decide +kernel
theorem dX1_addRow_78 : decode cX1_addRow 78 = .ok (.getfield 50, 3) := by decide +kernel
theorem dX1_addRow_81 : decode cX1_addRow 81 = .ok (.aload_n 0, 1) := by decide +kernel
theorem dX1_addRow_82 : decode cX1_addRow 82 = .ok (.getfield 54, 3) := by decide +kernel
theorem dX1_addRow_85 : decode cX1_addRow 85 = .ok (.lastore, 1) := by decide +kernel
theorem dX1_addRow_86 : decode cX1_addRow 86 = .ok (.aload_n 0, 1) := by decide +kernel
theorem dX1_addRow_87 : decode cX1_addRow 87 = .ok (.dup, 1) := by decide +kernel
theorem dX1_addRow_88 : decode cX1_addRow 88 = .ok (.getfield 50, 3) := by decide +kernel
theorem dX1_addRow_91 : decode cX1_addRow 91 = .ok (.iconst 1, 1) := by decide +kernel
theorem dX1_addRow_92 : decode cX1_addRow 92 = .ok (.iadd, 1) := by decide +kernel
theorem dX1_addRow_93 : decode cX1_addRow 93 = .ok (.putfield 50, 3) := by decide +kernel
theorem dX1_addRow_96 : decode cX1_addRow 96 = .ok (.aload_n 0, 1) := by decide +kernel
theorem dX1_addRow_97 : decode cX1_addRow 97 = .ok (.dup, 1) := by decide +kernel
theorem dX1_addRow_98 : decode cX1_addRow 98 = .ok (.getfield 54, 3) := by decide +kernel
theorem dX1_addRow_101 : decode cX1_addRow 101 = .ok (.lload_n 3, 1) := by decide +kernel
theorem dX1_addRow_102 : decode cX1_addRow 102 = .ok (.ladd, 1) := by decide +kernel
theorem dX1_addRow_103 : decode cX1_addRow 103 = .ok (.putfield 54, 3) := by decide +kernel
theorem dX1_addRow_106 : decode cX1_addRow 106 = .ok (.aload_n 0, 1) := by decide +kernel
theorem dX1_addRow_107 : decode cX1_addRow 107 = .ok (.invokevirtual 127, 3) := by decide +kernel
theorem dX1_addRow_110 : decode cX1_addRow 110 = .ok (.return_, 1) := by decide +kernel
theorem dX1_noteSure_0 : decode cX1_noteSure 0 = .ok (.iconst 0, 1) := by decide +kernel
theorem dX1_noteSure_1 : decode cX1_noteSure 1 = .ok (.istore_n 1, 1) := by decide +kernel
theorem dX1_noteSure_2 : decode cX1_noteSure 2 = .ok (.iload_n 1, 1) := by decide +kernel
theorem dX1_noteSure_3 : decode cX1_noteSure 3 = .ok (.iconst 4, 1) := by decide +kernel
theorem dX1_noteSure_4 : decode cX1_noteSure 4 = .ok (.if_icmp .ge 88, 3) := by decide +kernel
theorem dX1_noteSure_7 : decode cX1_noteSure 7 = .ok (.iconst 0, 1) := by decide +kernel
theorem dX1_noteSure_8 : decode cX1_noteSure 8 = .ok (.istore_n 2, 1) := by decide +kernel
theorem dX1_noteSure_9 : decode cX1_noteSure 9 = .ok (.iload_n 2, 1) := by decide +kernel
theorem dX1_noteSure_10 : decode cX1_noteSure 10 = .ok (.bipush 8, 2) := by decide +kernel
theorem dX1_noteSure_12 : decode cX1_noteSure 12 = .ok (.if_icmp .ge 74, 3) := by decide +kernel
theorem dX1_noteSure_15 : decode cX1_noteSure 15 = .ok (.iload_n 1, 1) := by decide +kernel
theorem dX1_noteSure_16 : decode cX1_noteSure 16 = .ok (.bipush 8, 2) := by decide +kernel
theorem dX1_noteSure_18 : decode cX1_noteSure 18 = .ok (.imul, 1) := by decide +kernel
theorem dX1_noteSure_19 : decode cX1_noteSure 19 = .ok (.iload_n 2, 1) := by decide +kernel
theorem dX1_noteSure_20 : decode cX1_noteSure 20 = .ok (.iadd, 1) := by decide +kernel
theorem dX1_noteSure_21 : decode cX1_noteSure 21 = .ok (.istore_n 3, 1) := by decide +kernel
theorem dX1_noteSure_22 : decode cX1_noteSure 22 = .ok (.aload_n 0, 1) := by decide +kernel
theorem dX1_noteSure_23 : decode cX1_noteSure 23 = .ok (.getfield 33, 3) := by decide +kernel
theorem dX1_noteSure_26 : decode cX1_noteSure 26 = .ok (.iload_n 3, 1) := by decide +kernel
theorem dX1_noteSure_27 : decode cX1_noteSure 27 = .ok (.iaload, 1) := by decide +kernel
theorem dX1_noteSure_28 : decode cX1_noteSure 28 = .ok (.iconst (-1), 1) := by decide +kernel
theorem dX1_noteSure_29 : decode cX1_noteSure 29 = .ok (.if_icmp .ne 6, 3) := by decide +kernel
theorem dX1_noteSure_32 : decode cX1_noteSure 32 = .ok (.goto 48, 3) := by decide +kernel
theorem dX1_noteSure_35 : decode cX1_noteSure 35 = .ok (.aload_n 0, 1) := by decide +kernel
theorem dX1_noteSure_36 : decode cX1_noteSure 36 = .ok (.getfield 39, 3) := by decide +kernel
theorem dX1_noteSure_39 : decode cX1_noteSure 39 = .ok (.iload_n 1, 1) := by decide +kernel
theorem dX1_noteSure_40 : decode cX1_noteSure 40 = .ok (.iload_n 2, 1) := by decide +kernel
theorem dX1_noteSure_41 : decode cX1_noteSure 41 = .ok (.invokevirtual 130, 3) := by decide +kernel
theorem dX1_noteSure_44 : decode cX1_noteSure 44 = .ok (.istore 4, 2) := by decide +kernel
theorem dX1_noteSure_46 : decode cX1_noteSure 46 = .ok (.aload_n 0, 1) := by decide +kernel
theorem dX1_noteSure_47 : decode cX1_noteSure 47 = .ok (.getfield 33, 3) := by decide +kernel
theorem dX1_noteSure_50 : decode cX1_noteSure 50 = .ok (.iload_n 3, 1) := by decide +kernel
theorem dX1_noteSure_51 : decode cX1_noteSure 51 = .ok (.aload_n 0, 1) := by decide +kernel
theorem dX1_noteSure_52 : decode cX1_noteSure 52 = .ok (.getfield 33, 3) := by decide +kernel
theorem dX1_noteSure_55 : decode cX1_noteSure 55 = .ok (.iload_n 3, 1) := by decide +kernel
theorem dX1_noteSure_56 : decode cX1_noteSure 56 = .ok (.iaload, 1) := by decide +kernel
theorem dX1_noteSure_57 : decode cX1_noteSure 57 = .ok (.bipush (-2), 2) := by decide +kernel
theorem dX1_noteSure_59 : decode cX1_noteSure 59 = .ok (.if_icmp .eq 14, 3) := by decide +kernel
theorem dX1_noteSure_62 : decode cX1_noteSure 62 = .ok (.aload_n 0, 1) := by decide +kernel
theorem dX1_noteSure_63 : decode cX1_noteSure 63 = .ok (.getfield 33, 3) := by decide +kernel
theorem dX1_noteSure_66 : decode cX1_noteSure 66 = .ok (.iload_n 3, 1) := by decide +kernel
theorem dX1_noteSure_67 : decode cX1_noteSure 67 = .ok (.iaload, 1) := by decide +kernel
theorem dX1_noteSure_68 : decode cX1_noteSure 68 = .ok (.iload 4, 2) := by decide +kernel
theorem dX1_noteSure_70 : decode cX1_noteSure 70 = .ok (.if_icmp .ne 8, 3) := by decide +kernel
theorem dX1_noteSure_73 : decode cX1_noteSure 73 = .ok (.iload 4, 2) := by decide +kernel
theorem dX1_noteSure_75 : decode cX1_noteSure 75 = .ok (.goto 4, 3) := by decide +kernel
theorem dX1_noteSure_78 : decode cX1_noteSure 78 = .ok (.iconst (-1), 1) := by decide +kernel
theorem dX1_noteSure_79 : decode cX1_noteSure 79 = .ok (.iastore, 1) := by decide +kernel
theorem dX1_noteSure_80 : decode cX1_noteSure 80 = .ok (.iinc 2 1, 3) := by decide +kernel
theorem dX1_noteSure_83 : decode cX1_noteSure 83 = .ok (.goto (-74), 3) := by decide +kernel
theorem dX1_noteSure_86 : decode cX1_noteSure 86 = .ok (.iinc 1 1, 3) := by decide +kernel
theorem dX1_noteSure_89 : decode cX1_noteSure 89 = .ok (.goto (-87), 3) := by decide +kernel
theorem dX1_noteSure_92 : decode cX1_noteSure 92 = .ok (.return_, 1) := by decide +kernel
theorem dX2_init_0 : decode cX2_init 0 = .ok (.aload_n 0, 1) := by decide +kernel
theorem dX2_init_1 : decode cX2_init 1 = .ok (.invokespecial 3, 3) := by decide +kernel
theorem dX2_init_4 : decode cX2_init 4 = .ok (.aload_n 0, 1) := by decide +kernel
theorem dX2_init_5 : decode cX2_init 5 = .ok (.iconst 4, 1) := by decide +kernel
theorem dX2_init_6 : decode cX2_init 6 = .ok (.newarray .boolean, 2) := by decide +kernel
theorem dX2_init_8 : decode cX2_init 8 = .ok (.putfield 9, 3) := by decide +kernel
theorem dX2_init_11 : decode cX2_init 11 = .ok (.aload_n 0, 1) := by decide +kernel
theorem dX2_init_12 : decode cX2_init 12 = .ok (.iconst 4, 1) := by decide +kernel
theorem dX2_init_13 : decode cX2_init 13 = .ok (.newarray .int, 2) := by decide +kernel
theorem dX2_init_15 : decode cX2_init 15 = .ok (.putfield 15, 3) := by decide +kernel
theorem dX2_init_18 : decode cX2_init 18 = .ok (.aload_n 0, 1) := by decide +kernel
theorem dX2_init_19 : decode cX2_init 19 = .ok (.iconst 4, 1) := by decide +kernel
theorem dX2_init_20 : decode cX2_init 20 = .ok (.newarray .int, 2) := by decide +kernel
theorem dX2_init_22 : decode cX2_init 22 = .ok (.putfield 19, 3) := by decide +kernel
theorem dX2_init_25 : decode cX2_init 25 = .ok (.aload_n 0, 1) := by decide +kernel
theorem dX2_init_26 : decode cX2_init 26 = .ok (.iconst 4, 1) := by decide +kernel
theorem dX2_init_27 : decode cX2_init 27 = .ok (.newarray .int, 2) := by decide +kernel
theorem dX2_init_29 : decode cX2_init 29 = .ok (.putfield 22, 3) := by decide +kernel
theorem dX2_init_32 : decode cX2_init 32 = .ok (.aload_n 0, 1) := by decide +kernel
theorem dX2_init_33 : decode cX2_init 33 = .ok (.iconst 4, 1) := by decide +kernel
theorem dX2_init_34 : decode cX2_init 34 = .ok (.newarray .int, 2) := by decide +kernel
theorem dX2_init_36 : decode cX2_init 36 = .ok (.putfield 25, 3) := by decide +kernel
theorem dX2_init_39 : decode cX2_init 39 = .ok (.aload_n 0, 1) := by decide +kernel
theorem dX2_init_40 : decode cX2_init 40 = .ok (.iconst 4, 1) := by decide +kernel
theorem dX2_init_41 : decode cX2_init 41 = .ok (.sipush 300, 3) := by decide +kernel
theorem dX2_init_44 : decode cX2_init 44 = .ok (.multianewarray 28 2, 4) := by decide +kernel
theorem dX2_init_48 : decode cX2_init 48 = .ok (.putfield 30, 3) := by decide +kernel
theorem dX2_init_51 : decode cX2_init 51 = .ok (.aload_n 0, 1) := by decide +kernel
theorem dX2_init_52 : decode cX2_init 52 = .ok (.iconst 4, 1) := by decide +kernel
theorem dX2_init_53 : decode cX2_init 53 = .ok (.newarray .int, 2) := by decide +kernel
theorem dX2_init_55 : decode cX2_init 55 = .ok (.putfield 33, 3) := by decide +kernel
theorem dX2_init_58 : decode cX2_init 58 = .ok (.aload_n 0, 1) := by decide +kernel
theorem dX2_init_59 : decode cX2_init 59 = .ok (.iconst 4, 1) := by decide +kernel
theorem dX2_init_60 : decode cX2_init 60 = .ok (.iconst 0, 1) := by decide +kernel
theorem dX2_init_61 : decode cX2_init 61 = .ok (.multianewarray 28 2, 4) := by decide +kernel
theorem dX2_init_65 : decode cX2_init 65 = .ok (.putfield 36, 3) := by decide +kernel
theorem dX2_init_68 : decode cX2_init 68 = .ok (.aload_n 0, 1) := by decide +kernel
theorem dX2_init_69 : decode cX2_init 69 = .ok (.aconst_null, 1) := by decide +kernel
theorem dX2_init_70 : decode cX2_init 70 = .ok (.putfield 39, 3) := by decide +kernel
theorem dX2_init_73 : decode cX2_init 73 = .ok (.return_, 1) := by decide +kernel
theorem dX2_forget_0 : decode cX2_forget 0 = .ok (.iconst 0, 1) := by decide +kernel
theorem dX2_forget_1 : decode cX2_forget 1 = .ok (.istore_n 1, 1) := by decide +kernel
theorem dX2_forget_2 : decode cX2_forget 2 = .ok (.iload_n 1, 1) := by decide +kernel
theorem dX2_forget_3 : decode cX2_forget 3 = .ok (.iconst 4, 1) := by decide +kernel
theorem dX2_forget_4 : decode cX2_forget 4 = .ok (.if_icmp .ge 16, 3) := by decide +kernel
theorem dX2_forget_7 : decode cX2_forget 7 = .ok (.aload_n 0, 1) := by decide +kernel
theorem dX2_forget_8 : decode cX2_forget 8 = .ok (.getfield 9, 3) := by decide +kernel
theorem dX2_forget_11 : decode cX2_forget 11 = .ok (.iload_n 1, 1) := by decide +kernel
theorem dX2_forget_12 : decode cX2_forget 12 = .ok (.iconst 0, 1) := by decide +kernel
theorem dX2_forget_13 : decode cX2_forget 13 = .ok (.bastore, 1) := by decide +kernel
theorem dX2_forget_14 : decode cX2_forget 14 = .ok (.iinc 1 1, 3) := by decide +kernel
theorem dX2_forget_17 : decode cX2_forget 17 = .ok (.goto (-15), 3) := by decide +kernel
theorem dX2_forget_20 : decode cX2_forget 20 = .ok (.return_, 1) := by decide +kernel
theorem dX2_follow_0 : decode cX2_follow 0 = .ok (.iload_n 2, 1) := by decide +kernel
theorem dX2_follow_1 : decode cX2_follow 1 = .ok (.invokestatic 43, 3) := by decide +kernel
theorem dX2_follow_4 : decode cX2_follow 4 = .ok (.ifCond .eq 6, 3) := by decide +kernel
theorem dX2_follow_7 : decode cX2_follow 7 = .ok (.bipush (-2), 2) := by decide +kernel
theorem dX2_follow_9 : decode cX2_follow 9 = .ok (.ireturn, 1) := by decide +kernel
theorem dX2_follow_10 : decode cX2_follow 10 = .ok (.aload_n 0, 1) := by decide +kernel
theorem dX2_follow_11 : decode cX2_follow 11 = .ok (.getfield 9, 3) := by decide +kernel
theorem dX2_follow_14 : decode cX2_follow 14 = .ok (.iload_n 2, 1) := by decide +kernel
theorem dX2_follow_15 : decode cX2_follow 15 = .ok (.baload, 1) := by decide +kernel
theorem dX2_follow_16 : decode cX2_follow 16 = .ok (.ifCond .eq 10, 3) := by decide +kernel
theorem dX2_follow_19 : decode cX2_follow 19 = .ok (.aload_n 0, 1) := by decide +kernel
theorem dX2_follow_20 : decode cX2_follow 20 = .ok (.getfield 15, 3) := by decide +kernel
theorem dX2_follow_23 : decode cX2_follow 23 = .ok (.iload_n 2, 1) := by decide +kernel
theorem dX2_follow_24 : decode cX2_follow 24 = .ok (.iaload, 1) := by decide +kernel
theorem dX2_follow_25 : decode cX2_follow 25 = .ok (.ireturn, 1) := by decide +kernel
theorem dX2_follow_26 : decode cX2_follow 26 = .ok (.aload_n 0, 1) := by decide +kernel
theorem dX2_follow_27 : decode cX2_follow 27 = .ok (.getfield 9, 3) := by decide +kernel
theorem dX2_follow_30 : decode cX2_follow 30 = .ok (.iload_n 2, 1) := by decide +kernel
theorem dX2_follow_31 : decode cX2_follow 31 = .ok (.iconst 1, 1) := by decide +kernel
theorem dX2_follow_32 : decode cX2_follow 32 = .ok (.bastore, 1) := by decide +kernel
theorem dX2_follow_33 : decode cX2_follow 33 = .ok (.aload_n 0, 1) := by decide +kernel
theorem dX2_follow_34 : decode cX2_follow 34 = .ok (.getfield 15, 3) := by decide +kernel
theorem dX2_follow_37 : decode cX2_follow 37 = .ok (.iload_n 2, 1) := by decide +kernel
theorem dX2_follow_38 : decode cX2_follow 38 = .ok (.bipush (-4), 2) := by decide +kernel
theorem dX2_follow_40 : decode cX2_follow 40 = .ok (.iastore, 1) := by decide +kernel
theorem dX2_follow_41 : decode cX2_follow 41 = .ok (.iconst 0, 1) := by decide +kernel
theorem dX2_follow_42 : decode cX2_follow 42 = .ok (.istore_n 3, 1) := by decide +kernel
theorem dX2_follow_43 : decode cX2_follow 43 = .ok (.iload_n 3, 1) := by decide +kernel
theorem dX2_follow_44 : decode cX2_follow 44 = .ok (.iconst 4, 1) := by decide +kernel
theorem dX2_follow_45 : decode cX2_follow 45 = .ok (.if_icmp .ge 22, 3) := by decide +kernel
theorem dX2_follow_48 : decode cX2_follow 48 = .ok (.aload_n 1, 1) := by decide +kernel
theorem dX2_follow_49 : decode cX2_follow 49 = .ok (.iload_n 2, 1) := by decide +kernel
theorem dX2_follow_50 : decode cX2_follow 50 = .ok (.iload_n 3, 1) := by decide +kernel
theorem dX2_follow_51 : decode cX2_follow 51 = .ok (.invokevirtual 47, 3) := by decide +kernel
theorem dX2_follow_54 : decode cX2_follow 54 = .ok (.iconst 2, 1) := by decide +kernel
theorem dX2_follow_55 : decode cX2_follow 55 = .ok (.if_icmp .le 6, 3) := by decide +kernel
theorem dX2_follow_58 : decode cX2_follow 58 = .ok (.bipush (-4), 2) := by decide +kernel
theorem dX2_follow_60 : decode cX2_follow 60 = .ok (.ireturn, 1) := by decide +kernel
theorem dX2_follow_61 : decode cX2_follow 61 = .ok (.iinc 3 1, 3) := by decide +kernel
theorem dX2_follow_64 : decode cX2_follow 64 = .ok (.goto (-21), 3) := by decide +kernel
theorem dX2_follow_67 : decode cX2_follow 67 = .ok (.aload_n 0, 1) := by decide +kernel
theorem dX2_follow_68 : decode cX2_follow 68 = .ok (.getfield 39, 3) := by decide +kernel
theorem dX2_follow_71 : decode cX2_follow 71 = .ok (.ifnonnull 14, 3) := by decide +kernel
theorem dX2_follow_74 : decode cX2_follow 74 = .ok (.aload_n 0, 1) := by decide +kernel
theorem dX2_follow_75 : decode cX2_follow 75 = .ok (.new 53, 3) := by decide +kernel
theorem dX2_follow_78 : decode cX2_follow 78 = .ok (.dup, 1) := by decide +kernel
theorem dX2_follow_79 : decode cX2_follow 79 = .ok (.invokespecial 55, 3) := by decide +kernel
theorem dX2_follow_82 : decode cX2_follow 82 = .ok (.putfield 39, 3) := by decide +kernel
theorem dX2_follow_85 : decode cX2_follow 85 = .ok (.aload_n 0, 1) := by decide +kernel
theorem dX2_follow_86 : decode cX2_follow 86 = .ok (.getfield 36, 3) := by decide +kernel
theorem dX2_follow_89 : decode cX2_follow 89 = .ok (.iload_n 2, 1) := by decide +kernel
theorem dX2_follow_90 : decode cX2_follow 90 = .ok (.aaload, 1) := by decide +kernel
theorem dX2_follow_91 : decode cX2_follow 91 = .ok (.arraylength, 1) := by decide +kernel
theorem dX2_follow_92 : decode cX2_follow 92 = .ok (.ifCond .ne 14, 3) := by decide +kernel
theorem dX2_follow_95 : decode cX2_follow 95 = .ok (.aload_n 0, 1) := by decide +kernel
theorem dX2_follow_96 : decode cX2_follow 96 = .ok (.getfield 36, 3) := by decide +kernel
theorem dX2_follow_99 : decode cX2_follow 99 = .ok (.iload_n 2, 1) := by decide +kernel
theorem dX2_follow_100 : decode cX2_follow 100 = .ok (.sipush 1500, 3) := by decide +kernel
theorem dX2_follow_103 : decode cX2_follow 103 = .ok (.newarray .int, 2) := by decide +kernel
theorem dX2_follow_105 : decode cX2_follow 105 = .ok (.aastore, 1) := by decide +kernel
theorem dX2_follow_106 : decode cX2_follow 106 = .ok (.aload_n 0, 1) := by decide +kernel
theorem dX2_follow_107 : decode cX2_follow 107 = .ok (.getfield 39, 3) := by decide +kernel
theorem dX2_follow_110 : decode cX2_follow 110 = .ok (.aload_n 1, 1) := by decide +kernel
theorem dX2_follow_111 : decode cX2_follow 111 = .ok (.iload_n 2, 1) := by decide +kernel
theorem dX2_follow_112 : decode cX2_follow 112 = .ok (.iconst 0, 1) := by decide +kernel
theorem dX2_follow_113 : decode cX2_follow 113 = .ok (.invokevirtual 56, 3) := by decide +kernel
theorem dX2_follow_116 : decode cX2_follow 116 = .ok (.aload_n 1, 1) := by decide +kernel
theorem dX2_follow_117 : decode cX2_follow 117 = .ok (.iload_n 2, 1) := by decide +kernel
theorem dX2_follow_118 : decode cX2_follow 118 = .ok (.iconst 1, 1) := by decide +kernel
theorem dX2_follow_119 : decode cX2_follow 119 = .ok (.invokevirtual 56, 3) := by decide +kernel
theorem dX2_follow_122 : decode cX2_follow 122 = .ok (.invokevirtual 60, 3) := by decide +kernel
theorem dX2_follow_125 : decode cX2_follow 125 = .ok (.aload_n 0, 1) := by decide +kernel
theorem dX2_follow_126 : decode cX2_follow 126 = .ok (.getfield 15, 3) := by decide +kernel
theorem dX2_follow_129 : decode cX2_follow 129 = .ok (.iload_n 2, 1) := by decide +kernel
theorem dX2_follow_130 : decode cX2_follow 130 = .ok (.aload_n 0, 1) := by decide +kernel
theorem dX2_follow_131 : decode cX2_follow 131 = .ok (.getfield 39, 3) := by decide +kernel
theorem dX2_follow_134 : decode cX2_follow 134 = .ok (.invokevirtual 64, 3) := by decide +kernel
theorem dX2_follow_137 : decode cX2_follow 137 = .ok (.ifCond .eq 8, 3) := by decide +kernel
theorem dX2_follow_140 : decode cX2_follow 140 = .ok (.bipush (-6), 2) := by decide +kernel
theorem dX2_follow_142 : decode cX2_follow 142 = .ok (.goto 4, 3) := by decide +kernel
theorem dX2_follow_145 : decode cX2_follow 145 = .ok (.iconst 0, 1) := by decide +kernel
theorem dX2_follow_146 : decode cX2_follow 146 = .ok (.iastore, 1) := by decide +kernel
theorem dX2_follow_147 : decode cX2_follow 147 = .ok (.aload_n 0, 1) := by decide +kernel
theorem dX2_follow_148 : decode cX2_follow 148 = .ok (.getfield 39, 3) := by decide +kernel
theorem dX2_follow_151 : decode cX2_follow 151 = .ok (.invokevirtual 64, 3) := by decide +kernel
theorem dX2_follow_154 : decode cX2_follow 154 = .ok (.ifCond .eq 6, 3) := by decide +kernel
theorem dX2_follow_157 : decode cX2_follow 157 = .ok (.bipush (-6), 2) := by decide +kernel
theorem dX2_follow_159 : decode cX2_follow 159 = .ok (.ireturn, 1) := by decide +kernel
theorem dX2_follow_160 : decode cX2_follow 160 = .ok (.aload_n 0, 1) := by decide +kernel
theorem dX2_follow_161 : decode cX2_follow 161 = .ok (.getfield 19, 3) := by decide +kernel
theorem dX2_follow_164 : decode cX2_follow 164 = .ok (.iload_n 2, 1) := by decide +kernel
theorem dX2_follow_165 : decode cX2_follow 165 = .ok (.aload_n 0, 1) := by decide +kernel
theorem dX2_follow_166 : decode cX2_follow 166 = .ok (.getfield 39, 3) := by decide +kernel
theorem dX2_follow_169 : decode cX2_follow 169 = .ok (.invokevirtual 68, 3) := by decide +kernel
theorem dX2_follow_172 : decode cX2_follow 172 = .ok (.iastore, 1) := by decide +kernel
theorem dX2_follow_173 : decode cX2_follow 173 = .ok (.aload_n 0, 1) := by decide +kernel
theorem dX2_follow_174 : decode cX2_follow 174 = .ok (.getfield 22, 3) := by decide +kernel
theorem dX2_follow_177 : decode cX2_follow 177 = .ok (.iload_n 2, 1) := by decide +kernel
theorem dX2_follow_178 : decode cX2_follow 178 = .ok (.aload_n 0, 1) := by decide +kernel
theorem dX2_follow_179 : decode cX2_follow 179 = .ok (.getfield 39, 3) := by decide +kernel
theorem dX2_follow_182 : decode cX2_follow 182 = .ok (.invokevirtual 72, 3) := by decide +kernel
theorem dX2_follow_185 : decode cX2_follow 185 = .ok (.ifCond .eq 19, 3) := by decide +kernel
theorem dX2_follow_188 : decode cX2_follow 188 = .ok (.aload_n 0, 1) := by decide +kernel
theorem dX2_follow_189 : decode cX2_follow 189 = .ok (.getfield 39, 3) := by decide +kernel
theorem dX2_follow_192 : decode cX2_follow 192 = .ok (.aload_n 0, 1) := by decide +kernel
theorem dX2_follow_193 : decode cX2_follow 193 = .ok (.getfield 36, 3) := by decide +kernel
theorem dX2_follow_196 : decode cX2_follow 196 = .ok (.iload_n 2, 1) := by decide +kernel
theorem dX2_follow_197 : decode cX2_follow 197 = .ok (.aaload, 1) := by decide +kernel
theorem dX2_follow_198 : decode cX2_follow 198 = .ok (.invokevirtual 75, 3) := by decide +kernel
theorem dX2_follow_201 : decode cX2_follow 201 = .ok (.goto 4, 3) := by decide +kernel
theorem dX2_follow_204 : decode cX2_follow 204 = .ok (.iconst (-1), 1) := by decide +kernel
theorem dX2_follow_205 : decode cX2_follow 205 = .ok (.iastore, 1) := by decide +kernel
theorem dX2_follow_206 : decode cX2_follow 206 = .ok (.aload_n 0, 1) := by decide +kernel
theorem dX2_follow_207 : decode cX2_follow 207 = .ok (.getfield 25, 3) := by decide +kernel
theorem dX2_follow_210 : decode cX2_follow 210 = .ok (.iload_n 2, 1) := by decide +kernel
theorem dX2_follow_211 : decode cX2_follow 211 = .ok (.aload_n 0, 1) := by decide +kernel
theorem dX2_follow_212 : decode cX2_follow 212 = .ok (.getfield 39, 3) := by decide +kernel
theorem dX2_follow_215 : decode cX2_follow 215 = .ok (.invokevirtual 72, 3) := by decide +kernel
theorem dX2_follow_218 : decode cX2_follow 218 = .ok (.ifCond .eq 13, 3) := by decide +kernel
theorem dX2_follow_221 : decode cX2_follow 221 = .ok (.aload_n 0, 1) := by decide +kernel
theorem dX2_follow_222 : decode cX2_follow 222 = .ok (.getfield 39, 3) := by decide +kernel
theorem dX2_follow_225 : decode cX2_follow 225 = .ok (.invokevirtual 79, 3) := by decide +kernel
theorem dX2_follow_228 : decode cX2_follow 228 = .ok (.goto 4, 3) := by decide +kernel
theorem dX2_follow_231 : decode cX2_follow 231 = .ok (.iconst (-1), 1) := by decide +kernel
theorem dX2_follow_232 : decode cX2_follow 232 = .ok (.iastore, 1) := by decide +kernel
theorem dX2_follow_233 : decode cX2_follow 233 = .ok (.iconst 0, 1) := by decide +kernel
theorem dX2_follow_234 : decode cX2_follow 234 = .ok (.ireturn, 1) := by decide +kernel
theorem dX2_howManyMet_0 : decode cX2_howManyMet 0 = .ok (.iload_n 1, 1) := by decide +kernel
theorem dX2_howManyMet_1 : decode cX2_howManyMet 1 = .ok (.invokestatic 43, 3) := by decide +kernel
theorem dX2_howManyMet_4 : decode cX2_howManyMet 4 = .ok (.ifCond .eq 7, 3) := by decide +kernel
theorem dX2_howManyMet_7 : decode cX2_howManyMet 7 = .ok (.iconst (-1), 1) := by decide +kernel
theorem dX2_howManyMet_8 : decode cX2_howManyMet 8 = .ok (.goto 9, 3) := by decide +kernel
theorem dX2_howManyMet_11 : decode cX2_howManyMet 11 = .ok (.aload_n 0, 1) := by decide +kernel
theorem dX2_howManyMet_12 : decode cX2_howManyMet 12 = .ok (.getfield 19, 3) := by decide +kernel
theorem dX2_howManyMet_15 : decode cX2_howManyMet 15 = .ok (.iload_n 1, 1) := by decide +kernel
theorem dX2_howManyMet_16 : decode cX2_howManyMet 16 = .ok (.iaload, 1) := by decide +kernel
theorem dX2_howManyMet_17 : decode cX2_howManyMet 17 = .ok (.ireturn, 1) := by decide +kernel
theorem dX2_fewestPuttings_0 : decode cX2_fewestPuttings 0 = .ok (.iload_n 1, 1) := by decide +kernel
theorem dX2_fewestPuttings_1 : decode cX2_fewestPuttings 1 = .ok (.invokestatic 43, 3) := by decide +kernel
theorem dX2_fewestPuttings_4 : decode cX2_fewestPuttings 4 = .ok (.ifCond .eq 7, 3) := by decide +kernel
theorem dX2_fewestPuttings_7 : decode cX2_fewestPuttings 7 = .ok (.iconst (-1), 1) := by decide +kernel
theorem dX2_fewestPuttings_8 : decode cX2_fewestPuttings 8 = .ok (.goto 9, 3) := by decide +kernel
theorem dX2_fewestPuttings_11 : decode cX2_fewestPuttings 11 = .ok (.aload_n 0, 1) := by decide +kernel
theorem dX2_fewestPuttings_12 : decode cX2_fewestPuttings 12 = .ok (.getfield 22, 3) := by decide +kernel
theorem dX2_fewestPuttings_15 : decode cX2_fewestPuttings 15 = .ok (.iload_n 1, 1) := by decide +kernel
theorem dX2_fewestPuttings_16 : decode cX2_fewestPuttings 16 = .ok (.iaload, 1) := by decide +kernel
theorem dX2_fewestPuttings_17 : decode cX2_fewestPuttings 17 = .ok (.ireturn, 1) := by decide +kernel
theorem dX2_ringOrFree_0 : decode cX2_ringOrFree 0 = .ok (.iload_n 1, 1) := by decide +kernel
theorem dX2_ringOrFree_1 : decode cX2_ringOrFree 1 = .ok (.invokestatic 43, 3) := by decide +kernel
theorem dX2_ringOrFree_4 : decode cX2_ringOrFree 4 = .ok (.ifCond .eq 7, 3) := by decide +kernel
theorem dX2_ringOrFree_7 : decode cX2_ringOrFree 7 = .ok (.iconst (-1), 1) := by decide +kernel
theorem dX2_ringOrFree_8 : decode cX2_ringOrFree 8 = .ok (.goto 9, 3) := by decide +kernel
theorem dX2_ringOrFree_11 : decode cX2_ringOrFree 11 = .ok (.aload_n 0, 1) := by decide +kernel
theorem dX2_ringOrFree_12 : decode cX2_ringOrFree 12 = .ok (.getfield 25, 3) := by decide +kernel
theorem dX2_ringOrFree_15 : decode cX2_ringOrFree 15 = .ok (.iload_n 1, 1) := by decide +kernel
theorem dX2_ringOrFree_16 : decode cX2_ringOrFree 16 = .ok (.iaload, 1) := by decide +kernel
theorem dX2_ringOrFree_17 : decode cX2_ringOrFree 17 = .ok (.ireturn, 1) := by decide +kernel
theorem dX2_chosen_0 : decode cX2_chosen 0 = .ok (.iload_n 1, 1) := by decide +kernel
theorem dX2_chosen_1 : decode cX2_chosen 1 = .ok (.invokestatic 43, 3) := by decide +kernel
theorem dX2_chosen_4 : decode cX2_chosen 4 = .ok (.ifCond .ne 33, 3) := by decide +kernel
theorem dX2_chosen_7 : decode cX2_chosen 7 = .ok (.iload_n 2, 1) := by decide +kernel
theorem dX2_chosen_8 : decode cX2_chosen 8 = .ok (.ifCond .lt 29, 3) := by decide +kernel
theorem dX2_chosen_11 : decode cX2_chosen 11 = .ok (.iload_n 2, 1) := by decide +kernel
theorem dX2_chosen_12 : decode cX2_chosen 12 = .ok (.aload_n 0, 1) := by decide +kernel
theorem dX2_chosen_13 : decode cX2_chosen 13 = .ok (.getfield 22, 3) := by decide +kernel
theorem dX2_chosen_16 : decode cX2_chosen 16 = .ok (.iload_n 1, 1) := by decide +kernel
theorem dX2_chosen_17 : decode cX2_chosen 17 = .ok (.iaload, 1) := by decide +kernel
theorem dX2_chosen_18 : decode cX2_chosen 18 = .ok (.if_icmp .ge 19, 3) := by decide +kernel
theorem dX2_chosen_21 : decode cX2_chosen 21 = .ok (.aload_n 0, 1) := by decide +kernel
theorem dX2_chosen_22 : decode cX2_chosen 22 = .ok (.getfield 22, 3) := by decide +kernel
theorem dX2_chosen_25 : decode cX2_chosen 25 = .ok (.iload_n 1, 1) := by decide +kernel
theorem dX2_chosen_26 : decode cX2_chosen 26 = .ok (.iaload, 1) := by decide +kernel
theorem dX2_chosen_27 : decode cX2_chosen 27 = .ok (.aload_n 0, 1) := by decide +kernel
theorem dX2_chosen_28 : decode cX2_chosen 28 = .ok (.getfield 36, 3) := by decide +kernel
theorem dX2_chosen_31 : decode cX2_chosen 31 = .ok (.iload_n 1, 1) := by decide +kernel
theorem dX2_chosen_32 : decode cX2_chosen 32 = .ok (.aaload, 1) := by decide +kernel
theorem dX2_chosen_33 : decode cX2_chosen 33 = .ok (.arraylength, 1) := by decide +kernel
theorem dX2_chosen_34 : decode cX2_chosen 34 = .ok (.if_icmp .le 5, 3) := by decide +kernel
theorem dX2_chosen_37 : decode cX2_chosen 37 = .ok (.iconst (-1), 1) := by decide +kernel
theorem dX2_chosen_38 : decode cX2_chosen 38 = .ok (.ireturn, 1) := by decide +kernel
theorem dX2_chosen_39 : decode cX2_chosen 39 = .ok (.aload_n 0, 1) := by decide +kernel
theorem dX2_chosen_40 : decode cX2_chosen 40 = .ok (.getfield 36, 3) := by decide +kernel
theorem dX2_chosen_43 : decode cX2_chosen 43 = .ok (.iload_n 1, 1) := by decide +kernel
theorem dX2_chosen_44 : decode cX2_chosen 44 = .ok (.aaload, 1) := by decide +kernel
theorem dX2_chosen_45 : decode cX2_chosen 45 = .ok (.aload_n 0, 1) := by decide +kernel
theorem dX2_chosen_46 : decode cX2_chosen 46 = .ok (.getfield 22, 3) := by decide +kernel
theorem dX2_chosen_49 : decode cX2_chosen 49 = .ok (.iload_n 1, 1) := by decide +kernel
theorem dX2_chosen_50 : decode cX2_chosen 50 = .ok (.iaload, 1) := by decide +kernel
theorem dX2_chosen_51 : decode cX2_chosen 51 = .ok (.iconst 1, 1) := by decide +kernel
theorem dX2_chosen_52 : decode cX2_chosen 52 = .ok (.isub, 1) := by decide +kernel
theorem dX2_chosen_53 : decode cX2_chosen 53 = .ok (.iload_n 2, 1) := by decide +kernel
theorem dX2_chosen_54 : decode cX2_chosen 54 = .ok (.isub, 1) := by decide +kernel
theorem dX2_chosen_55 : decode cX2_chosen 55 = .ok (.iaload, 1) := by decide +kernel
theorem dX2_chosen_56 : decode cX2_chosen 56 = .ok (.iconst 3, 1) := by decide +kernel
theorem dX2_chosen_57 : decode cX2_chosen 57 = .ok (.iand, 1) := by decide +kernel
theorem dX2_chosen_58 : decode cX2_chosen 58 = .ok (.ireturn, 1) := by decide +kernel
theorem dX2_foundByIt_0 : decode cX2_foundByIt 0 = .ok (.iload_n 1, 1) := by decide +kernel
theorem dX2_foundByIt_1 : decode cX2_foundByIt 1 = .ok (.invokestatic 43, 3) := by decide +kernel
theorem dX2_foundByIt_4 : decode cX2_foundByIt 4 = .ok (.ifCond .ne 20, 3) := by decide +kernel
theorem dX2_foundByIt_7 : decode cX2_foundByIt 7 = .ok (.iload_n 2, 1) := by decide +kernel
theorem dX2_foundByIt_8 : decode cX2_foundByIt 8 = .ok (.invokestatic 43, 3) := by decide +kernel
theorem dX2_foundByIt_11 : decode cX2_foundByIt 11 = .ok (.ifCond .ne 13, 3) := by decide +kernel
theorem dX2_foundByIt_14 : decode cX2_foundByIt 14 = .ok (.aload_n 0, 1) := by decide +kernel
theorem dX2_foundByIt_15 : decode cX2_foundByIt 15 = .ok (.getfield 22, 3) := by decide +kernel
theorem dX2_foundByIt_18 : decode cX2_foundByIt 18 = .ok (.iload_n 1, 1) := by decide +kernel
theorem dX2_foundByIt_19 : decode cX2_foundByIt 19 = .ok (.iaload, 1) := by decide +kernel
theorem dX2_foundByIt_20 : decode cX2_foundByIt 20 = .ok (.iconst (-1), 1) := by decide +kernel
theorem dX2_foundByIt_21 : decode cX2_foundByIt 21 = .ok (.if_icmp .ne 5, 3) := by decide +kernel
theorem dX2_foundByIt_24 : decode cX2_foundByIt 24 = .ok (.iconst (-1), 1) := by decide +kernel
theorem dX2_foundByIt_25 : decode cX2_foundByIt 25 = .ok (.ireturn, 1) := by decide +kernel
theorem dX2_foundByIt_26 : decode cX2_foundByIt 26 = .ok (.aload_n 0, 1) := by decide +kernel
theorem dX2_foundByIt_27 : decode cX2_foundByIt 27 = .ok (.iload_n 1, 1) := by decide +kernel
theorem dX2_foundByIt_28 : decode cX2_foundByIt 28 = .ok (.invokevirtual 82, 3) := by decide +kernel
theorem dX2_foundByIt_31 : decode cX2_foundByIt 31 = .ok (.ifCond .ne 6, 3) := by decide +kernel
theorem dX2_foundByIt_34 : decode cX2_foundByIt 34 = .ok (.bipush (-6), 2) := by decide +kernel
theorem dX2_foundByIt_36 : decode cX2_foundByIt 36 = .ok (.ireturn, 1) := by decide +kernel
theorem dX2_foundByIt_37 : decode cX2_foundByIt 37 = .ok (.iload_n 3, 1) := by decide +kernel
theorem dX2_foundByIt_38 : decode cX2_foundByIt 38 = .ok (.iconst (-1), 1) := by decide +kernel
theorem dX2_foundByIt_39 : decode cX2_foundByIt 39 = .ok (.if_icmp .ne 10, 3) := by decide +kernel
theorem dX2_foundByIt_42 : decode cX2_foundByIt 42 = .ok (.aload_n 0, 1) := by decide +kernel
theorem dX2_foundByIt_43 : decode cX2_foundByIt 43 = .ok (.getfield 33, 3) := by decide +kernel
theorem dX2_foundByIt_46 : decode cX2_foundByIt 46 = .ok (.iload_n 2, 1) := by decide +kernel
theorem dX2_foundByIt_47 : decode cX2_foundByIt 47 = .ok (.iaload, 1) := by decide +kernel
theorem dX2_foundByIt_48 : decode cX2_foundByIt 48 = .ok (.ireturn, 1) := by decide +kernel
theorem dX2_foundByIt_49 : decode cX2_foundByIt 49 = .ok (.iload_n 3, 1) := by decide +kernel
theorem dX2_foundByIt_50 : decode cX2_foundByIt 50 = .ok (.ifCond .lt 13, 3) := by decide +kernel
theorem dX2_foundByIt_53 : decode cX2_foundByIt 53 = .ok (.iload_n 3, 1) := by decide +kernel
theorem dX2_foundByIt_54 : decode cX2_foundByIt 54 = .ok (.aload_n 0, 1) := by decide +kernel
theorem dX2_foundByIt_55 : decode cX2_foundByIt 55 = .ok (.getfield 33, 3) := by decide +kernel
theorem dX2_foundByIt_58 : decode cX2_foundByIt 58 = .ok (.iload_n 2, 1) := by decide +kernel
theorem dX2_foundByIt_59 : decode cX2_foundByIt 59 = .ok (.iaload, 1) := by decide +kernel
theorem dX2_foundByIt_60 : decode cX2_foundByIt 60 = .ok (.if_icmp .lt 7, 3) := by decide +kernel
theorem dX2_foundByIt_63 : decode cX2_foundByIt 63 = .ok (.iconst (-1), 1) := by decide +kernel
theorem dX2_foundByIt_64 : decode cX2_foundByIt 64 = .ok (.goto 20, 3) := by decide +kernel
theorem dX2_foundByIt_67 : decode cX2_foundByIt 67 = .ok (.aload_n 0, 1) := by decide +kernel
theorem dX2_foundByIt_68 : decode cX2_foundByIt 68 = .ok (.getfield 30, 3) := by decide +kernel
theorem dX2_foundByIt_71 : decode cX2_foundByIt 71 = .ok (.iload_n 2, 1) := by decide +kernel
theorem dX2_foundByIt_72 : decode cX2_foundByIt 72 = .ok (.aaload, 1) := by decide +kernel
theorem dX2_foundByIt_73 : decode cX2_foundByIt 73 = .ok (.aload_n 0, 1) := by decide +kernel
theorem dX2_foundByIt_74 : decode cX2_foundByIt 74 = .ok (.getfield 33, 3) := by decide +kernel
theorem dX2_foundByIt_77 : decode cX2_foundByIt 77 = .ok (.iload_n 2, 1) := by decide +kernel
theorem dX2_foundByIt_78 : decode cX2_foundByIt 78 = .ok (.iaload, 1) := by decide +kernel
theorem dX2_foundByIt_79 : decode cX2_foundByIt 79 = .ok (.iconst 1, 1) := by decide +kernel
theorem dX2_foundByIt_80 : decode cX2_foundByIt 80 = .ok (.isub, 1) := by decide +kernel
theorem dX2_foundByIt_81 : decode cX2_foundByIt 81 = .ok (.iload_n 3, 1) := by decide +kernel
theorem dX2_foundByIt_82 : decode cX2_foundByIt 82 = .ok (.isub, 1) := by decide +kernel
theorem dX2_foundByIt_83 : decode cX2_foundByIt 83 = .ok (.iaload, 1) := by decide +kernel
theorem dX2_foundByIt_84 : decode cX2_foundByIt 84 = .ok (.ireturn, 1) := by decide +kernel
theorem dX2_buildWords_0 : decode cX2_buildWords 0 = .ok (.aload_n 0, 1) := by decide +kernel
theorem dX2_buildWords_1 : decode cX2_buildWords 1 = .ok (.getfield 33, 3) := by decide +kernel
theorem dX2_buildWords_4 : decode cX2_buildWords 4 = .ok (.iconst 0, 1) := by decide +kernel
theorem dX2_buildWords_5 : decode cX2_buildWords 5 = .ok (.invokestatic 85, 3) := by decide +kernel
theorem dX2_buildWords_8 : decode cX2_buildWords 8 = .ok (.iconst 0, 1) := by decide +kernel
theorem dX2_buildWords_9 : decode cX2_buildWords 9 = .ok (.istore_n 2, 1) := by decide +kernel
theorem dX2_buildWords_10 : decode cX2_buildWords 10 = .ok (.iload_n 2, 1) := by decide +kernel
theorem dX2_buildWords_11 : decode cX2_buildWords 11 = .ok (.aload_n 0, 1) := by decide +kernel
theorem dX2_buildWords_12 : decode cX2_buildWords 12 = .ok (.getfield 22, 3) := by decide +kernel
theorem dX2_buildWords_15 : decode cX2_buildWords 15 = .ok (.iload_n 1, 1) := by decide +kernel
theorem dX2_buildWords_16 : decode cX2_buildWords 16 = .ok (.iaload, 1) := by decide +kernel
theorem dX2_buildWords_17 : decode cX2_buildWords 17 = .ok (.if_icmp .ge 109, 3) := by decide +kernel
theorem dX2_buildWords_20 : decode cX2_buildWords 20 = .ok (.iload_n 2, 1) := by decide +kernel
theorem dX2_buildWords_21 : decode cX2_buildWords 21 = .ok (.aload_n 0, 1) := by decide +kernel
theorem dX2_buildWords_22 : decode cX2_buildWords 22 = .ok (.getfield 36, 3) := by decide +kernel
theorem dX2_buildWords_25 : decode cX2_buildWords 25 = .ok (.iload_n 1, 1) := by decide +kernel
theorem dX2_buildWords_26 : decode cX2_buildWords 26 = .ok (.aaload, 1) := by decide +kernel
theorem dX2_buildWords_27 : decode cX2_buildWords 27 = .ok (.arraylength, 1) := by decide +kernel
theorem dX2_buildWords_28 : decode cX2_buildWords 28 = .ok (.if_icmp .ge 98, 3) := by decide +kernel
theorem dX2_buildWords_31 : decode cX2_buildWords 31 = .ok (.aload_n 0, 1) := by decide +kernel
theorem dX2_buildWords_32 : decode cX2_buildWords 32 = .ok (.getfield 36, 3) := by decide +kernel
theorem dX2_buildWords_35 : decode cX2_buildWords 35 = .ok (.iload_n 1, 1) := by decide +kernel
theorem dX2_buildWords_36 : decode cX2_buildWords 36 = .ok (.aaload, 1) := by decide +kernel
theorem dX2_buildWords_37 : decode cX2_buildWords 37 = .ok (.iload_n 2, 1) := by decide +kernel
theorem dX2_buildWords_38 : decode cX2_buildWords 38 = .ok (.iaload, 1) := by decide +kernel
theorem dX2_buildWords_39 : decode cX2_buildWords 39 = .ok (.iconst 2, 1) := by decide +kernel
theorem dX2_buildWords_40 : decode cX2_buildWords 40 = .ok (.ishr, 1) := by decide +kernel
theorem dX2_buildWords_41 : decode cX2_buildWords 41 = .ok (.bipush 7, 2) := by decide +kernel
theorem dX2_buildWords_43 : decode cX2_buildWords 43 = .ok (.iand, 1) := by decide +kernel
theorem dX2_buildWords_44 : decode cX2_buildWords 44 = .ok (.invokestatic 91, 3) := by decide +kernel
theorem dX2_buildWords_47 : decode cX2_buildWords 47 = .ok (.istore_n 3, 1) := by decide +kernel
theorem dX2_buildWords_48 : decode cX2_buildWords 48 = .ok (.aload_n 0, 1) := by decide +kernel
theorem dX2_buildWords_49 : decode cX2_buildWords 49 = .ok (.getfield 36, 3) := by decide +kernel
theorem dX2_buildWords_52 : decode cX2_buildWords 52 = .ok (.iload_n 1, 1) := by decide +kernel
theorem dX2_buildWords_53 : decode cX2_buildWords 53 = .ok (.aaload, 1) := by decide +kernel
theorem dX2_buildWords_54 : decode cX2_buildWords 54 = .ok (.iload_n 2, 1) := by decide +kernel
theorem dX2_buildWords_55 : decode cX2_buildWords 55 = .ok (.iaload, 1) := by decide +kernel
theorem dX2_buildWords_56 : decode cX2_buildWords 56 = .ok (.iconst 5, 1) := by decide +kernel
theorem dX2_buildWords_57 : decode cX2_buildWords 57 = .ok (.ishr, 1) := by decide +kernel
theorem dX2_buildWords_58 : decode cX2_buildWords 58 = .ok (.iconst 1, 1) := by decide +kernel
theorem dX2_buildWords_59 : decode cX2_buildWords 59 = .ok (.isub, 1) := by decide +kernel
theorem dX2_buildWords_60 : decode cX2_buildWords 60 = .ok (.istore 4, 2) := by decide +kernel
theorem dX2_buildWords_62 : decode cX2_buildWords 62 = .ok (.iload 4, 2) := by decide +kernel
theorem dX2_buildWords_64 : decode cX2_buildWords 64 = .ok (.iconst (-1), 1) := by decide +kernel
theorem dX2_buildWords_65 : decode cX2_buildWords 65 = .ok (.if_icmp .ne 13, 3) := by decide +kernel
theorem dX2_buildWords_68 : decode cX2_buildWords 68 = .ok (.aload_n 0, 1) := by decide +kernel
theorem dX2_buildWords_69 : decode cX2_buildWords 69 = .ok (.getfield 33, 3) := by decide +kernel
theorem dX2_buildWords_72 : decode cX2_buildWords 72 = .ok (.iload_n 3, 1) := by decide +kernel
theorem dX2_buildWords_73 : decode cX2_buildWords 73 = .ok (.iconst 0, 1) := by decide +kernel
theorem dX2_buildWords_74 : decode cX2_buildWords 74 = .ok (.iastore, 1) := by decide +kernel
theorem dX2_buildWords_75 : decode cX2_buildWords 75 = .ok (.goto 31, 3) := by decide +kernel
theorem dX2_buildWords_78 : decode cX2_buildWords 78 = .ok (.iload 4, 2) := by decide +kernel
theorem dX2_buildWords_80 : decode cX2_buildWords 80 = .ok (.invokestatic 95, 3) := by decide +kernel
theorem dX2_buildWords_83 : decode cX2_buildWords 83 = .ok (.ifCond .eq 16, 3) := by decide +kernel
theorem dX2_buildWords_86 : decode cX2_buildWords 86 = .ok (.aload_n 0, 1) := by decide +kernel
theorem dX2_buildWords_87 : decode cX2_buildWords 87 = .ok (.iload_n 3, 1) := by decide +kernel
theorem dX2_buildWords_88 : decode cX2_buildWords 88 = .ok (.iload 4, 2) := by decide +kernel
theorem dX2_buildWords_90 : decode cX2_buildWords 90 = .ok (.invokestatic 91, 3) := by decide +kernel
theorem dX2_buildWords_93 : decode cX2_buildWords 93 = .ok (.invokevirtual 98, 3) := by decide +kernel
theorem dX2_buildWords_96 : decode cX2_buildWords 96 = .ok (.goto 10, 3) := by decide +kernel
theorem dX2_buildWords_99 : decode cX2_buildWords 99 = .ok (.aload_n 0, 1) := by decide +kernel
theorem dX2_buildWords_100 : decode cX2_buildWords 100 = .ok (.iload_n 3, 1) := by decide +kernel
theorem dX2_buildWords_101 : decode cX2_buildWords 101 = .ok (.iload 4, 2) := by decide +kernel
theorem dX2_buildWords_103 : decode cX2_buildWords 103 = .ok (.invokevirtual 102, 3) := by decide +kernel
theorem dX2_buildWords_106 : decode cX2_buildWords 106 = .ok (.aload_n 0, 1) := by decide +kernel
theorem dX2_buildWords_107 : decode cX2_buildWords 107 = .ok (.getfield 33, 3) := by decide +kernel
theorem dX2_buildWords_110 : decode cX2_buildWords 110 = .ok (.iload_n 3, 1) := by decide +kernel
theorem dX2_buildWords_111 : decode cX2_buildWords 111 = .ok (.iaload, 1) := by decide +kernel
theorem dX2_buildWords_112 : decode cX2_buildWords 112 = .ok (.sipush 300, 3) := by decide +kernel
theorem dX2_buildWords_115 : decode cX2_buildWords 115 = .ok (.if_icmp .le 5, 3) := by decide +kernel
theorem dX2_buildWords_118 : decode cX2_buildWords 118 = .ok (.iconst 0, 1) := by decide +kernel
theorem dX2_buildWords_119 : decode cX2_buildWords 119 = .ok (.ireturn, 1) := by decide +kernel
theorem dX2_buildWords_120 : decode cX2_buildWords 120 = .ok (.iinc 2 1, 3) := by decide +kernel
theorem dX2_buildWords_123 : decode cX2_buildWords 123 = .ok (.goto (-113), 3) := by decide +kernel
theorem dX2_buildWords_126 : decode cX2_buildWords 126 = .ok (.iconst 1, 1) := by decide +kernel
theorem dX2_buildWords_127 : decode cX2_buildWords 127 = .ok (.ireturn, 1) := by decide +kernel
theorem dX2_prependLetter_0 : decode cX2_prependLetter 0 = .ok (.aload_n 0, 1) := by decide +kernel
theorem dX2_prependLetter_1 : decode cX2_prependLetter 1 = .ok (.getfield 33, 3) := by decide +kernel
theorem dX2_prependLetter_4 : decode cX2_prependLetter 4 = .ok (.iload_n 1, 1) := by decide +kernel
theorem dX2_prependLetter_5 : decode cX2_prependLetter 5 = .ok (.iaload, 1) := by decide +kernel
theorem dX2_prependLetter_6 : decode cX2_prependLetter 6 = .ok (.sipush 300, 3) := by decide +kernel
theorem dX2_prependLetter_9 : decode cX2_prependLetter 9 = .ok (.if_icmp .ge 17, 3) := by decide +kernel
theorem dX2_prependLetter_12 : decode cX2_prependLetter 12 = .ok (.aload_n 0, 1) := by decide +kernel
theorem dX2_prependLetter_13 : decode cX2_prependLetter 13 = .ok (.getfield 30, 3) := by decide +kernel
theorem dX2_prependLetter_16 : decode cX2_prependLetter 16 = .ok (.iload_n 1, 1) := by decide +kernel
theorem dX2_prependLetter_17 : decode cX2_prependLetter 17 = .ok (.aaload, 1) := by decide +kernel
theorem dX2_prependLetter_18 : decode cX2_prependLetter 18 = .ok (.aload_n 0, 1) := by decide +kernel
theorem dX2_prependLetter_19 : decode cX2_prependLetter 19 = .ok (.getfield 33, 3) := by decide +kernel
theorem dX2_prependLetter_22 : decode cX2_prependLetter 22 = .ok (.iload_n 1, 1) := by decide +kernel
theorem dX2_prependLetter_23 : decode cX2_prependLetter 23 = .ok (.iaload, 1) := by decide +kernel
theorem dX2_prependLetter_24 : decode cX2_prependLetter 24 = .ok (.iload_n 2, 1) := by decide +kernel
theorem dX2_prependLetter_25 : decode cX2_prependLetter 25 = .ok (.iastore, 1) := by decide +kernel
theorem dX2_prependLetter_26 : decode cX2_prependLetter 26 = .ok (.aload_n 0, 1) := by decide +kernel
theorem dX2_prependLetter_27 : decode cX2_prependLetter 27 = .ok (.getfield 33, 3) := by decide +kernel
theorem dX2_prependLetter_30 : decode cX2_prependLetter 30 = .ok (.iload_n 1, 1) := by decide +kernel
theorem dX2_prependLetter_31 : decode cX2_prependLetter 31 = .ok (.dup2, 1) := by decide +kernel
theorem dX2_prependLetter_32 : decode cX2_prependLetter 32 = .ok (.iaload, 1) := by decide +kernel
theorem dX2_prependLetter_33 : decode cX2_prependLetter 33 = .ok (.iconst 1, 1) := by decide +kernel
theorem dX2_prependLetter_34 : decode cX2_prependLetter 34 = .ok (.iadd, 1) := by decide +kernel
theorem dX2_prependLetter_35 : decode cX2_prependLetter 35 = .ok (.iastore, 1) := by decide +kernel
theorem dX2_prependLetter_36 : decode cX2_prependLetter 36 = .ok (.return_, 1) := by decide +kernel
theorem dX2_prependWord_0 : decode cX2_prependWord 0 = .ok (.aload_n 0, 1) := by decide +kernel
theorem dX2_prependWord_1 : decode cX2_prependWord 1 = .ok (.getfield 33, 3) := by decide +kernel
theorem dX2_prependWord_4 : decode cX2_prependWord 4 = .ok (.iload_n 1, 1) := by decide +kernel
theorem dX2_prependWord_5 : decode cX2_prependWord 5 = .ok (.iaload, 1) := by decide +kernel
theorem dX2_prependWord_6 : decode cX2_prependWord 6 = .ok (.aload_n 0, 1) := by decide +kernel
theorem dX2_prependWord_7 : decode cX2_prependWord 7 = .ok (.getfield 33, 3) := by decide +kernel
theorem dX2_prependWord_10 : decode cX2_prependWord 10 = .ok (.iload_n 2, 1) := by decide +kernel
theorem dX2_prependWord_11 : decode cX2_prependWord 11 = .ok (.iaload, 1) := by decide +kernel
theorem dX2_prependWord_12 : decode cX2_prependWord 12 = .ok (.iadd, 1) := by decide +kernel
theorem dX2_prependWord_13 : decode cX2_prependWord 13 = .ok (.istore_n 3, 1) := by decide +kernel
theorem dX2_prependWord_14 : decode cX2_prependWord 14 = .ok (.iload_n 3, 1) := by decide +kernel
theorem dX2_prependWord_15 : decode cX2_prependWord 15 = .ok (.sipush 300, 3) := by decide +kernel
theorem dX2_prependWord_18 : decode cX2_prependWord 18 = .ok (.if_icmp .gt 31, 3) := by decide +kernel
theorem dX2_prependWord_21 : decode cX2_prependWord 21 = .ok (.aload_n 0, 1) := by decide +kernel
theorem dX2_prependWord_22 : decode cX2_prependWord 22 = .ok (.getfield 30, 3) := by decide +kernel
theorem dX2_prependWord_25 : decode cX2_prependWord 25 = .ok (.iload_n 2, 1) := by decide +kernel
theorem dX2_prependWord_26 : decode cX2_prependWord 26 = .ok (.aaload, 1) := by decide +kernel
theorem dX2_prependWord_27 : decode cX2_prependWord 27 = .ok (.iconst 0, 1) := by decide +kernel
theorem dX2_prependWord_28 : decode cX2_prependWord 28 = .ok (.aload_n 0, 1) := by decide +kernel
theorem dX2_prependWord_29 : decode cX2_prependWord 29 = .ok (.getfield 30, 3) := by decide +kernel
theorem dX2_prependWord_32 : decode cX2_prependWord 32 = .ok (.iload_n 1, 1) := by decide +kernel
theorem dX2_prependWord_33 : decode cX2_prependWord 33 = .ok (.aaload, 1) := by decide +kernel
theorem dX2_prependWord_34 : decode cX2_prependWord 34 = .ok (.aload_n 0, 1) := by decide +kernel
theorem dX2_prependWord_35 : decode cX2_prependWord 35 = .ok (.getfield 33, 3) := by decide +kernel
theorem dX2_prependWord_38 : decode cX2_prependWord 38 = .ok (.iload_n 1, 1) := by decide +kernel
theorem dX2_prependWord_39 : decode cX2_prependWord 39 = .ok (.iaload, 1) := by decide +kernel
theorem dX2_prependWord_40 : decode cX2_prependWord 40 = .ok (.aload_n 0, 1) := by decide +kernel
theorem dX2_prependWord_41 : decode cX2_prependWord 41 = .ok (.getfield 33, 3) := by decide +kernel
theorem dX2_prependWord_44 : decode cX2_prependWord 44 = .ok (.iload_n 2, 1) := by decide +kernel
theorem dX2_prependWord_45 : decode cX2_prependWord 45 = .ok (.iaload, 1) := by decide +kernel
theorem dX2_prependWord_46 : decode cX2_prependWord 46 = .ok (.invokestatic 105, 3) := by decide +kernel
theorem dX2_prependWord_49 : decode cX2_prependWord 49 = .ok (.aload_n 0, 1) := by decide +kernel
theorem dX2_prependWord_50 : decode cX2_prependWord 50 = .ok (.getfield 33, 3) := by decide +kernel
theorem dX2_prependWord_53 : decode cX2_prependWord 53 = .ok (.iload_n 1, 1) := by decide +kernel
theorem dX2_prependWord_54 : decode cX2_prependWord 54 = .ok (.iload_n 3, 1) := by decide +kernel
theorem dX2_prependWord_55 : decode cX2_prependWord 55 = .ok (.iastore, 1) := by decide +kernel
theorem dX2_prependWord_56 : decode cX2_prependWord 56 = .ok (.return_, 1) := by decide +kernel
theorem dX3_init_0 : decode cX3_init 0 = .ok (.aload_n 0, 1) := by decide +kernel
theorem dX3_init_1 : decode cX3_init 1 = .ok (.invokespecial 3, 3) := by decide +kernel
theorem dX3_init_4 : decode cX3_init 4 = .ok (.aload_n 0, 1) := by decide +kernel
theorem dX3_init_5 : decode cX3_init 5 = .ok (.bipush 8, 2) := by decide +kernel
theorem dX3_init_7 : decode cX3_init 7 = .ok (.anewarray 9, 3) := by decide +kernel
theorem dX3_init_10 : decode cX3_init 10 = .ok (.putfield 11, 3) := by decide +kernel
theorem dX3_init_13 : decode cX3_init 13 = .ok (.aload_n 0, 1) := by decide +kernel
theorem dX3_init_14 : decode cX3_init 14 = .ok (.iconst 0, 1) := by decide +kernel
theorem dX3_init_15 : decode cX3_init 15 = .ok (.putfield 17, 3) := by decide +kernel
theorem dX3_init_18 : decode cX3_init 18 = .ok (.iconst 0, 1) := by decide +kernel
theorem dX3_init_19 : decode cX3_init 19 = .ok (.istore_n 1, 1) := by decide +kernel
theorem dX3_init_20 : decode cX3_init 20 = .ok (.iload_n 1, 1) := by decide +kernel
theorem dX3_init_21 : decode cX3_init 21 = .ok (.aload_n 0, 1) := by decide +kernel
theorem dX3_init_22 : decode cX3_init 22 = .ok (.getfield 11, 3) := by decide +kernel
theorem dX3_init_25 : decode cX3_init 25 = .ok (.arraylength, 1) := by decide +kernel
theorem dX3_init_26 : decode cX3_init 26 = .ok (.if_icmp .ge 22, 3) := by decide +kernel
theorem dX3_init_29 : decode cX3_init 29 = .ok (.aload_n 0, 1) := by decide +kernel
theorem dX3_init_30 : decode cX3_init 30 = .ok (.getfield 11, 3) := by decide +kernel
theorem dX3_init_33 : decode cX3_init 33 = .ok (.iload_n 1, 1) := by decide +kernel
theorem dX3_init_34 : decode cX3_init 34 = .ok (.new 9, 3) := by decide +kernel
theorem dX3_init_37 : decode cX3_init 37 = .ok (.dup, 1) := by decide +kernel
theorem dX3_init_38 : decode cX3_init 38 = .ok (.invokespecial 21, 3) := by decide +kernel
theorem dX3_init_41 : decode cX3_init 41 = .ok (.aastore, 1) := by decide +kernel
theorem dX3_init_42 : decode cX3_init 42 = .ok (.iinc 1 1, 3) := by decide +kernel
theorem dX3_init_45 : decode cX3_init 45 = .ok (.goto (-25), 3) := by decide +kernel
theorem dX3_init_48 : decode cX3_init 48 = .ok (.return_, 1) := by decide +kernel
theorem dX3_begin_0 : decode cX3_begin 0 = .ok (.aload_n 0, 1) := by decide +kernel
theorem dX3_begin_1 : decode cX3_begin 1 = .ok (.iconst 0, 1) := by decide +kernel
theorem dX3_begin_2 : decode cX3_begin 2 = .ok (.putfield 17, 3) := by decide +kernel
theorem dX3_begin_5 : decode cX3_begin 5 = .ok (.aload_n 0, 1) := by decide +kernel
theorem dX3_begin_6 : decode cX3_begin 6 = .ok (.invokevirtual 22, 3) := by decide +kernel
theorem dX3_begin_9 : decode cX3_begin 9 = .ok (.return_, 1) := by decide +kernel
theorem dX3_beginNext_0 : decode cX3_beginNext 0 = .ok (.aload_n 0, 1) := by decide +kernel
theorem dX3_beginNext_1 : decode cX3_beginNext 1 = .ok (.getfield 17, 3) := by decide +kernel
theorem dX3_beginNext_4 : decode cX3_beginNext 4 = .ok (.iconst 4, 1) := by decide +kernel
theorem dX3_beginNext_5 : decode cX3_beginNext 5 = .ok (.if_icmp .lt 4, 3) := by decide +kernel
theorem dX3_beginNext_8 : decode cX3_beginNext 8 = .ok (.return_, 1) := by decide +kernel
theorem dX3_beginNext_9 : decode cX3_beginNext 9 = .ok (.aload_n 0, 1) := by decide +kernel
theorem dX3_beginNext_10 : decode cX3_beginNext 10 = .ok (.dup, 1) := by decide +kernel
theorem dX3_beginNext_11 : decode cX3_beginNext 11 = .ok (.getfield 17, 3) := by decide +kernel
theorem dX3_beginNext_14 : decode cX3_beginNext 14 = .ok (.iconst 1, 1) := by decide +kernel
theorem dX3_beginNext_15 : decode cX3_beginNext 15 = .ok (.iadd, 1) := by decide +kernel
theorem dX3_beginNext_16 : decode cX3_beginNext 16 = .ok (.putfield 17, 3) := by decide +kernel
theorem dX3_beginNext_19 : decode cX3_beginNext 19 = .ok (.aload_n 0, 1) := by decide +kernel
theorem dX3_beginNext_20 : decode cX3_beginNext 20 = .ok (.iconst 0, 1) := by decide +kernel
theorem dX3_beginNext_21 : decode cX3_beginNext 21 = .ok (.invokevirtual 25, 3) := by decide +kernel
theorem dX3_beginNext_24 : decode cX3_beginNext 24 = .ok (.invokevirtual 29, 3) := by decide +kernel
theorem dX3_beginNext_27 : decode cX3_beginNext 27 = .ok (.aload_n 0, 1) := by decide +kernel
theorem dX3_beginNext_28 : decode cX3_beginNext 28 = .ok (.iconst 1, 1) := by decide +kernel
theorem dX3_beginNext_29 : decode cX3_beginNext 29 = .ok (.invokevirtual 25, 3) := by decide +kernel
theorem dX3_beginNext_32 : decode cX3_beginNext 32 = .ok (.invokevirtual 29, 3) := by decide +kernel
theorem dX3_beginNext_35 : decode cX3_beginNext 35 = .ok (.return_, 1) := by decide +kernel
theorem dX3_length_0 : decode cX3_length 0 = .ok (.aload_n 0, 1) := by decide +kernel
theorem dX3_length_1 : decode cX3_length 1 = .ok (.getfield 17, 3) := by decide +kernel
theorem dX3_length_4 : decode cX3_length 4 = .ok (.ireturn, 1) := by decide +kernel
theorem dX3_has_0 : decode cX3_has 0 = .ok (.iload_n 1, 1) := by decide +kernel
theorem dX3_has_1 : decode cX3_has 1 = .ok (.ifCond .lt 15, 3) := by decide +kernel
theorem dX3_has_4 : decode cX3_has 4 = .ok (.iload_n 1, 1) := by decide +kernel
theorem dX3_has_5 : decode cX3_has 5 = .ok (.aload_n 0, 1) := by decide +kernel
theorem dX3_has_6 : decode cX3_has 6 = .ok (.getfield 17, 3) := by decide +kernel
theorem dX3_has_9 : decode cX3_has 9 = .ok (.if_icmp .ge 7, 3) := by decide +kernel
theorem dX3_has_12 : decode cX3_has 12 = .ok (.iconst 1, 1) := by decide +kernel
theorem dX3_has_13 : decode cX3_has 13 = .ok (.goto 4, 3) := by decide +kernel
theorem dX3_has_16 : decode cX3_has 16 = .ok (.iconst 0, 1) := by decide +kernel
theorem dX3_has_17 : decode cX3_has 17 = .ok (.ireturn, 1) := by decide +kernel
theorem dX3_side_0 : decode cX3_side 0 = .ok (.iconst 2, 1) := by decide +kernel
theorem dX3_side_1 : decode cX3_side 1 = .ok (.iload_n 1, 1) := by decide +kernel
theorem dX3_side_2 : decode cX3_side 2 = .ok (.imul, 1) := by decide +kernel
theorem dX3_side_3 : decode cX3_side 3 = .ok (.iload_n 2, 1) := by decide +kernel
theorem dX3_side_4 : decode cX3_side 4 = .ok (.iadd, 1) := by decide +kernel
theorem dX3_side_5 : decode cX3_side 5 = .ok (.istore_n 3, 1) := by decide +kernel
theorem dX3_side_6 : decode cX3_side 6 = .ok (.iload_n 3, 1) := by decide +kernel
theorem dX3_side_7 : decode cX3_side 7 = .ok (.ifCond .lt 21, 3) := by decide +kernel
theorem dX3_side_10 : decode cX3_side 10 = .ok (.iload_n 3, 1) := by decide +kernel
theorem dX3_side_11 : decode cX3_side 11 = .ok (.aload_n 0, 1) := by decide +kernel
theorem dX3_side_12 : decode cX3_side 12 = .ok (.getfield 11, 3) := by decide +kernel
theorem dX3_side_15 : decode cX3_side 15 = .ok (.arraylength, 1) := by decide +kernel
theorem dX3_side_16 : decode cX3_side 16 = .ok (.if_icmp .ge 12, 3) := by decide +kernel
theorem dX3_side_19 : decode cX3_side 19 = .ok (.aload_n 0, 1) := by decide +kernel
theorem dX3_side_20 : decode cX3_side 20 = .ok (.getfield 11, 3) := by decide +kernel
theorem dX3_side_23 : decode cX3_side 23 = .ok (.iload_n 3, 1) := by decide +kernel
theorem dX3_side_24 : decode cX3_side 24 = .ok (.aaload, 1) := by decide +kernel
theorem dX3_side_25 : decode cX3_side 25 = .ok (.goto 9, 3) := by decide +kernel
theorem dX3_side_28 : decode cX3_side 28 = .ok (.aload_n 0, 1) := by decide +kernel
theorem dX3_side_29 : decode cX3_side 29 = .ok (.getfield 11, 3) := by decide +kernel
theorem dX3_side_32 : decode cX3_side 32 = .ok (.iconst 0, 1) := by decide +kernel
theorem dX3_side_33 : decode cX3_side 33 = .ok (.aaload, 1) := by decide +kernel
theorem dX3_side_34 : decode cX3_side 34 = .ok (.areturn, 1) := by decide +kernel
theorem dX3_last_0 : decode cX3_last 0 = .ok (.aload_n 0, 1) := by decide +kernel
theorem dX3_last_1 : decode cX3_last 1 = .ok (.aload_n 0, 1) := by decide +kernel
theorem dX3_last_2 : decode cX3_last 2 = .ok (.getfield 17, 3) := by decide +kernel
theorem dX3_last_5 : decode cX3_last 5 = .ok (.iconst 1, 1) := by decide +kernel
theorem dX3_last_6 : decode cX3_last 6 = .ok (.isub, 1) := by decide +kernel
theorem dX3_last_7 : decode cX3_last 7 = .ok (.iload_n 1, 1) := by decide +kernel
theorem dX3_last_8 : decode cX3_last 8 = .ok (.invokevirtual 32, 3) := by decide +kernel
theorem dX3_last_11 : decode cX3_last 11 = .ok (.areturn, 1) := by decide +kernel
theorem dX3_times_0 : decode cX3_times 0 = .ok (.aload_n 0, 1) := by decide +kernel
theorem dX3_times_1 : decode cX3_times 1 = .ok (.iload_n 1, 1) := by decide +kernel
theorem dX3_times_2 : decode cX3_times 2 = .ok (.iconst 0, 1) := by decide +kernel
theorem dX3_times_3 : decode cX3_times 3 = .ok (.invokevirtual 32, 3) := by decide +kernel
theorem dX3_times_6 : decode cX3_times 6 = .ok (.iload_n 2, 1) := by decide +kernel
theorem dX3_times_7 : decode cX3_times 7 = .ok (.invokevirtual 36, 3) := by decide +kernel
theorem dX3_times_10 : decode cX3_times 10 = .ok (.aload_n 0, 1) := by decide +kernel
theorem dX3_times_11 : decode cX3_times 11 = .ok (.iload_n 1, 1) := by decide +kernel
theorem dX3_times_12 : decode cX3_times 12 = .ok (.iconst 1, 1) := by decide +kernel
theorem dX3_times_13 : decode cX3_times 13 = .ok (.invokevirtual 32, 3) := by decide +kernel
theorem dX3_times_16 : decode cX3_times 16 = .ok (.iload_n 2, 1) := by decide +kernel
theorem dX3_times_17 : decode cX3_times 17 = .ok (.invokevirtual 36, 3) := by decide +kernel
theorem dX3_times_20 : decode cX3_times 20 = .ok (.iadd, 1) := by decide +kernel
theorem dX3_times_21 : decode cX3_times 21 = .ok (.ireturn, 1) := by decide +kernel
theorem dX3_hasUnknown_0 : decode cX3_hasUnknown 0 = .ok (.iconst 0, 1) := by decide +kernel
theorem dX3_hasUnknown_1 : decode cX3_hasUnknown 1 = .ok (.istore_n 2, 1) := by decide +kernel
theorem dX3_hasUnknown_2 : decode cX3_hasUnknown 2 = .ok (.iload_n 2, 1) := by decide +kernel
theorem dX3_hasUnknown_3 : decode cX3_hasUnknown 3 = .ok (.aload_n 0, 1) := by decide +kernel
theorem dX3_hasUnknown_4 : decode cX3_hasUnknown 4 = .ok (.getfield 17, 3) := by decide +kernel
theorem dX3_hasUnknown_7 : decode cX3_hasUnknown 7 = .ok (.if_icmp .ge 20, 3) := by decide +kernel
theorem dX3_hasUnknown_10 : decode cX3_hasUnknown 10 = .ok (.aload_n 0, 1) := by decide +kernel
theorem dX3_hasUnknown_11 : decode cX3_hasUnknown 11 = .ok (.iload_n 2, 1) := by decide +kernel
theorem dX3_hasUnknown_12 : decode cX3_hasUnknown 12 = .ok (.iload_n 1, 1) := by decide +kernel
theorem dX3_hasUnknown_13 : decode cX3_hasUnknown 13 = .ok (.invokevirtual 40, 3) := by decide +kernel
theorem dX3_hasUnknown_16 : decode cX3_hasUnknown 16 = .ok (.ifCond .le 5, 3) := by decide +kernel
theorem dX3_hasUnknown_19 : decode cX3_hasUnknown 19 = .ok (.iconst 1, 1) := by decide +kernel
theorem dX3_hasUnknown_20 : decode cX3_hasUnknown 20 = .ok (.ireturn, 1) := by decide +kernel
theorem dX3_hasUnknown_21 : decode cX3_hasUnknown 21 = .ok (.iinc 2 1, 3) := by decide +kernel
theorem dX3_hasUnknown_24 : decode cX3_hasUnknown 24 = .ok (.goto (-22), 3) := by decide +kernel
theorem dX3_hasUnknown_27 : decode cX3_hasUnknown 27 = .ok (.iconst 0, 1) := by decide +kernel
theorem dX3_hasUnknown_28 : decode cX3_hasUnknown 28 = .ok (.ireturn, 1) := by decide +kernel
theorem dX3_unknowns_0 : decode cX3_unknowns 0 = .ok (.iconst 0, 1) := by decide +kernel
theorem dX3_unknowns_1 : decode cX3_unknowns 1 = .ok (.istore_n 1, 1) := by decide +kernel
theorem dX3_unknowns_2 : decode cX3_unknowns 2 = .ok (.iconst 0, 1) := by decide +kernel
theorem dX3_unknowns_3 : decode cX3_unknowns 3 = .ok (.istore_n 2, 1) := by decide +kernel
theorem dX3_unknowns_4 : decode cX3_unknowns 4 = .ok (.iload_n 2, 1) := by decide +kernel
theorem dX3_unknowns_5 : decode cX3_unknowns 5 = .ok (.iconst 4, 1) := by decide +kernel
theorem dX3_unknowns_6 : decode cX3_unknowns 6 = .ok (.if_icmp .ge 20, 3) := by decide +kernel
theorem dX3_unknowns_9 : decode cX3_unknowns 9 = .ok (.aload_n 0, 1) := by decide +kernel
theorem dX3_unknowns_10 : decode cX3_unknowns 10 = .ok (.iload_n 2, 1) := by decide +kernel
theorem dX3_unknowns_11 : decode cX3_unknowns 11 = .ok (.invokevirtual 44, 3) := by decide +kernel
theorem dX3_unknowns_14 : decode cX3_unknowns 14 = .ok (.ifCond .eq 6, 3) := by decide +kernel
theorem dX3_unknowns_17 : decode cX3_unknowns 17 = .ok (.iinc 1 1, 3) := by decide +kernel
theorem dX3_unknowns_20 : decode cX3_unknowns 20 = .ok (.iinc 2 1, 3) := by decide +kernel
theorem dX3_unknowns_23 : decode cX3_unknowns 23 = .ok (.goto (-19), 3) := by decide +kernel
theorem dX3_unknowns_26 : decode cX3_unknowns 26 = .ok (.iload_n 1, 1) := by decide +kernel
theorem dX3_unknowns_27 : decode cX3_unknowns 27 = .ok (.ireturn, 1) := by decide +kernel
theorem dX4_init_0 : decode cX4_init 0 = .ok (.aload_n 0, 1) := by decide +kernel
theorem dX4_init_1 : decode cX4_init 1 = .ok (.invokespecial 3, 3) := by decide +kernel
theorem dX4_init_4 : decode cX4_init 4 = .ok (.aload_n 0, 1) := by decide +kernel
theorem dX4_init_5 : decode cX4_init 5 = .ok (.new 9, 3) := by decide +kernel
theorem dX4_init_8 : decode cX4_init 8 = .ok (.dup, 1) := by decide +kernel
theorem dX4_init_9 : decode cX4_init 9 = .ok (.invokespecial 11, 3) := by decide +kernel
theorem dX4_init_12 : decode cX4_init 12 = .ok (.putfield 12, 3) := by decide +kernel
theorem dX4_init_15 : decode cX4_init 15 = .ok (.aload_n 0, 1) := by decide +kernel
theorem dX4_init_16 : decode cX4_init 16 = .ok (.iconst 4, 1) := by decide +kernel
theorem dX4_init_17 : decode cX4_init 17 = .ok (.newarray .int, 2) := by decide +kernel
theorem dX4_init_19 : decode cX4_init 19 = .ok (.putfield 18, 3) := by decide +kernel
theorem dX4_init_22 : decode cX4_init 22 = .ok (.aload_n 0, 1) := by decide +kernel
theorem dX4_init_23 : decode cX4_init 23 = .ok (.iconst 4, 1) := by decide +kernel
theorem dX4_init_24 : decode cX4_init 24 = .ok (.newarray .int, 2) := by decide +kernel
theorem dX4_init_26 : decode cX4_init 26 = .ok (.putfield 22, 3) := by decide +kernel
theorem dX4_init_29 : decode cX4_init 29 = .ok (.aload_n 0, 1) := by decide +kernel
theorem dX4_init_30 : decode cX4_init 30 = .ok (.bipush 35, 2) := by decide +kernel
theorem dX4_init_32 : decode cX4_init 32 = .ok (.newarray .int, 2) := by decide +kernel
theorem dX4_init_34 : decode cX4_init 34 = .ok (.putfield 25, 3) := by decide +kernel
theorem dX4_init_37 : decode cX4_init 37 = .ok (.aload_n 0, 1) := by decide +kernel
theorem dX4_init_38 : decode cX4_init 38 = .ok (.bipush 96, 2) := by decide +kernel
theorem dX4_init_40 : decode cX4_init 40 = .ok (.newarray .int, 2) := by decide +kernel
theorem dX4_init_42 : decode cX4_init 42 = .ok (.putfield 28, 3) := by decide +kernel
theorem dX4_init_45 : decode cX4_init 45 = .ok (.aload_n 0, 1) := by decide +kernel
theorem dX4_init_46 : decode cX4_init 46 = .ok (.bipush 96, 2) := by decide +kernel
theorem dX4_init_48 : decode cX4_init 48 = .ok (.newarray .int, 2) := by decide +kernel
theorem dX4_init_50 : decode cX4_init 50 = .ok (.putfield 31, 3) := by decide +kernel
theorem dX4_init_53 : decode cX4_init 53 = .ok (.aload_n 0, 1) := by decide +kernel
theorem dX4_init_54 : decode cX4_init 54 = .ok (.iconst 0, 1) := by decide +kernel
theorem dX4_init_55 : decode cX4_init 55 = .ok (.putfield 34, 3) := by decide +kernel
theorem dX4_init_58 : decode cX4_init 58 = .ok (.return_, 1) := by decide +kernel
theorem dX4_lay_0 : decode cX4_lay 0 = .ok (.aload_n 0, 1) := by decide +kernel
theorem dX4_lay_1 : decode cX4_lay 1 = .ok (.iconst 3, 1) := by decide +kernel
theorem dX4_lay_2 : decode cX4_lay 2 = .ok (.putfield 34, 3) := by decide +kernel
theorem dX4_lay_5 : decode cX4_lay 5 = .ok (.iconst 0, 1) := by decide +kernel
theorem dX4_lay_6 : decode cX4_lay 6 = .ok (.istore_n 2, 1) := by decide +kernel
theorem dX4_lay_7 : decode cX4_lay 7 = .ok (.iload_n 2, 1) := by decide +kernel
theorem dX4_lay_8 : decode cX4_lay 8 = .ok (.iconst 4, 1) := by decide +kernel
theorem dX4_lay_9 : decode cX4_lay 9 = .ok (.if_icmp .ge 56, 3) := by decide +kernel
theorem dX4_lay_12 : decode cX4_lay 12 = .ok (.aload_n 0, 1) := by decide +kernel
theorem dX4_lay_13 : decode cX4_lay 13 = .ok (.getfield 18, 3) := by decide +kernel
theorem dX4_lay_16 : decode cX4_lay 16 = .ok (.iload_n 2, 1) := by decide +kernel
theorem dX4_lay_17 : decode cX4_lay 17 = .ok (.iload_n 1, 1) := by decide +kernel
theorem dX4_lay_18 : decode cX4_lay 18 = .ok (.bipush 12, 2) := by decide +kernel
theorem dX4_lay_20 : decode cX4_lay 20 = .ok (.iconst 4, 1) := by decide +kernel
theorem dX4_lay_21 : decode cX4_lay 21 = .ok (.iload_n 2, 1) := by decide +kernel
theorem dX4_lay_22 : decode cX4_lay 22 = .ok (.imul, 1) := by decide +kernel
theorem dX4_lay_23 : decode cX4_lay 23 = .ok (.isub, 1) := by decide +kernel
theorem dX4_lay_24 : decode cX4_lay 24 = .ok (.ishr, 1) := by decide +kernel
theorem dX4_lay_25 : decode cX4_lay 25 = .ok (.bipush 15, 2) := by decide +kernel
theorem dX4_lay_27 : decode cX4_lay 27 = .ok (.iand, 1) := by decide +kernel
theorem dX4_lay_28 : decode cX4_lay 28 = .ok (.bipush 8, 2) := by decide +kernel
theorem dX4_lay_30 : decode cX4_lay 30 = .ok (.invokestatic 38, 3) := by decide +kernel
theorem dX4_lay_33 : decode cX4_lay 33 = .ok (.iastore, 1) := by decide +kernel
theorem dX4_lay_34 : decode cX4_lay 34 = .ok (.aload_n 0, 1) := by decide +kernel
theorem dX4_lay_35 : decode cX4_lay 35 = .ok (.getfield 22, 3) := by decide +kernel
theorem dX4_lay_38 : decode cX4_lay 38 = .ok (.iload_n 2, 1) := by decide +kernel
theorem dX4_lay_39 : decode cX4_lay 39 = .ok (.aload_n 0, 1) := by decide +kernel
theorem dX4_lay_40 : decode cX4_lay 40 = .ok (.getfield 34, 3) := by decide +kernel
theorem dX4_lay_43 : decode cX4_lay 43 = .ok (.iastore, 1) := by decide +kernel
theorem dX4_lay_44 : decode cX4_lay 44 = .ok (.aload_n 0, 1) := by decide +kernel
theorem dX4_lay_45 : decode cX4_lay 45 = .ok (.dup, 1) := by decide +kernel
theorem dX4_lay_46 : decode cX4_lay 46 = .ok (.getfield 34, 3) := by decide +kernel
theorem dX4_lay_49 : decode cX4_lay 49 = .ok (.aload_n 0, 1) := by decide +kernel
theorem dX4_lay_50 : decode cX4_lay 50 = .ok (.getfield 18, 3) := by decide +kernel
theorem dX4_lay_53 : decode cX4_lay 53 = .ok (.iload_n 2, 1) := by decide +kernel
theorem dX4_lay_54 : decode cX4_lay 54 = .ok (.iaload, 1) := by decide +kernel
theorem dX4_lay_55 : decode cX4_lay 55 = .ok (.iadd, 1) := by decide +kernel
theorem dX4_lay_56 : decode cX4_lay 56 = .ok (.putfield 34, 3) := by decide +kernel
theorem dX4_lay_59 : decode cX4_lay 59 = .ok (.iinc 2 1, 3) := by decide +kernel
theorem dX4_lay_62 : decode cX4_lay 62 = .ok (.goto (-55), 3) := by decide +kernel
theorem dX4_lay_65 : decode cX4_lay 65 = .ok (.return_, 1) := by decide +kernel
theorem dX4_solves_0 : decode cX4_solves 0 = .ok (.iconst 0, 1) := by decide +kernel
theorem dX4_solves_1 : decode cX4_solves 1 = .ok (.istore_n 3, 1) := by decide +kernel
theorem dX4_solves_2 : decode cX4_solves 2 = .ok (.iload_n 3, 1) := by decide +kernel
theorem dX4_solves_3 : decode cX4_solves 3 = .ok (.aload_n 1, 1) := by decide +kernel
theorem dX4_solves_4 : decode cX4_solves 4 = .ok (.invokevirtual 44, 3) := by decide +kernel
theorem dX4_solves_7 : decode cX4_solves 7 = .ok (.if_icmp .ge 34, 3) := by decide +kernel
theorem dX4_solves_10 : decode cX4_solves 10 = .ok (.aload_n 0, 1) := by decide +kernel
theorem dX4_solves_11 : decode cX4_solves 11 = .ok (.aload_n 1, 1) := by decide +kernel
theorem dX4_solves_12 : decode cX4_solves 12 = .ok (.iload_n 3, 1) := by decide +kernel
theorem dX4_solves_13 : decode cX4_solves 13 = .ok (.iconst 0, 1) := by decide +kernel
theorem dX4_solves_14 : decode cX4_solves 14 = .ok (.invokevirtual 50, 3) := by decide +kernel
theorem dX4_solves_17 : decode cX4_solves 17 = .ok (.invokevirtual 54, 3) := by decide +kernel
theorem dX4_solves_20 : decode cX4_solves 20 = .ok (.aload_n 0, 1) := by decide +kernel
theorem dX4_solves_21 : decode cX4_solves 21 = .ok (.aload_n 1, 1) := by decide +kernel
theorem dX4_solves_22 : decode cX4_solves 22 = .ok (.iload_n 3, 1) := by decide +kernel
theorem dX4_solves_23 : decode cX4_solves 23 = .ok (.iconst 1, 1) := by decide +kernel
theorem dX4_solves_24 : decode cX4_solves 24 = .ok (.invokevirtual 50, 3) := by decide +kernel
theorem dX4_solves_27 : decode cX4_solves 27 = .ok (.invokevirtual 54, 3) := by decide +kernel
theorem dX4_solves_30 : decode cX4_solves 30 = .ok (.if_icmp .eq 5, 3) := by decide +kernel
theorem dX4_solves_33 : decode cX4_solves 33 = .ok (.iconst 0, 1) := by decide +kernel
theorem dX4_solves_34 : decode cX4_solves 34 = .ok (.ireturn, 1) := by decide +kernel
theorem dX4_solves_35 : decode cX4_solves 35 = .ok (.iinc 3 1, 3) := by decide +kernel
theorem dX4_solves_38 : decode cX4_solves 38 = .ok (.goto (-36), 3) := by decide +kernel
theorem dX4_solves_41 : decode cX4_solves 41 = .ok (.aload_n 0, 1) := by decide +kernel
theorem dX4_solves_42 : decode cX4_solves 42 = .ok (.aload_n 2, 1) := by decide +kernel
theorem dX4_solves_43 : decode cX4_solves 43 = .ok (.invokevirtual 58, 3) := by decide +kernel
theorem dX4_solves_46 : decode cX4_solves 46 = .ok (.iconst 0, 1) := by decide +kernel
theorem dX4_solves_47 : decode cX4_solves 47 = .ok (.istore_n 3, 1) := by decide +kernel
theorem dX4_solves_48 : decode cX4_solves 48 = .ok (.iload_n 3, 1) := by decide +kernel
theorem dX4_solves_49 : decode cX4_solves 49 = .ok (.aload_n 1, 1) := by decide +kernel
theorem dX4_solves_50 : decode cX4_solves 50 = .ok (.invokevirtual 44, 3) := by decide +kernel
theorem dX4_solves_53 : decode cX4_solves 53 = .ok (.if_icmp .ge 101, 3) := by decide +kernel
theorem dX4_solves_56 : decode cX4_solves 56 = .ok (.aload_n 0, 1) := by decide +kernel
theorem dX4_solves_57 : decode cX4_solves 57 = .ok (.aload_n 1, 1) := by decide +kernel
theorem dX4_solves_58 : decode cX4_solves 58 = .ok (.iload_n 3, 1) := by decide +kernel
theorem dX4_solves_59 : decode cX4_solves 59 = .ok (.iconst 0, 1) := by decide +kernel
theorem dX4_solves_60 : decode cX4_solves 60 = .ok (.invokevirtual 50, 3) := by decide +kernel
theorem dX4_solves_63 : decode cX4_solves 63 = .ok (.aload_n 0, 1) := by decide +kernel
theorem dX4_solves_64 : decode cX4_solves 64 = .ok (.getfield 28, 3) := by decide +kernel
theorem dX4_solves_67 : decode cX4_solves 67 = .ok (.invokevirtual 62, 3) := by decide +kernel
theorem dX4_solves_70 : decode cX4_solves 70 = .ok (.aload_n 0, 1) := by decide +kernel
theorem dX4_solves_71 : decode cX4_solves 71 = .ok (.aload_n 1, 1) := by decide +kernel
theorem dX4_solves_72 : decode cX4_solves 72 = .ok (.iload_n 3, 1) := by decide +kernel
theorem dX4_solves_73 : decode cX4_solves 73 = .ok (.iconst 1, 1) := by decide +kernel
theorem dX4_solves_74 : decode cX4_solves 74 = .ok (.invokevirtual 50, 3) := by decide +kernel
theorem dX4_solves_77 : decode cX4_solves 77 = .ok (.aload_n 0, 1) := by decide +kernel
theorem dX4_solves_78 : decode cX4_solves 78 = .ok (.getfield 31, 3) := by decide +kernel
theorem dX4_solves_81 : decode cX4_solves 81 = .ok (.invokevirtual 62, 3) := by decide +kernel
theorem dX4_solves_84 : decode cX4_solves 84 = .ok (.invokestatic 38, 3) := by decide +kernel
theorem dX4_solves_87 : decode cX4_solves 87 = .ok (.istore 4, 2) := by decide +kernel
theorem dX4_solves_89 : decode cX4_solves 89 = .ok (.iconst 0, 1) := by decide +kernel
theorem dX4_solves_90 : decode cX4_solves 90 = .ok (.istore 5, 2) := by decide +kernel
theorem dX4_solves_92 : decode cX4_solves 92 = .ok (.iload 5, 2) := by decide +kernel
theorem dX4_solves_94 : decode cX4_solves 94 = .ok (.iload 4, 2) := by decide +kernel
theorem dX4_solves_96 : decode cX4_solves 96 = .ok (.if_icmp .ge 52, 3) := by decide +kernel
theorem dX4_solves_99 : decode cX4_solves 99 = .ok (.aload_n 0, 1) := by decide +kernel
theorem dX4_solves_100 : decode cX4_solves 100 = .ok (.getfield 28, 3) := by decide +kernel
theorem dX4_solves_103 : decode cX4_solves 103 = .ok (.iload 5, 2) := by decide +kernel
theorem dX4_solves_105 : decode cX4_solves 105 = .ok (.iaload, 1) := by decide +kernel
theorem dX4_solves_106 : decode cX4_solves 106 = .ok (.aload_n 0, 1) := by decide +kernel
theorem dX4_solves_107 : decode cX4_solves 107 = .ok (.getfield 31, 3) := by decide +kernel
theorem dX4_solves_110 : decode cX4_solves 110 = .ok (.iload 5, 2) := by decide +kernel
theorem dX4_solves_112 : decode cX4_solves 112 = .ok (.iaload, 1) := by decide +kernel
theorem dX4_solves_113 : decode cX4_solves 113 = .ok (.if_icmp .eq 29, 3) := by decide +kernel
theorem dX4_solves_116 : decode cX4_solves 116 = .ok (.aload_n 0, 1) := by decide +kernel
theorem dX4_solves_117 : decode cX4_solves 117 = .ok (.getfield 12, 3) := by decide +kernel
theorem dX4_solves_120 : decode cX4_solves 120 = .ok (.aload_n 0, 1) := by decide +kernel
theorem dX4_solves_121 : decode cX4_solves 121 = .ok (.getfield 28, 3) := by decide +kernel
theorem dX4_solves_124 : decode cX4_solves 124 = .ok (.iload 5, 2) := by decide +kernel
theorem dX4_solves_126 : decode cX4_solves 126 = .ok (.iaload, 1) := by decide +kernel
theorem dX4_solves_127 : decode cX4_solves 127 = .ok (.aload_n 0, 1) := by decide +kernel
theorem dX4_solves_128 : decode cX4_solves 128 = .ok (.getfield 31, 3) := by decide +kernel
theorem dX4_solves_131 : decode cX4_solves 131 = .ok (.iload 5, 2) := by decide +kernel
theorem dX4_solves_133 : decode cX4_solves 133 = .ok (.iaload, 1) := by decide +kernel
theorem dX4_solves_134 : decode cX4_solves 134 = .ok (.invokevirtual 66, 3) := by decide +kernel
theorem dX4_solves_137 : decode cX4_solves 137 = .ok (.ifCond .ne 5, 3) := by decide +kernel
theorem dX4_solves_140 : decode cX4_solves 140 = .ok (.iconst 0, 1) := by decide +kernel
theorem dX4_solves_141 : decode cX4_solves 141 = .ok (.ireturn, 1) := by decide +kernel
theorem dX4_solves_142 : decode cX4_solves 142 = .ok (.iinc 5 1, 3) := by decide +kernel
theorem dX4_solves_145 : decode cX4_solves 145 = .ok (.goto (-53), 3) := by decide +kernel
theorem dX4_solves_148 : decode cX4_solves 148 = .ok (.iinc 3 1, 3) := by decide +kernel
theorem dX4_solves_151 : decode cX4_solves 151 = .ok (.goto (-103), 3) := by decide +kernel
theorem dX4_solves_154 : decode cX4_solves 154 = .ok (.iconst 1, 1) := by decide +kernel
theorem dX4_solves_155 : decode cX4_solves 155 = .ok (.ireturn, 1) := by decide +kernel
theorem dX4_lengthOf_0 : decode cX4_lengthOf 0 = .ok (.aload_n 1, 1) := by decide +kernel
theorem dX4_lengthOf_1 : decode cX4_lengthOf 1 = .ok (.aload_n 0, 1) := by decide +kernel
theorem dX4_lengthOf_2 : decode cX4_lengthOf 2 = .ok (.getfield 18, 3) := by decide +kernel
theorem dX4_lengthOf_5 : decode cX4_lengthOf 5 = .ok (.iconst 0, 1) := by decide +kernel
theorem dX4_lengthOf_6 : decode cX4_lengthOf 6 = .ok (.iaload, 1) := by decide +kernel
theorem dX4_lengthOf_7 : decode cX4_lengthOf 7 = .ok (.aload_n 0, 1) := by decide +kernel
theorem dX4_lengthOf_8 : decode cX4_lengthOf 8 = .ok (.getfield 18, 3) := by decide +kernel
theorem dX4_lengthOf_11 : decode cX4_lengthOf 11 = .ok (.iconst 1, 1) := by decide +kernel
theorem dX4_lengthOf_12 : decode cX4_lengthOf 12 = .ok (.iaload, 1) := by decide +kernel
theorem dX4_lengthOf_13 : decode cX4_lengthOf 13 = .ok (.aload_n 0, 1) := by decide +kernel
theorem dX4_lengthOf_14 : decode cX4_lengthOf 14 = .ok (.getfield 18, 3) := by decide +kernel
theorem dX4_lengthOf_17 : decode cX4_lengthOf 17 = .ok (.iconst 2, 1) := by decide +kernel
theorem dX4_lengthOf_18 : decode cX4_lengthOf 18 = .ok (.iaload, 1) := by decide +kernel
theorem dX4_lengthOf_19 : decode cX4_lengthOf 19 = .ok (.aload_n 0, 1) := by decide +kernel
theorem dX4_lengthOf_20 : decode cX4_lengthOf 20 = .ok (.getfield 18, 3) := by decide +kernel
theorem dX4_lengthOf_23 : decode cX4_lengthOf 23 = .ok (.iconst 3, 1) := by decide +kernel
theorem dX4_lengthOf_24 : decode cX4_lengthOf 24 = .ok (.iaload, 1) := by decide +kernel
theorem dX4_lengthOf_25 : decode cX4_lengthOf 25 = .ok (.invokevirtual 70, 3) := by decide +kernel
theorem dX4_lengthOf_28 : decode cX4_lengthOf 28 = .ok (.ireturn, 1) := by decide +kernel
theorem dX4_beginClasses_0 : decode cX4_beginClasses 0 = .ok (.aload_n 0, 1) := by decide +kernel
theorem dX4_beginClasses_1 : decode cX4_beginClasses 1 = .ok (.getfield 12, 3) := by decide +kernel
theorem dX4_beginClasses_4 : decode cX4_beginClasses 4 = .ok (.aload_n 0, 1) := by decide +kernel
theorem dX4_beginClasses_5 : decode cX4_beginClasses 5 = .ok (.getfield 34, 3) := by decide +kernel
theorem dX4_beginClasses_8 : decode cX4_beginClasses 8 = .ok (.invokevirtual 76, 3) := by decide +kernel
theorem dX4_beginClasses_11 : decode cX4_beginClasses 11 = .ok (.iconst 0, 1) := by decide +kernel
theorem dX4_beginClasses_12 : decode cX4_beginClasses 12 = .ok (.istore_n 2, 1) := by decide +kernel
theorem dX4_beginClasses_13 : decode cX4_beginClasses 13 = .ok (.iload_n 2, 1) := by decide +kernel
theorem dX4_beginClasses_14 : decode cX4_beginClasses 14 = .ok (.iconst 3, 1) := by decide +kernel
theorem dX4_beginClasses_15 : decode cX4_beginClasses 15 = .ok (.if_icmp .ge 20, 3) := by decide +kernel
theorem dX4_beginClasses_18 : decode cX4_beginClasses 18 = .ok (.aload_n 0, 1) := by decide +kernel
theorem dX4_beginClasses_19 : decode cX4_beginClasses 19 = .ok (.getfield 12, 3) := by decide +kernel
theorem dX4_beginClasses_22 : decode cX4_beginClasses 22 = .ok (.iload_n 2, 1) := by decide +kernel
theorem dX4_beginClasses_23 : decode cX4_beginClasses 23 = .ok (.iconst 1, 1) := by decide +kernel
theorem dX4_beginClasses_24 : decode cX4_beginClasses 24 = .ok (.iload_n 2, 1) := by decide +kernel
theorem dX4_beginClasses_25 : decode cX4_beginClasses 25 = .ok (.ishl, 1) := by decide +kernel
theorem dX4_beginClasses_26 : decode cX4_beginClasses 26 = .ok (.invokevirtual 80, 3) := by decide +kernel
theorem dX4_beginClasses_29 : decode cX4_beginClasses 29 = .ok (.iinc 2 1, 3) := by decide +kernel
theorem dX4_beginClasses_32 : decode cX4_beginClasses 32 = .ok (.goto (-19), 3) := by decide +kernel
theorem dX4_beginClasses_35 : decode cX4_beginClasses 35 = .ok (.iconst 0, 1) := by decide +kernel
theorem dX4_beginClasses_36 : decode cX4_beginClasses 36 = .ok (.istore_n 2, 1) := by decide +kernel
theorem dX4_beginClasses_37 : decode cX4_beginClasses 37 = .ok (.iload_n 2, 1) := by decide +kernel
theorem dX4_beginClasses_38 : decode cX4_beginClasses 38 = .ok (.iconst 4, 1) := by decide +kernel
theorem dX4_beginClasses_39 : decode cX4_beginClasses 39 = .ok (.if_icmp .ge 51, 3) := by decide +kernel
theorem dX4_beginClasses_42 : decode cX4_beginClasses 42 = .ok (.iload_n 2, 1) := by decide +kernel
theorem dX4_beginClasses_43 : decode cX4_beginClasses 43 = .ok (.aload_n 1, 1) := by decide +kernel
theorem dX4_beginClasses_44 : decode cX4_beginClasses 44 = .ok (.arraylength, 1) := by decide +kernel
theorem dX4_beginClasses_45 : decode cX4_beginClasses 45 = .ok (.if_icmp .ge 45, 3) := by decide +kernel
theorem dX4_beginClasses_48 : decode cX4_beginClasses 48 = .ok (.iconst 0, 1) := by decide +kernel
theorem dX4_beginClasses_49 : decode cX4_beginClasses 49 = .ok (.istore_n 3, 1) := by decide +kernel
theorem dX4_beginClasses_50 : decode cX4_beginClasses 50 = .ok (.iload_n 3, 1) := by decide +kernel
theorem dX4_beginClasses_51 : decode cX4_beginClasses 51 = .ok (.aload_n 0, 1) := by decide +kernel
theorem dX4_beginClasses_52 : decode cX4_beginClasses 52 = .ok (.getfield 18, 3) := by decide +kernel
theorem dX4_beginClasses_55 : decode cX4_beginClasses 55 = .ok (.iload_n 2, 1) := by decide +kernel
theorem dX4_beginClasses_56 : decode cX4_beginClasses 56 = .ok (.iaload, 1) := by decide +kernel
theorem dX4_beginClasses_57 : decode cX4_beginClasses 57 = .ok (.if_icmp .ge 27, 3) := by decide +kernel
theorem dX4_beginClasses_60 : decode cX4_beginClasses 60 = .ok (.aload_n 0, 1) := by decide +kernel
theorem dX4_beginClasses_61 : decode cX4_beginClasses 61 = .ok (.getfield 12, 3) := by decide +kernel
theorem dX4_beginClasses_64 : decode cX4_beginClasses 64 = .ok (.aload_n 0, 1) := by decide +kernel
theorem dX4_beginClasses_65 : decode cX4_beginClasses 65 = .ok (.getfield 22, 3) := by decide +kernel
theorem dX4_beginClasses_68 : decode cX4_beginClasses 68 = .ok (.iload_n 2, 1) := by decide +kernel
theorem dX4_beginClasses_69 : decode cX4_beginClasses 69 = .ok (.iaload, 1) := by decide +kernel
theorem dX4_beginClasses_70 : decode cX4_beginClasses 70 = .ok (.iload_n 3, 1) := by decide +kernel
theorem dX4_beginClasses_71 : decode cX4_beginClasses 71 = .ok (.iadd, 1) := by decide +kernel
theorem dX4_beginClasses_72 : decode cX4_beginClasses 72 = .ok (.aload_n 1, 1) := by decide +kernel
theorem dX4_beginClasses_73 : decode cX4_beginClasses 73 = .ok (.iload_n 2, 1) := by decide +kernel
theorem dX4_beginClasses_74 : decode cX4_beginClasses 74 = .ok (.iaload, 1) := by decide +kernel
theorem dX4_beginClasses_75 : decode cX4_beginClasses 75 = .ok (.invokevirtual 80, 3) := by decide +kernel
theorem dX4_beginClasses_78 : decode cX4_beginClasses 78 = .ok (.iinc 3 1, 3) := by decide +kernel
theorem dX4_beginClasses_81 : decode cX4_beginClasses 81 = .ok (.goto (-31), 3) := by decide +kernel
theorem dX4_beginClasses_84 : decode cX4_beginClasses 84 = .ok (.iinc 2 1, 3) := by decide +kernel
theorem dX4_beginClasses_87 : decode cX4_beginClasses 87 = .ok (.goto (-50), 3) := by decide +kernel
theorem dX4_beginClasses_90 : decode cX4_beginClasses 90 = .ok (.return_, 1) := by decide +kernel
theorem dX4_spread_0 : decode cX4_spread 0 = .ok (.iconst 0, 1) := by decide +kernel
theorem dX4_spread_1 : decode cX4_spread 1 = .ok (.istore_n 3, 1) := by decide +kernel
theorem dX4_spread_2 : decode cX4_spread 2 = .ok (.iconst 0, 1) := by decide +kernel
theorem dX4_spread_3 : decode cX4_spread 3 = .ok (.istore 4, 2) := by decide +kernel
theorem dX4_spread_5 : decode cX4_spread 5 = .ok (.iload 4, 2) := by decide +kernel
theorem dX4_spread_7 : decode cX4_spread 7 = .ok (.aload_n 1, 1) := by decide +kernel
theorem dX4_spread_8 : decode cX4_spread 8 = .ok (.invokevirtual 84, 3) := by decide +kernel
theorem dX4_spread_11 : decode cX4_spread 11 = .ok (.if_icmp .ge 94, 3) := by decide +kernel
theorem dX4_spread_14 : decode cX4_spread 14 = .ok (.aload_n 1, 1) := by decide +kernel
theorem dX4_spread_15 : decode cX4_spread 15 = .ok (.iload 4, 2) := by decide +kernel
theorem dX4_spread_17 : decode cX4_spread 17 = .ok (.invokevirtual 85, 3) := by decide +kernel
theorem dX4_spread_20 : decode cX4_spread 20 = .ok (.istore 5, 2) := by decide +kernel
theorem dX4_spread_22 : decode cX4_spread 22 = .ok (.iload 5, 2) := by decide +kernel
theorem dX4_spread_24 : decode cX4_spread 24 = .ok (.invokestatic 89, 3) := by decide +kernel
theorem dX4_spread_27 : decode cX4_spread 27 = .ok (.istore 6, 2) := by decide +kernel
theorem dX4_spread_29 : decode cX4_spread 29 = .ok (.iload 6, 2) := by decide +kernel
theorem dX4_spread_31 : decode cX4_spread 31 = .ok (.ifCond .eq 16, 3) := by decide +kernel
theorem dX4_spread_34 : decode cX4_spread 34 = .ok (.aload_n 0, 1) := by decide +kernel
theorem dX4_spread_35 : decode cX4_spread 35 = .ok (.getfield 22, 3) := by decide +kernel
theorem dX4_spread_38 : decode cX4_spread 38 = .ok (.iload 5, 2) := by decide +kernel
theorem dX4_spread_40 : decode cX4_spread 40 = .ok (.invokestatic 93, 3) := by decide +kernel
theorem dX4_spread_43 : decode cX4_spread 43 = .ok (.iaload, 1) := by decide +kernel
theorem dX4_spread_44 : decode cX4_spread 44 = .ok (.goto 5, 3) := by decide +kernel
theorem dX4_spread_47 : decode cX4_spread 47 = .ok (.iload 5, 2) := by decide +kernel
theorem dX4_spread_49 : decode cX4_spread 49 = .ok (.istore 7, 2) := by decide +kernel
theorem dX4_spread_51 : decode cX4_spread 51 = .ok (.aload_n 2, 1) := by decide +kernel
theorem dX4_spread_52 : decode cX4_spread 52 = .ok (.arraylength, 1) := by decide +kernel
theorem dX4_spread_53 : decode cX4_spread 53 = .ok (.iload_n 3, 1) := by decide +kernel
theorem dX4_spread_54 : decode cX4_spread 54 = .ok (.iload 6, 2) := by decide +kernel
theorem dX4_spread_56 : decode cX4_spread 56 = .ok (.ifCond .eq 16, 3) := by decide +kernel
theorem dX4_spread_59 : decode cX4_spread 59 = .ok (.aload_n 0, 1) := by decide +kernel
theorem dX4_spread_60 : decode cX4_spread 60 = .ok (.getfield 18, 3) := by decide +kernel
theorem dX4_spread_63 : decode cX4_spread 63 = .ok (.iload 5, 2) := by decide +kernel
theorem dX4_spread_65 : decode cX4_spread 65 = .ok (.invokestatic 93, 3) := by decide +kernel
theorem dX4_spread_68 : decode cX4_spread 68 = .ok (.iaload, 1) := by decide +kernel
theorem dX4_spread_69 : decode cX4_spread 69 = .ok (.goto 4, 3) := by decide +kernel
theorem dX4_spread_72 : decode cX4_spread 72 = .ok (.iconst 1, 1) := by decide +kernel
theorem dX4_spread_73 : decode cX4_spread 73 = .ok (.iadd, 1) := by decide +kernel
theorem dX4_spread_74 : decode cX4_spread 74 = .ok (.invokestatic 38, 3) := by decide +kernel
theorem dX4_spread_77 : decode cX4_spread 77 = .ok (.istore 8, 2) := by decide +kernel
theorem dX4_spread_79 : decode cX4_spread 79 = .ok (.iload_n 3, 1) := by decide +kernel
theorem dX4_spread_80 : decode cX4_spread 80 = .ok (.iload 8, 2) := by decide +kernel
theorem dX4_spread_82 : decode cX4_spread 82 = .ok (.if_icmp .ge 17, 3) := by decide +kernel
theorem dX4_spread_85 : decode cX4_spread 85 = .ok (.aload_n 2, 1) := by decide +kernel
theorem dX4_spread_86 : decode cX4_spread 86 = .ok (.iload_n 3, 1) := by decide +kernel
theorem dX4_spread_87 : decode cX4_spread 87 = .ok (.iload 7, 2) := by decide +kernel
theorem dX4_spread_89 : decode cX4_spread 89 = .ok (.iastore, 1) := by decide +kernel
theorem dX4_spread_90 : decode cX4_spread 90 = .ok (.iinc 7 1, 3) := by decide +kernel
theorem dX4_spread_93 : decode cX4_spread 93 = .ok (.iinc 3 1, 3) := by decide +kernel
theorem dX4_spread_96 : decode cX4_spread 96 = .ok (.goto (-17), 3) := by decide +kernel
theorem dX4_spread_99 : decode cX4_spread 99 = .ok (.iinc 4 1, 3) := by decide +kernel
theorem dX4_spread_102 : decode cX4_spread 102 = .ok (.goto (-97), 3) := by decide +kernel
theorem dX4_spread_105 : decode cX4_spread 105 = .ok (.iload_n 3, 1) := by decide +kernel
theorem dX4_spread_106 : decode cX4_spread 106 = .ok (.ireturn, 1) := by decide +kernel
theorem dX4_ways_0 : decode cX4_ways 0 = .ok (.lconst 1, 1) := by decide +kernel
theorem dX4_ways_1 : decode cX4_ways 1 = .ok (.lstore_n 1, 1) := by decide +kernel
theorem dX4_ways_2 : decode cX4_ways 2 = .ok (.iconst 3, 1) := by decide +kernel
theorem dX4_ways_3 : decode cX4_ways 3 = .ok (.istore_n 3, 1) := by decide +kernel
theorem dX4_ways_4 : decode cX4_ways 4 = .ok (.iload_n 3, 1) := by decide +kernel
theorem dX4_ways_5 : decode cX4_ways 5 = .ok (.aload_n 0, 1) := by decide +kernel
theorem dX4_ways_6 : decode cX4_ways 6 = .ok (.getfield 34, 3) := by decide +kernel
theorem dX4_ways_9 : decode cX4_ways 9 = .ok (.if_icmp .ge 36, 3) := by decide +kernel
theorem dX4_ways_12 : decode cX4_ways 12 = .ok (.aload_n 0, 1) := by decide +kernel
theorem dX4_ways_13 : decode cX4_ways 13 = .ok (.getfield 12, 3) := by decide +kernel
theorem dX4_ways_16 : decode cX4_ways 16 = .ok (.iload_n 3, 1) := by decide +kernel
theorem dX4_ways_17 : decode cX4_ways 17 = .ok (.invokevirtual 96, 3) := by decide +kernel
theorem dX4_ways_20 : decode cX4_ways 20 = .ok (.iload_n 3, 1) := by decide +kernel
theorem dX4_ways_21 : decode cX4_ways 21 = .ok (.if_icmp .ne 18, 3) := by decide +kernel
theorem dX4_ways_24 : decode cX4_ways 24 = .ok (.lload_n 1, 1) := by decide +kernel
theorem dX4_ways_25 : decode cX4_ways 25 = .ok (.aload_n 0, 1) := by decide +kernel
theorem dX4_ways_26 : decode cX4_ways 26 = .ok (.getfield 12, 3) := by decide +kernel
theorem dX4_ways_29 : decode cX4_ways 29 = .ok (.iload_n 3, 1) := by decide +kernel
theorem dX4_ways_30 : decode cX4_ways 30 = .ok (.invokevirtual 99, 3) := by decide +kernel
theorem dX4_ways_33 : decode cX4_ways 33 = .ok (.invokestatic 102, 3) := by decide +kernel
theorem dX4_ways_36 : decode cX4_ways 36 = .ok (.i2l, 1) := by decide +kernel
theorem dX4_ways_37 : decode cX4_ways 37 = .ok (.lmul, 1) := by decide +kernel
theorem dX4_ways_38 : decode cX4_ways 38 = .ok (.lstore_n 1, 1) := by decide +kernel
theorem dX4_ways_39 : decode cX4_ways 39 = .ok (.iinc 3 1, 3) := by decide +kernel
theorem dX4_ways_42 : decode cX4_ways 42 = .ok (.goto (-38), 3) := by decide +kernel
theorem dX4_ways_45 : decode cX4_ways 45 = .ok (.lload_n 1, 1) := by decide +kernel
theorem dX4_ways_46 : decode cX4_ways 46 = .ok (.lreturn, 1) := by decide +kernel
theorem dX4_length_0 : decode cX4_length 0 = .ok (.iload_n 1, 1) := by decide +kernel
theorem dX4_length_1 : decode cX4_length 1 = .ok (.invokestatic 107, 3) := by decide +kernel
theorem dX4_length_4 : decode cX4_length 4 = .ok (.ifCond .eq 7, 3) := by decide +kernel
theorem dX4_length_7 : decode cX4_length 7 = .ok (.iconst 0, 1) := by decide +kernel
theorem dX4_length_8 : decode cX4_length 8 = .ok (.goto 9, 3) := by decide +kernel
theorem dX4_length_11 : decode cX4_length 11 = .ok (.aload_n 0, 1) := by decide +kernel
theorem dX4_length_12 : decode cX4_length 12 = .ok (.getfield 18, 3) := by decide +kernel
theorem dX4_length_15 : decode cX4_length 15 = .ok (.iload_n 1, 1) := by decide +kernel
theorem dX4_length_16 : decode cX4_length 16 = .ok (.iaload, 1) := by decide +kernel
theorem dX4_length_17 : decode cX4_length 17 = .ok (.ireturn, 1) := by decide +kernel
theorem dX4_choose_0 : decode cX4_choose 0 = .ok (.lload_n 1, 1) := by decide +kernel
theorem dX4_choose_1 : decode cX4_choose 1 = .ok (.lstore_n 3, 1) := by decide +kernel
theorem dX4_choose_2 : decode cX4_choose 2 = .ok (.aload_n 0, 1) := by decide +kernel
theorem dX4_choose_3 : decode cX4_choose 3 = .ok (.getfield 34, 3) := by decide +kernel
theorem dX4_choose_6 : decode cX4_choose 6 = .ok (.iconst 1, 1) := by decide +kernel
theorem dX4_choose_7 : decode cX4_choose 7 = .ok (.isub, 1) := by decide +kernel
theorem dX4_choose_8 : decode cX4_choose 8 = .ok (.istore 5, 2) := by decide +kernel
theorem dX4_choose_10 : decode cX4_choose 10 = .ok (.iload 5, 2) := by decide +kernel
theorem dX4_choose_12 : decode cX4_choose 12 = .ok (.iconst 3, 1) := by decide +kernel
theorem dX4_choose_13 : decode cX4_choose 13 = .ok (.if_icmp .lt 89, 3) := by decide +kernel
theorem dX4_choose_16 : decode cX4_choose 16 = .ok (.iload 5, 2) := by decide +kernel
theorem dX4_choose_18 : decode cX4_choose 18 = .ok (.aload_n 0, 1) := by decide +kernel
theorem dX4_choose_19 : decode cX4_choose 19 = .ok (.getfield 25, 3) := by decide +kernel
theorem dX4_choose_22 : decode cX4_choose 22 = .ok (.arraylength, 1) := by decide +kernel
theorem dX4_choose_23 : decode cX4_choose 23 = .ok (.if_icmp .ge 73, 3) := by decide +kernel
theorem dX4_choose_26 : decode cX4_choose 26 = .ok (.aload_n 0, 1) := by decide +kernel
theorem dX4_choose_27 : decode cX4_choose 27 = .ok (.getfield 12, 3) := by decide +kernel
theorem dX4_choose_30 : decode cX4_choose 30 = .ok (.iload 5, 2) := by decide +kernel
theorem dX4_choose_32 : decode cX4_choose 32 = .ok (.invokevirtual 96, 3) := by decide +kernel
theorem dX4_choose_35 : decode cX4_choose 35 = .ok (.iload 5, 2) := by decide +kernel
theorem dX4_choose_37 : decode cX4_choose 37 = .ok (.if_icmp .eq 6, 3) := by decide +kernel
theorem dX4_choose_40 : decode cX4_choose 40 = .ok (.goto 56, 3) := by decide +kernel
theorem dX4_choose_43 : decode cX4_choose 43 = .ok (.aload_n 0, 1) := by decide +kernel
theorem dX4_choose_44 : decode cX4_choose 44 = .ok (.getfield 12, 3) := by decide +kernel
theorem dX4_choose_47 : decode cX4_choose 47 = .ok (.iload 5, 2) := by decide +kernel
theorem dX4_choose_49 : decode cX4_choose 49 = .ok (.invokevirtual 99, 3) := by decide +kernel
theorem dX4_choose_52 : decode cX4_choose 52 = .ok (.invokestatic 102, 3) := by decide +kernel
theorem dX4_choose_55 : decode cX4_choose 55 = .ok (.istore 6, 2) := by decide +kernel
theorem dX4_choose_57 : decode cX4_choose 57 = .ok (.iload 6, 2) := by decide +kernel
theorem dX4_choose_59 : decode cX4_choose 59 = .ok (.ifCond .ne 6, 3) := by decide +kernel
theorem dX4_choose_62 : decode cX4_choose 62 = .ok (.goto 34, 3) := by decide +kernel
theorem dX4_choose_65 : decode cX4_choose 65 = .ok (.aload_n 0, 1) := by decide +kernel
theorem dX4_choose_66 : decode cX4_choose 66 = .ok (.getfield 25, 3) := by decide +kernel
theorem dX4_choose_69 : decode cX4_choose 69 = .ok (.iload 5, 2) := by decide +kernel
theorem dX4_choose_71 : decode cX4_choose 71 = .ok (.aload_n 0, 1) := by decide +kernel
theorem dX4_choose_72 : decode cX4_choose 72 = .ok (.getfield 12, 3) := by decide +kernel
theorem dX4_choose_75 : decode cX4_choose 75 = .ok (.iload 5, 2) := by decide +kernel
theorem dX4_choose_77 : decode cX4_choose 77 = .ok (.invokevirtual 99, 3) := by decide +kernel
theorem dX4_choose_80 : decode cX4_choose 80 = .ok (.lload_n 3, 1) := by decide +kernel
theorem dX4_choose_81 : decode cX4_choose 81 = .ok (.iload 6, 2) := by decide +kernel
theorem dX4_choose_83 : decode cX4_choose 83 = .ok (.i2l, 1) := by decide +kernel
theorem dX4_choose_84 : decode cX4_choose 84 = .ok (.lrem, 1) := by decide +kernel
theorem dX4_choose_85 : decode cX4_choose 85 = .ok (.l2i, 1) := by decide +kernel
theorem dX4_choose_86 : decode cX4_choose 86 = .ok (.invokestatic 110, 3) := by decide +kernel
theorem dX4_choose_89 : decode cX4_choose 89 = .ok (.iastore, 1) := by decide +kernel
theorem dX4_choose_90 : decode cX4_choose 90 = .ok (.lload_n 3, 1) := by decide +kernel
theorem dX4_choose_91 : decode cX4_choose 91 = .ok (.iload 6, 2) := by decide +kernel
theorem dX4_choose_93 : decode cX4_choose 93 = .ok (.i2l, 1) := by decide +kernel
theorem dX4_choose_94 : decode cX4_choose 94 = .ok (.ldiv, 1) := by decide +kernel
theorem dX4_choose_95 : decode cX4_choose 95 = .ok (.lstore_n 3, 1) := by decide +kernel
theorem dX4_choose_96 : decode cX4_choose 96 = .ok (.iinc 5 (-1), 3) := by decide +kernel
theorem dX4_choose_99 : decode cX4_choose 99 = .ok (.goto (-89), 3) := by decide +kernel
theorem dX4_choose_102 : decode cX4_choose 102 = .ok (.return_, 1) := by decide +kernel
theorem dX4_letterAfter_0 : decode cX4_letterAfter 0 = .ok (.iconst 0, 1) := by decide +kernel
theorem dX4_letterAfter_1 : decode cX4_letterAfter 1 = .ok (.istore_n 2, 1) := by decide +kernel
theorem dX4_letterAfter_2 : decode cX4_letterAfter 2 = .ok (.iload_n 2, 1) := by decide +kernel
theorem dX4_letterAfter_3 : decode cX4_letterAfter 3 = .ok (.iconst 3, 1) := by decide +kernel
theorem dX4_letterAfter_4 : decode cX4_letterAfter 4 = .ok (.if_icmp .ge 34, 3) := by decide +kernel
theorem dX4_letterAfter_7 : decode cX4_letterAfter 7 = .ok (.iload_n 0, 1) := by decide +kernel
theorem dX4_letterAfter_8 : decode cX4_letterAfter 8 = .ok (.iload_n 2, 1) := by decide +kernel
theorem dX4_letterAfter_9 : decode cX4_letterAfter 9 = .ok (.ishr, 1) := by decide +kernel
theorem dX4_letterAfter_10 : decode cX4_letterAfter 10 = .ok (.iconst 1, 1) := by decide +kernel
theorem dX4_letterAfter_11 : decode cX4_letterAfter 11 = .ok (.iand, 1) := by decide +kernel
theorem dX4_letterAfter_12 : decode cX4_letterAfter 12 = .ok (.iconst 1, 1) := by decide +kernel
theorem dX4_letterAfter_13 : decode cX4_letterAfter 13 = .ok (.if_icmp .ne 19, 3) := by decide +kernel
theorem dX4_letterAfter_16 : decode cX4_letterAfter 16 = .ok (.iload_n 0, 1) := by decide +kernel
theorem dX4_letterAfter_17 : decode cX4_letterAfter 17 = .ok (.iconst 1, 1) := by decide +kernel
theorem dX4_letterAfter_18 : decode cX4_letterAfter 18 = .ok (.iload_n 2, 1) := by decide +kernel
theorem dX4_letterAfter_19 : decode cX4_letterAfter 19 = .ok (.ishl, 1) := by decide +kernel
theorem dX4_letterAfter_20 : decode cX4_letterAfter 20 = .ok (.iconst 1, 1) := by decide +kernel
theorem dX4_letterAfter_21 : decode cX4_letterAfter 21 = .ok (.isub, 1) := by decide +kernel
theorem dX4_letterAfter_22 : decode cX4_letterAfter 22 = .ok (.iand, 1) := by decide +kernel
theorem dX4_letterAfter_23 : decode cX4_letterAfter 23 = .ok (.invokestatic 102, 3) := by decide +kernel
theorem dX4_letterAfter_26 : decode cX4_letterAfter 26 = .ok (.iload_n 1, 1) := by decide +kernel
theorem dX4_letterAfter_27 : decode cX4_letterAfter 27 = .ok (.if_icmp .ne 5, 3) := by decide +kernel
theorem dX4_letterAfter_30 : decode cX4_letterAfter 30 = .ok (.iload_n 2, 1) := by decide +kernel
theorem dX4_letterAfter_31 : decode cX4_letterAfter 31 = .ok (.ireturn, 1) := by decide +kernel
theorem dX4_letterAfter_32 : decode cX4_letterAfter 32 = .ok (.iinc 2 1, 3) := by decide +kernel
theorem dX4_letterAfter_35 : decode cX4_letterAfter 35 = .ok (.goto (-33), 3) := by decide +kernel
theorem dX4_letterAfter_38 : decode cX4_letterAfter 38 = .ok (.iconst (-1), 1) := by decide +kernel
theorem dX4_letterAfter_39 : decode cX4_letterAfter 39 = .ok (.ireturn, 1) := by decide +kernel
theorem dX4_chosenLetter_0 : decode cX4_chosenLetter 0 = .ok (.iload_n 1, 1) := by decide +kernel
theorem dX4_chosenLetter_1 : decode cX4_chosenLetter 1 = .ok (.invokestatic 107, 3) := by decide +kernel
theorem dX4_chosenLetter_4 : decode cX4_chosenLetter 4 = .ok (.ifCond .eq 5, 3) := by decide +kernel
theorem dX4_chosenLetter_7 : decode cX4_chosenLetter 7 = .ok (.iconst (-1), 1) := by decide +kernel
theorem dX4_chosenLetter_8 : decode cX4_chosenLetter 8 = .ok (.ireturn, 1) := by decide +kernel
theorem dX4_chosenLetter_9 : decode cX4_chosenLetter 9 = .ok (.aload_n 0, 1) := by decide +kernel
theorem dX4_chosenLetter_10 : decode cX4_chosenLetter 10 = .ok (.getfield 12, 3) := by decide +kernel
theorem dX4_chosenLetter_13 : decode cX4_chosenLetter 13 = .ok (.aload_n 0, 1) := by decide +kernel
theorem dX4_chosenLetter_14 : decode cX4_chosenLetter 14 = .ok (.getfield 22, 3) := by decide +kernel
theorem dX4_chosenLetter_17 : decode cX4_chosenLetter 17 = .ok (.iload_n 1, 1) := by decide +kernel
theorem dX4_chosenLetter_18 : decode cX4_chosenLetter 18 = .ok (.iaload, 1) := by decide +kernel
theorem dX4_chosenLetter_19 : decode cX4_chosenLetter 19 = .ok (.iload_n 2, 1) := by decide +kernel
theorem dX4_chosenLetter_20 : decode cX4_chosenLetter 20 = .ok (.iadd, 1) := by decide +kernel
theorem dX4_chosenLetter_21 : decode cX4_chosenLetter 21 = .ok (.invokevirtual 96, 3) := by decide +kernel
theorem dX4_chosenLetter_24 : decode cX4_chosenLetter 24 = .ok (.istore_n 3, 1) := by decide +kernel
theorem dX4_chosenLetter_25 : decode cX4_chosenLetter 25 = .ok (.iload_n 3, 1) := by decide +kernel
theorem dX4_chosenLetter_26 : decode cX4_chosenLetter 26 = .ok (.iconst 3, 1) := by decide +kernel
theorem dX4_chosenLetter_27 : decode cX4_chosenLetter 27 = .ok (.if_icmp .lt 12, 3) := by decide +kernel
theorem dX4_chosenLetter_30 : decode cX4_chosenLetter 30 = .ok (.iload_n 3, 1) := by decide +kernel
theorem dX4_chosenLetter_31 : decode cX4_chosenLetter 31 = .ok (.aload_n 0, 1) := by decide +kernel
theorem dX4_chosenLetter_32 : decode cX4_chosenLetter 32 = .ok (.getfield 25, 3) := by decide +kernel
theorem dX4_chosenLetter_35 : decode cX4_chosenLetter 35 = .ok (.arraylength, 1) := by decide +kernel
theorem dX4_chosenLetter_36 : decode cX4_chosenLetter 36 = .ok (.if_icmp .lt 5, 3) := by decide +kernel
theorem dX4_chosenLetter_39 : decode cX4_chosenLetter 39 = .ok (.iload_n 3, 1) := by decide +kernel
theorem dX4_chosenLetter_40 : decode cX4_chosenLetter 40 = .ok (.ireturn, 1) := by decide +kernel
theorem dX4_chosenLetter_41 : decode cX4_chosenLetter 41 = .ok (.aload_n 0, 1) := by decide +kernel
theorem dX4_chosenLetter_42 : decode cX4_chosenLetter 42 = .ok (.getfield 25, 3) := by decide +kernel
theorem dX4_chosenLetter_45 : decode cX4_chosenLetter 45 = .ok (.iload_n 3, 1) := by decide +kernel
theorem dX4_chosenLetter_46 : decode cX4_chosenLetter 46 = .ok (.iaload, 1) := by decide +kernel
theorem dX4_chosenLetter_47 : decode cX4_chosenLetter 47 = .ok (.ireturn, 1) := by decide +kernel
theorem dX4_onlyLetter_0 : decode cX4_onlyLetter 0 = .ok (.iload_n 1, 1) := by decide +kernel
theorem dX4_onlyLetter_1 : decode cX4_onlyLetter 1 = .ok (.invokestatic 107, 3) := by decide +kernel
theorem dX4_onlyLetter_4 : decode cX4_onlyLetter 4 = .ok (.ifCond .ne 13, 3) := by decide +kernel
theorem dX4_onlyLetter_7 : decode cX4_onlyLetter 7 = .ok (.iload_n 2, 1) := by decide +kernel
theorem dX4_onlyLetter_8 : decode cX4_onlyLetter 8 = .ok (.aload_n 0, 1) := by decide +kernel
theorem dX4_onlyLetter_9 : decode cX4_onlyLetter 9 = .ok (.getfield 18, 3) := by decide +kernel
theorem dX4_onlyLetter_12 : decode cX4_onlyLetter 12 = .ok (.iload_n 1, 1) := by decide +kernel
theorem dX4_onlyLetter_13 : decode cX4_onlyLetter 13 = .ok (.iaload, 1) := by decide +kernel
theorem dX4_onlyLetter_14 : decode cX4_onlyLetter 14 = .ok (.if_icmp .lt 5, 3) := by decide +kernel
theorem dX4_onlyLetter_17 : decode cX4_onlyLetter 17 = .ok (.iconst (-1), 1) := by decide +kernel
theorem dX4_onlyLetter_18 : decode cX4_onlyLetter 18 = .ok (.ireturn, 1) := by decide +kernel
theorem dX4_onlyLetter_19 : decode cX4_onlyLetter 19 = .ok (.aload_n 0, 1) := by decide +kernel
theorem dX4_onlyLetter_20 : decode cX4_onlyLetter 20 = .ok (.getfield 12, 3) := by decide +kernel
theorem dX4_onlyLetter_23 : decode cX4_onlyLetter 23 = .ok (.aload_n 0, 1) := by decide +kernel
theorem dX4_onlyLetter_24 : decode cX4_onlyLetter 24 = .ok (.getfield 12, 3) := by decide +kernel
theorem dX4_onlyLetter_27 : decode cX4_onlyLetter 27 = .ok (.aload_n 0, 1) := by decide +kernel
theorem dX4_onlyLetter_28 : decode cX4_onlyLetter 28 = .ok (.getfield 22, 3) := by decide +kernel
theorem dX4_onlyLetter_31 : decode cX4_onlyLetter 31 = .ok (.iload_n 1, 1) := by decide +kernel
theorem dX4_onlyLetter_32 : decode cX4_onlyLetter 32 = .ok (.iaload, 1) := by decide +kernel
theorem dX4_onlyLetter_33 : decode cX4_onlyLetter 33 = .ok (.iload_n 2, 1) := by decide +kernel
theorem dX4_onlyLetter_34 : decode cX4_onlyLetter 34 = .ok (.iadd, 1) := by decide +kernel
theorem dX4_onlyLetter_35 : decode cX4_onlyLetter 35 = .ok (.invokevirtual 96, 3) := by decide +kernel
theorem dX4_onlyLetter_38 : decode cX4_onlyLetter 38 = .ok (.invokevirtual 99, 3) := by decide +kernel
theorem dX4_onlyLetter_41 : decode cX4_onlyLetter 41 = .ok (.istore_n 3, 1) := by decide +kernel
theorem dX4_onlyLetter_42 : decode cX4_onlyLetter 42 = .ok (.iload_n 3, 1) := by decide +kernel
theorem dX4_onlyLetter_43 : decode cX4_onlyLetter 43 = .ok (.invokestatic 102, 3) := by decide +kernel
theorem dX4_onlyLetter_46 : decode cX4_onlyLetter 46 = .ok (.iconst 1, 1) := by decide +kernel
theorem dX4_onlyLetter_47 : decode cX4_onlyLetter 47 = .ok (.if_icmp .ne 11, 3) := by decide +kernel
theorem dX4_onlyLetter_50 : decode cX4_onlyLetter 50 = .ok (.iload_n 3, 1) := by decide +kernel
theorem dX4_onlyLetter_51 : decode cX4_onlyLetter 51 = .ok (.iconst 0, 1) := by decide +kernel
theorem dX4_onlyLetter_52 : decode cX4_onlyLetter 52 = .ok (.invokestatic 110, 3) := by decide +kernel
theorem dX4_onlyLetter_55 : decode cX4_onlyLetter 55 = .ok (.goto 4, 3) := by decide +kernel
theorem dX4_onlyLetter_58 : decode cX4_onlyLetter 58 = .ok (.iconst (-1), 1) := by decide +kernel
theorem dX4_onlyLetter_59 : decode cX4_onlyLetter 59 = .ok (.ireturn, 1) := by decide +kernel
theorem dX4_rankOf_0 : decode cX4_rankOf 0 = .ok (.lconst 0, 1) := by decide +kernel
theorem dX4_rankOf_1 : decode cX4_rankOf 1 = .ok (.lstore_n 2, 1) := by decide +kernel
theorem dX4_rankOf_2 : decode cX4_rankOf 2 = .ok (.iconst 0, 1) := by decide +kernel
theorem dX4_rankOf_3 : decode cX4_rankOf 3 = .ok (.istore 4, 2) := by decide +kernel
theorem dX4_rankOf_5 : decode cX4_rankOf 5 = .ok (.iload 4, 2) := by decide +kernel
theorem dX4_rankOf_7 : decode cX4_rankOf 7 = .ok (.iconst 4, 1) := by decide +kernel
theorem dX4_rankOf_8 : decode cX4_rankOf 8 = .ok (.if_icmp .ge 197, 3) := by decide +kernel
theorem dX4_rankOf_11 : decode cX4_rankOf 11 = .ok (.iload 4, 2) := by decide +kernel
theorem dX4_rankOf_13 : decode cX4_rankOf 13 = .ok (.aload_n 1, 1) := by decide +kernel
theorem dX4_rankOf_14 : decode cX4_rankOf 14 = .ok (.arraylength, 1) := by decide +kernel
theorem dX4_rankOf_15 : decode cX4_rankOf 15 = .ok (.if_icmp .ge 190, 3) := by decide +kernel
theorem dX4_rankOf_18 : decode cX4_rankOf 18 = .ok (.iconst 0, 1) := by decide +kernel
theorem dX4_rankOf_19 : decode cX4_rankOf 19 = .ok (.istore 5, 2) := by decide +kernel
theorem dX4_rankOf_21 : decode cX4_rankOf 21 = .ok (.iload 5, 2) := by decide +kernel
theorem dX4_rankOf_23 : decode cX4_rankOf 23 = .ok (.aload_n 0, 1) := by decide +kernel
theorem dX4_rankOf_24 : decode cX4_rankOf 24 = .ok (.getfield 18, 3) := by decide +kernel
theorem dX4_rankOf_27 : decode cX4_rankOf 27 = .ok (.iload 4, 2) := by decide +kernel
theorem dX4_rankOf_29 : decode cX4_rankOf 29 = .ok (.iaload, 1) := by decide +kernel
theorem dX4_rankOf_30 : decode cX4_rankOf 30 = .ok (.if_icmp .ge 169, 3) := by decide +kernel
theorem dX4_rankOf_33 : decode cX4_rankOf 33 = .ok (.aload_n 0, 1) := by decide +kernel
theorem dX4_rankOf_34 : decode cX4_rankOf 34 = .ok (.getfield 22, 3) := by decide +kernel
theorem dX4_rankOf_37 : decode cX4_rankOf 37 = .ok (.iload 4, 2) := by decide +kernel
theorem dX4_rankOf_39 : decode cX4_rankOf 39 = .ok (.iaload, 1) := by decide +kernel
theorem dX4_rankOf_40 : decode cX4_rankOf 40 = .ok (.iload 5, 2) := by decide +kernel
theorem dX4_rankOf_42 : decode cX4_rankOf 42 = .ok (.iadd, 1) := by decide +kernel
theorem dX4_rankOf_43 : decode cX4_rankOf 43 = .ok (.istore 6, 2) := by decide +kernel
theorem dX4_rankOf_45 : decode cX4_rankOf 45 = .ok (.aload_n 0, 1) := by decide +kernel
theorem dX4_rankOf_46 : decode cX4_rankOf 46 = .ok (.getfield 12, 3) := by decide +kernel
theorem dX4_rankOf_49 : decode cX4_rankOf 49 = .ok (.iload 6, 2) := by decide +kernel
theorem dX4_rankOf_51 : decode cX4_rankOf 51 = .ok (.invokevirtual 96, 3) := by decide +kernel
theorem dX4_rankOf_54 : decode cX4_rankOf 54 = .ok (.istore 7, 2) := by decide +kernel
theorem dX4_rankOf_56 : decode cX4_rankOf 56 = .ok (.aload_n 1, 1) := by decide +kernel
theorem dX4_rankOf_57 : decode cX4_rankOf 57 = .ok (.iload 4, 2) := by decide +kernel
theorem dX4_rankOf_59 : decode cX4_rankOf 59 = .ok (.iaload, 1) := by decide +kernel
theorem dX4_rankOf_60 : decode cX4_rankOf 60 = .ok (.i2l, 1) := by decide +kernel
theorem dX4_rankOf_61 : decode cX4_rankOf 61 = .ok (.iload 5, 2) := by decide +kernel
theorem dX4_rankOf_63 : decode cX4_rankOf 63 = .ok (.invokestatic 113, 3) := by decide +kernel
theorem dX4_rankOf_66 : decode cX4_rankOf 66 = .ok (.istore 8, 2) := by decide +kernel
theorem dX4_rankOf_68 : decode cX4_rankOf 68 = .ok (.iload 7, 2) := by decide +kernel
theorem dX4_rankOf_70 : decode cX4_rankOf 70 = .ok (.ifCond .lt 13, 3) := by decide +kernel
theorem dX4_rankOf_73 : decode cX4_rankOf 73 = .ok (.iload 6, 2) := by decide +kernel
theorem dX4_rankOf_75 : decode cX4_rankOf 75 = .ok (.aload_n 0, 1) := by decide +kernel
theorem dX4_rankOf_76 : decode cX4_rankOf 76 = .ok (.getfield 25, 3) := by decide +kernel
theorem dX4_rankOf_79 : decode cX4_rankOf 79 = .ok (.arraylength, 1) := by decide +kernel
theorem dX4_rankOf_80 : decode cX4_rankOf 80 = .ok (.if_icmp .lt 7, 3) := by decide +kernel
theorem dX4_rankOf_83 : decode cX4_rankOf 83 = .ok (.ldc2_w 117, 3) := by decide +kernel
theorem dX4_rankOf_86 : decode cX4_rankOf 86 = .ok (.lreturn, 1) := by decide +kernel
theorem dX4_rankOf_87 : decode cX4_rankOf 87 = .ok (.iload 7, 2) := by decide +kernel
theorem dX4_rankOf_89 : decode cX4_rankOf 89 = .ok (.iconst 3, 1) := by decide +kernel
theorem dX4_rankOf_90 : decode cX4_rankOf 90 = .ok (.if_icmp .ge 13, 3) := by decide +kernel
theorem dX4_rankOf_93 : decode cX4_rankOf 93 = .ok (.iload 7, 2) := by decide +kernel
theorem dX4_rankOf_95 : decode cX4_rankOf 95 = .ok (.iload 8, 2) := by decide +kernel
theorem dX4_rankOf_97 : decode cX4_rankOf 97 = .ok (.if_icmp .eq 29, 3) := by decide +kernel
theorem dX4_rankOf_100 : decode cX4_rankOf 100 = .ok (.goto 22, 3) := by decide +kernel
theorem dX4_rankOf_103 : decode cX4_rankOf 103 = .ok (.iload 7, 2) := by decide +kernel
theorem dX4_rankOf_105 : decode cX4_rankOf 105 = .ok (.iload 6, 2) := by decide +kernel
theorem dX4_rankOf_107 : decode cX4_rankOf 107 = .ok (.if_icmp .eq 19, 3) := by decide +kernel
theorem dX4_rankOf_110 : decode cX4_rankOf 110 = .ok (.aload_n 0, 1) := by decide +kernel
theorem dX4_rankOf_111 : decode cX4_rankOf 111 = .ok (.getfield 25, 3) := by decide +kernel
theorem dX4_rankOf_114 : decode cX4_rankOf 114 = .ok (.iload 7, 2) := by decide +kernel
theorem dX4_rankOf_116 : decode cX4_rankOf 116 = .ok (.iaload, 1) := by decide +kernel
theorem dX4_rankOf_117 : decode cX4_rankOf 117 = .ok (.iload 8, 2) := by decide +kernel
theorem dX4_rankOf_119 : decode cX4_rankOf 119 = .ok (.if_icmp .eq 7, 3) := by decide +kernel
theorem dX4_rankOf_122 : decode cX4_rankOf 122 = .ok (.ldc2_w 117, 3) := by decide +kernel
theorem dX4_rankOf_125 : decode cX4_rankOf 125 = .ok (.lreturn, 1) := by decide +kernel
theorem dX4_rankOf_126 : decode cX4_rankOf 126 = .ok (.aload_n 0, 1) := by decide +kernel
theorem dX4_rankOf_127 : decode cX4_rankOf 127 = .ok (.getfield 25, 3) := by decide +kernel
theorem dX4_rankOf_130 : decode cX4_rankOf 130 = .ok (.iload 6, 2) := by decide +kernel
theorem dX4_rankOf_132 : decode cX4_rankOf 132 = .ok (.iload 8, 2) := by decide +kernel
theorem dX4_rankOf_134 : decode cX4_rankOf 134 = .ok (.iastore, 1) := by decide +kernel
theorem dX4_rankOf_135 : decode cX4_rankOf 135 = .ok (.iload 7, 2) := by decide +kernel
theorem dX4_rankOf_137 : decode cX4_rankOf 137 = .ok (.iload 6, 2) := by decide +kernel
theorem dX4_rankOf_139 : decode cX4_rankOf 139 = .ok (.if_icmp .eq 6, 3) := by decide +kernel
theorem dX4_rankOf_142 : decode cX4_rankOf 142 = .ok (.goto 51, 3) := by decide +kernel
theorem dX4_rankOf_145 : decode cX4_rankOf 145 = .ok (.aload_n 0, 1) := by decide +kernel
theorem dX4_rankOf_146 : decode cX4_rankOf 146 = .ok (.getfield 12, 3) := by decide +kernel
theorem dX4_rankOf_149 : decode cX4_rankOf 149 = .ok (.iload 6, 2) := by decide +kernel
theorem dX4_rankOf_151 : decode cX4_rankOf 151 = .ok (.invokevirtual 99, 3) := by decide +kernel
theorem dX4_rankOf_154 : decode cX4_rankOf 154 = .ok (.istore 9, 2) := by decide +kernel
theorem dX4_rankOf_156 : decode cX4_rankOf 156 = .ok (.iload 9, 2) := by decide +kernel
theorem dX4_rankOf_158 : decode cX4_rankOf 158 = .ok (.iload 8, 2) := by decide +kernel
theorem dX4_rankOf_160 : decode cX4_rankOf 160 = .ok (.ishr, 1) := by decide +kernel
theorem dX4_rankOf_161 : decode cX4_rankOf 161 = .ok (.iconst 1, 1) := by decide +kernel
theorem dX4_rankOf_162 : decode cX4_rankOf 162 = .ok (.iand, 1) := by decide +kernel
theorem dX4_rankOf_163 : decode cX4_rankOf 163 = .ok (.ifCond .ne 7, 3) := by decide +kernel
theorem dX4_rankOf_166 : decode cX4_rankOf 166 = .ok (.ldc2_w 117, 3) := by decide +kernel
theorem dX4_rankOf_169 : decode cX4_rankOf 169 = .ok (.lreturn, 1) := by decide +kernel
theorem dX4_rankOf_170 : decode cX4_rankOf 170 = .ok (.lload_n 2, 1) := by decide +kernel
theorem dX4_rankOf_171 : decode cX4_rankOf 171 = .ok (.iload 9, 2) := by decide +kernel
theorem dX4_rankOf_173 : decode cX4_rankOf 173 = .ok (.invokestatic 102, 3) := by decide +kernel
theorem dX4_rankOf_176 : decode cX4_rankOf 176 = .ok (.i2l, 1) := by decide +kernel
theorem dX4_rankOf_177 : decode cX4_rankOf 177 = .ok (.lmul, 1) := by decide +kernel
theorem dX4_rankOf_178 : decode cX4_rankOf 178 = .ok (.iload 9, 2) := by decide +kernel
theorem dX4_rankOf_180 : decode cX4_rankOf 180 = .ok (.iconst 1, 1) := by decide +kernel
theorem dX4_rankOf_181 : decode cX4_rankOf 181 = .ok (.iload 8, 2) := by decide +kernel
theorem dX4_rankOf_183 : decode cX4_rankOf 183 = .ok (.ishl, 1) := by decide +kernel
theorem dX4_rankOf_184 : decode cX4_rankOf 184 = .ok (.iconst 1, 1) := by decide +kernel
theorem dX4_rankOf_185 : decode cX4_rankOf 185 = .ok (.isub, 1) := by decide +kernel
theorem dX4_rankOf_186 : decode cX4_rankOf 186 = .ok (.iand, 1) := by decide +kernel
theorem dX4_rankOf_187 : decode cX4_rankOf 187 = .ok (.invokestatic 102, 3) := by decide +kernel
theorem dX4_rankOf_190 : decode cX4_rankOf 190 = .ok (.i2l, 1) := by decide +kernel
theorem dX4_rankOf_191 : decode cX4_rankOf 191 = .ok (.ladd, 1) := by decide +kernel
theorem dX4_rankOf_192 : decode cX4_rankOf 192 = .ok (.lstore_n 2, 1) := by decide +kernel
theorem dX4_rankOf_193 : decode cX4_rankOf 193 = .ok (.iinc 5 1, 3) := by decide +kernel
theorem dX4_rankOf_196 : decode cX4_rankOf 196 = .ok (.goto (-175), 3) := by decide +kernel
theorem dX4_rankOf_199 : decode cX4_rankOf 199 = .ok (.iinc 4 1, 3) := by decide +kernel
theorem dX4_rankOf_202 : decode cX4_rankOf 202 = .ok (.goto (-197), 3) := by decide +kernel
theorem dX4_rankOf_205 : decode cX4_rankOf 205 = .ok (.lload_n 2, 1) := by decide +kernel
theorem dX4_rankOf_206 : decode cX4_rankOf 206 = .ok (.lreturn, 1) := by decide +kernel
theorem dJ6_bitCount_0f7a4_0 : decode cJ6_bitCount_0f7a4 0 = .ok (.iload_n 0, 1) := by decide +kernel
theorem dJ6_bitCount_0f7a4_1 : decode cJ6_bitCount_0f7a4 1 = .ok (.iload_n 0, 1) := by decide +kernel
theorem dJ6_bitCount_0f7a4_2 : decode cJ6_bitCount_0f7a4 2 = .ok (.iconst 1, 1) := by decide +kernel
theorem dJ6_bitCount_0f7a4_3 : decode cJ6_bitCount_0f7a4 3 = .ok (.iushr, 1) := by decide +kernel
theorem dJ6_bitCount_0f7a4_4 : decode cJ6_bitCount_0f7a4 4 = .ok (.ldc_w 265, 3) := by decide +kernel
theorem dJ6_bitCount_0f7a4_7 : decode cJ6_bitCount_0f7a4 7 = .ok (.iand, 1) := by decide +kernel
theorem dJ6_bitCount_0f7a4_8 : decode cJ6_bitCount_0f7a4 8 = .ok (.isub, 1) := by decide +kernel
theorem dJ6_bitCount_0f7a4_9 : decode cJ6_bitCount_0f7a4 9 = .ok (.istore_n 0, 1) := by decide +kernel
theorem dJ6_bitCount_0f7a4_10 : decode cJ6_bitCount_0f7a4 10 = .ok (.iload_n 0, 1) := by decide +kernel
theorem dJ6_bitCount_0f7a4_11 : decode cJ6_bitCount_0f7a4 11 = .ok (.ldc_w 266, 3) := by decide +kernel
theorem dJ6_bitCount_0f7a4_14 : decode cJ6_bitCount_0f7a4 14 = .ok (.iand, 1) := by decide +kernel
theorem dJ6_bitCount_0f7a4_15 : decode cJ6_bitCount_0f7a4 15 = .ok (.iload_n 0, 1) := by decide +kernel
theorem dJ6_bitCount_0f7a4_16 : decode cJ6_bitCount_0f7a4 16 = .ok (.iconst 2, 1) := by decide +kernel
theorem dJ6_bitCount_0f7a4_17 : decode cJ6_bitCount_0f7a4 17 = .ok (.iushr, 1) := by decide +kernel
theorem dJ6_bitCount_0f7a4_18 : decode cJ6_bitCount_0f7a4 18 = .ok (.ldc_w 266, 3) := by decide +kernel
theorem dJ6_bitCount_0f7a4_21 : decode cJ6_bitCount_0f7a4 21 = .ok (.iand, 1) := by decide +kernel
theorem dJ6_bitCount_0f7a4_22 : decode cJ6_bitCount_0f7a4 22 = .ok (.iadd, 1) := by decide +kernel
theorem dJ6_bitCount_0f7a4_23 : decode cJ6_bitCount_0f7a4 23 = .ok (.istore_n 0, 1) := by decide +kernel
theorem dJ6_bitCount_0f7a4_24 : decode cJ6_bitCount_0f7a4 24 = .ok (.iload_n 0, 1) := by decide +kernel
theorem dJ6_bitCount_0f7a4_25 : decode cJ6_bitCount_0f7a4 25 = .ok (.iload_n 0, 1) := by decide +kernel
theorem dJ6_bitCount_0f7a4_26 : decode cJ6_bitCount_0f7a4 26 = .ok (.iconst 4, 1) := by decide +kernel
theorem dJ6_bitCount_0f7a4_27 : decode cJ6_bitCount_0f7a4 27 = .ok (.iushr, 1) := by decide +kernel
theorem dJ6_bitCount_0f7a4_28 : decode cJ6_bitCount_0f7a4 28 = .ok (.iadd, 1) := by decide +kernel
theorem dJ6_bitCount_0f7a4_29 : decode cJ6_bitCount_0f7a4 29 = .ok (.ldc_w 267, 3) := by decide +kernel
theorem dJ6_bitCount_0f7a4_32 : decode cJ6_bitCount_0f7a4 32 = .ok (.iand, 1) := by decide +kernel
theorem dJ6_bitCount_0f7a4_33 : decode cJ6_bitCount_0f7a4 33 = .ok (.istore_n 0, 1) := by decide +kernel
theorem dJ6_bitCount_0f7a4_34 : decode cJ6_bitCount_0f7a4 34 = .ok (.iload_n 0, 1) := by decide +kernel
theorem dJ6_bitCount_0f7a4_35 : decode cJ6_bitCount_0f7a4 35 = .ok (.iload_n 0, 1) := by decide +kernel
theorem dJ6_bitCount_0f7a4_36 : decode cJ6_bitCount_0f7a4 36 = .ok (.bipush 8, 2) := by decide +kernel
theorem dJ6_bitCount_0f7a4_38 : decode cJ6_bitCount_0f7a4 38 = .ok (.iushr, 1) := by decide +kernel
theorem dJ6_bitCount_0f7a4_39 : decode cJ6_bitCount_0f7a4 39 = .ok (.iadd, 1) := by decide +kernel
theorem dJ6_bitCount_0f7a4_40 : decode cJ6_bitCount_0f7a4 40 = .ok (.istore_n 0, 1) := by decide +kernel
theorem dJ6_bitCount_0f7a4_41 : decode cJ6_bitCount_0f7a4 41 = .ok (.iload_n 0, 1) := by decide +kernel
theorem dJ6_bitCount_0f7a4_42 : decode cJ6_bitCount_0f7a4 42 = .ok (.iload_n 0, 1) := by decide +kernel
theorem dJ6_bitCount_0f7a4_43 : decode cJ6_bitCount_0f7a4 43 = .ok (.bipush 16, 2) := by decide +kernel
theorem dJ6_bitCount_0f7a4_45 : decode cJ6_bitCount_0f7a4 45 = .ok (.iushr, 1) := by decide +kernel
theorem dJ6_bitCount_0f7a4_46 : decode cJ6_bitCount_0f7a4 46 = .ok (.iadd, 1) := by decide +kernel
theorem dJ6_bitCount_0f7a4_47 : decode cJ6_bitCount_0f7a4 47 = .ok (.istore_n 0, 1) := by decide +kernel
theorem dJ6_bitCount_0f7a4_48 : decode cJ6_bitCount_0f7a4 48 = .ok (.iload_n 0, 1) := by decide +kernel
theorem dJ6_bitCount_0f7a4_49 : decode cJ6_bitCount_0f7a4 49 = .ok (.bipush 63, 2) := by decide +kernel
theorem dJ6_bitCount_0f7a4_51 : decode cJ6_bitCount_0f7a4 51 = .ok (.iand, 1) := by decide +kernel
theorem dJ6_bitCount_0f7a4_52 : decode cJ6_bitCount_0f7a4 52 = .ok (.ireturn, 1) := by decide +kernel
theorem dJ9_max_7cf53_0 : decode cJ9_max_7cf53 0 = .ok (.iload_n 0, 1) := by decide +kernel
theorem dJ9_max_7cf53_1 : decode cJ9_max_7cf53 1 = .ok (.iload_n 1, 1) := by decide +kernel
theorem dJ9_max_7cf53_2 : decode cJ9_max_7cf53 2 = .ok (.if_icmp .lt 7, 3) := by decide +kernel
theorem dJ9_max_7cf53_5 : decode cJ9_max_7cf53 5 = .ok (.iload_n 0, 1) := by decide +kernel
theorem dJ9_max_7cf53_6 : decode cJ9_max_7cf53 6 = .ok (.goto 4, 3) := by decide +kernel
theorem dJ9_max_7cf53_9 : decode cJ9_max_7cf53 9 = .ok (.iload_n 1, 1) := by decide +kernel
theorem dJ9_max_7cf53_10 : decode cJ9_max_7cf53 10 = .ok (.ireturn, 1) := by decide +kernel
theorem dJ9_min_7cf53_0 : decode cJ9_min_7cf53 0 = .ok (.iload_n 0, 1) := by decide +kernel
theorem dJ9_min_7cf53_1 : decode cJ9_min_7cf53 1 = .ok (.iload_n 1, 1) := by decide +kernel
theorem dJ9_min_7cf53_2 : decode cJ9_min_7cf53 2 = .ok (.if_icmp .gt 7, 3) := by decide +kernel
theorem dJ9_min_7cf53_5 : decode cJ9_min_7cf53 5 = .ok (.iload_n 0, 1) := by decide +kernel
theorem dJ9_min_7cf53_6 : decode cJ9_min_7cf53 6 = .ok (.goto 4, 3) := by decide +kernel
theorem dJ9_min_7cf53_9 : decode cJ9_min_7cf53 9 = .ok (.iload_n 1, 1) := by decide +kernel
theorem dJ9_min_7cf53_10 : decode cJ9_min_7cf53 10 = .ok (.ireturn, 1) := by decide +kernel
theorem dJ7_fill_53178_0 : decode cJ7_fill_53178 0 = .ok (.iconst 0, 1) := by decide +kernel
theorem dJ7_fill_53178_1 : decode cJ7_fill_53178 1 = .ok (.istore_n 2, 1) := by decide +kernel
theorem dJ7_fill_53178_2 : decode cJ7_fill_53178 2 = .ok (.aload_n 0, 1) := by decide +kernel
theorem dJ7_fill_53178_3 : decode cJ7_fill_53178 3 = .ok (.arraylength, 1) := by decide +kernel
theorem dJ7_fill_53178_4 : decode cJ7_fill_53178 4 = .ok (.istore_n 3, 1) := by decide +kernel
theorem dJ7_fill_53178_5 : decode cJ7_fill_53178 5 = .ok (.iload_n 2, 1) := by decide +kernel
theorem dJ7_fill_53178_6 : decode cJ7_fill_53178 6 = .ok (.iload_n 3, 1) := by decide +kernel
theorem dJ7_fill_53178_7 : decode cJ7_fill_53178 7 = .ok (.if_icmp .ge 13, 3) := by decide +kernel
theorem dJ7_fill_53178_10 : decode cJ7_fill_53178 10 = .ok (.aload_n 0, 1) := by decide +kernel
theorem dJ7_fill_53178_11 : decode cJ7_fill_53178 11 = .ok (.iload_n 2, 1) := by decide +kernel
theorem dJ7_fill_53178_12 : decode cJ7_fill_53178 12 = .ok (.iload_n 1, 1) := by decide +kernel
theorem dJ7_fill_53178_13 : decode cJ7_fill_53178 13 = .ok (.iastore, 1) := by decide +kernel
theorem dJ7_fill_53178_14 : decode cJ7_fill_53178 14 = .ok (.iinc 2 1, 3) := by decide +kernel
theorem dJ7_fill_53178_17 : decode cJ7_fill_53178 17 = .ok (.goto (-12), 3) := by decide +kernel
theorem dJ7_fill_53178_20 : decode cJ7_fill_53178 20 = .ok (.return_, 1) := by decide +kernel
