theorem dX5_init_0 : decode cX5_init 0 = .ok (.aload_n 0, 1) := by decide +kernel
theorem dX5_init_1 : decode cX5_init 1 = .ok (.invokespecial 3, 3) := by decide +kernel
theorem dX5_init_4 : decode cX5_init 4 = .ok (.aload_n 0, 1) := by decide +kernel
theorem dX5_init_5 : decode cX5_init 5 = .ok (.new 9, 3) := by decide +kernel
theorem dX5_init_8 : decode cX5_init 8 = .ok (.dup, 1) := by decide +kernel
theorem dX5_init_9 : decode cX5_init 9 = .ok (.invokespecial 11, 3) := by decide +kernel
theorem dX5_init_12 : decode cX5_init 12 = .ok (.putfield 12, 3) := by decide +kernel
theorem dX5_init_15 : decode cX5_init 15 = .ok (.aload_n 0, 1) := by decide +kernel
theorem dX5_init_16 : decode cX5_init 16 = .ok (.new 9, 3) := by decide +kernel
theorem dX5_init_19 : decode cX5_init 19 = .ok (.dup, 1) := by decide +kernel
theorem dX5_init_20 : decode cX5_init 20 = .ok (.invokespecial 11, 3) := by decide +kernel
theorem dX5_init_23 : decode cX5_init 23 = .ok (.putfield 18, 3) := by decide +kernel
theorem dX5_init_26 : decode cX5_init 26 = .ok (.aload_n 0, 1) := by decide +kernel
theorem dX5_init_27 : decode cX5_init 27 = .ok (.sipush 1500, 3) := by decide +kernel
theorem dX5_init_30 : decode cX5_init 30 = .ok (.newarray .long, 2) := by decide +kernel
theorem dX5_init_32 : decode cX5_init 32 = .ok (.putfield 21, 3) := by decide +kernel
theorem dX5_init_35 : decode cX5_init 35 = .ok (.aload_n 0, 1) := by decide +kernel
theorem dX5_init_36 : decode cX5_init 36 = .ok (.sipush 1500, 3) := by decide +kernel
theorem dX5_init_39 : decode cX5_init 39 = .ok (.newarray .int, 2) := by decide +kernel
theorem dX5_init_41 : decode cX5_init 41 = .ok (.putfield 25, 3) := by decide +kernel
theorem dX5_init_44 : decode cX5_init 44 = .ok (.aload_n 0, 1) := by decide +kernel
theorem dX5_init_45 : decode cX5_init 45 = .ok (.sipush 4096, 3) := by decide +kernel
theorem dX5_init_48 : decode cX5_init 48 = .ok (.newarray .int, 2) := by decide +kernel
theorem dX5_init_50 : decode cX5_init 50 = .ok (.putfield 29, 3) := by decide +kernel
theorem dX5_init_53 : decode cX5_init 53 = .ok (.aload_n 0, 1) := by decide +kernel
theorem dX5_init_54 : decode cX5_init 54 = .ok (.sipush 6000, 3) := by decide +kernel
theorem dX5_init_57 : decode cX5_init 57 = .ok (.newarray .int, 2) := by decide +kernel
theorem dX5_init_59 : decode cX5_init 59 = .ok (.putfield 32, 3) := by decide +kernel
theorem dX5_init_62 : decode cX5_init 62 = .ok (.aload_n 0, 1) := by decide +kernel
theorem dX5_init_63 : decode cX5_init 63 = .ok (.sipush 6000, 3) := by decide +kernel
theorem dX5_init_66 : decode cX5_init 66 = .ok (.newarray .boolean, 2) := by decide +kernel
theorem dX5_init_68 : decode cX5_init 68 = .ok (.putfield 35, 3) := by decide +kernel
theorem dX5_init_71 : decode cX5_init 71 = .ok (.aload_n 0, 1) := by decide +kernel
theorem dX5_init_72 : decode cX5_init 72 = .ok (.sipush 1500, 3) := by decide +kernel
theorem dX5_init_75 : decode cX5_init 75 = .ok (.newarray .int, 2) := by decide +kernel
theorem dX5_init_77 : decode cX5_init 77 = .ok (.putfield 39, 3) := by decide +kernel
theorem dX5_init_80 : decode cX5_init 80 = .ok (.aload_n 0, 1) := by decide +kernel
theorem dX5_init_81 : decode cX5_init 81 = .ok (.sipush 1500, 3) := by decide +kernel
theorem dX5_init_84 : decode cX5_init 84 = .ok (.newarray .int, 2) := by decide +kernel
theorem dX5_init_86 : decode cX5_init 86 = .ok (.putfield 42, 3) := by decide +kernel
theorem dX5_init_89 : decode cX5_init 89 = .ok (.aload_n 0, 1) := by decide +kernel
theorem dX5_init_90 : decode cX5_init 90 = .ok (.sipush 6000, 3) := by decide +kernel
theorem dX5_init_93 : decode cX5_init 93 = .ok (.newarray .int, 2) := by decide +kernel
theorem dX5_init_95 : decode cX5_init 95 = .ok (.putfield 45, 3) := by decide +kernel
theorem dX5_init_98 : decode cX5_init 98 = .ok (.aload_n 0, 1) := by decide +kernel
theorem dX5_init_99 : decode cX5_init 99 = .ok (.sipush 1500, 3) := by decide +kernel
theorem dX5_init_102 : decode cX5_init 102 = .ok (.newarray .boolean, 2) := by decide +kernel
theorem dX5_init_104 : decode cX5_init 104 = .ok (.putfield 48, 3) := by decide +kernel
theorem dX5_init_107 : decode cX5_init 107 = .ok (.aload_n 0, 1) := by decide +kernel
theorem dX5_init_108 : decode cX5_init 108 = .ok (.sipush 1500, 3) := by decide +kernel
theorem dX5_init_111 : decode cX5_init 111 = .ok (.newarray .int, 2) := by decide +kernel
theorem dX5_init_113 : decode cX5_init 113 = .ok (.putfield 51, 3) := by decide +kernel
theorem dX5_init_116 : decode cX5_init 116 = .ok (.aload_n 0, 1) := by decide +kernel
theorem dX5_init_117 : decode cX5_init 117 = .ok (.sipush 1500, 3) := by decide +kernel
theorem dX5_init_120 : decode cX5_init 120 = .ok (.newarray .int, 2) := by decide +kernel
theorem dX5_init_122 : decode cX5_init 122 = .ok (.putfield 54, 3) := by decide +kernel
theorem dX5_init_125 : decode cX5_init 125 = .ok (.aload_n 0, 1) := by decide +kernel
theorem dX5_init_126 : decode cX5_init 126 = .ok (.iconst 0, 1) := by decide +kernel
theorem dX5_init_127 : decode cX5_init 127 = .ok (.putfield 57, 3) := by decide +kernel
theorem dX5_init_130 : decode cX5_init 130 = .ok (.aload_n 0, 1) := by decide +kernel
theorem dX5_init_131 : decode cX5_init 131 = .ok (.iconst (-1), 1) := by decide +kernel
theorem dX5_init_132 : decode cX5_init 132 = .ok (.putfield 61, 3) := by decide +kernel
theorem dX5_init_135 : decode cX5_init 135 = .ok (.aload_n 0, 1) := by decide +kernel
theorem dX5_init_136 : decode cX5_init 136 = .ok (.iconst 0, 1) := by decide +kernel
theorem dX5_init_137 : decode cX5_init 137 = .ok (.putfield 64, 3) := by decide +kernel
theorem dX5_init_140 : decode cX5_init 140 = .ok (.aload_n 0, 1) := by decide +kernel
theorem dX5_init_141 : decode cX5_init 141 = .ok (.iconst 0, 1) := by decide +kernel
theorem dX5_init_142 : decode cX5_init 142 = .ok (.putfield 68, 3) := by decide +kernel
theorem dX5_init_145 : decode cX5_init 145 = .ok (.return_, 1) := by decide +kernel
theorem dX5_length_0 : decode cX5_length 0 = .ok (.aload_n 0, 1) := by decide +kernel
theorem dX5_length_1 : decode cX5_length 1 = .ok (.getfield 57, 3) := by decide +kernel
theorem dX5_length_4 : decode cX5_length 4 = .ok (.ireturn, 1) := by decide +kernel
theorem dX5_isSpent_0 : decode cX5_isSpent 0 = .ok (.aload_n 0, 1) := by decide +kernel
theorem dX5_isSpent_1 : decode cX5_isSpent 1 = .ok (.getfield 64, 3) := by decide +kernel
theorem dX5_isSpent_4 : decode cX5_isSpent 4 = .ok (.ireturn, 1) := by decide +kernel
theorem dX5_hasAnswer_0 : decode cX5_hasAnswer 0 = .ok (.aload_n 0, 1) := by decide +kernel
theorem dX5_hasAnswer_1 : decode cX5_hasAnswer 1 = .ok (.getfield 61, 3) := by decide +kernel
theorem dX5_hasAnswer_4 : decode cX5_hasAnswer 4 = .ok (.iconst (-1), 1) := by decide +kernel
theorem dX5_hasAnswer_5 : decode cX5_hasAnswer 5 = .ok (.if_icmp .eq 7, 3) := by decide +kernel
theorem dX5_hasAnswer_8 : decode cX5_hasAnswer 8 = .ok (.iconst 1, 1) := by decide +kernel
theorem dX5_hasAnswer_9 : decode cX5_hasAnswer 9 = .ok (.goto 4, 3) := by decide +kernel
theorem dX5_hasAnswer_12 : decode cX5_hasAnswer 12 = .ok (.iconst 0, 1) := by decide +kernel
theorem dX5_hasAnswer_13 : decode cX5_hasAnswer 13 = .ok (.ireturn, 1) := by decide +kernel
theorem dX5_grow_0 : decode cX5_grow 0 = .ok (.aload_n 0, 1) := by decide +kernel
theorem dX5_grow_1 : decode cX5_grow 1 = .ok (.iconst 0, 1) := by decide +kernel
theorem dX5_grow_2 : decode cX5_grow 2 = .ok (.putfield 57, 3) := by decide +kernel
theorem dX5_grow_5 : decode cX5_grow 5 = .ok (.aload_n 0, 1) := by decide +kernel
theorem dX5_grow_6 : decode cX5_grow 6 = .ok (.iconst (-1), 1) := by decide +kernel
theorem dX5_grow_7 : decode cX5_grow 7 = .ok (.putfield 61, 3) := by decide +kernel
theorem dX5_grow_10 : decode cX5_grow 10 = .ok (.aload_n 0, 1) := by decide +kernel
theorem dX5_grow_11 : decode cX5_grow 11 = .ok (.iconst 0, 1) := by decide +kernel
theorem dX5_grow_12 : decode cX5_grow 12 = .ok (.putfield 64, 3) := by decide +kernel
theorem dX5_grow_15 : decode cX5_grow 15 = .ok (.aload_n 0, 1) := by decide +kernel
theorem dX5_grow_16 : decode cX5_grow 16 = .ok (.getfield 29, 3) := by decide +kernel
theorem dX5_grow_19 : decode cX5_grow 19 = .ok (.iconst 0, 1) := by decide +kernel
theorem dX5_grow_20 : decode cX5_grow 20 = .ok (.invokestatic 71, 3) := by decide +kernel
theorem dX5_grow_23 : decode cX5_grow 23 = .ok (.aload_n 0, 1) := by decide +kernel
theorem dX5_grow_24 : decode cX5_grow 24 = .ok (.getfield 18, 3) := by decide +kernel
theorem dX5_grow_27 : decode cX5_grow 27 = .ok (.aload_n 1, 1) := by decide +kernel
theorem dX5_grow_28 : decode cX5_grow 28 = .ok (.aload_n 2, 1) := by decide +kernel
theorem dX5_grow_29 : decode cX5_grow 29 = .ok (.invokevirtual 77, 3) := by decide +kernel
theorem dX5_grow_32 : decode cX5_grow 32 = .ok (.aload_n 0, 1) := by decide +kernel
theorem dX5_grow_33 : decode cX5_grow 33 = .ok (.getfield 18, 3) := by decide +kernel
theorem dX5_grow_36 : decode cX5_grow 36 = .ok (.invokevirtual 81, 3) := by decide +kernel
theorem dX5_grow_39 : decode cX5_grow 39 = .ok (.istore_n 3, 1) := by decide +kernel
theorem dX5_grow_40 : decode cX5_grow 40 = .ok (.aload_n 0, 1) := by decide +kernel
theorem dX5_grow_41 : decode cX5_grow 41 = .ok (.getfield 18, 3) := by decide +kernel
theorem dX5_grow_44 : decode cX5_grow 44 = .ok (.invokevirtual 85, 3) := by decide +kernel
theorem dX5_grow_47 : decode cX5_grow 47 = .ok (.aload_n 0, 1) := by decide +kernel
theorem dX5_grow_48 : decode cX5_grow 48 = .ok (.iload_n 3, 1) := by decide +kernel
theorem dX5_grow_49 : decode cX5_grow 49 = .ok (.aload_n 0, 1) := by decide +kernel
theorem dX5_grow_50 : decode cX5_grow 50 = .ok (.getfield 18, 3) := by decide +kernel
theorem dX5_grow_53 : decode cX5_grow 53 = .ok (.invokevirtual 81, 3) := by decide +kernel
theorem dX5_grow_56 : decode cX5_grow 56 = .ok (.iconst (-1), 1) := by decide +kernel
theorem dX5_grow_57 : decode cX5_grow 57 = .ok (.ixor, 1) := by decide +kernel
theorem dX5_grow_58 : decode cX5_grow 58 = .ok (.iand, 1) := by decide +kernel
theorem dX5_grow_59 : decode cX5_grow 59 = .ok (.ifCond .eq 7, 3) := by decide +kernel
theorem dX5_grow_62 : decode cX5_grow 62 = .ok (.iconst 1, 1) := by decide +kernel
theorem dX5_grow_63 : decode cX5_grow 63 = .ok (.goto 4, 3) := by decide +kernel
theorem dX5_grow_66 : decode cX5_grow 66 = .ok (.iconst 0, 1) := by decide +kernel
theorem dX5_grow_67 : decode cX5_grow 67 = .ok (.putfield 68, 3) := by decide +kernel
theorem dX5_grow_70 : decode cX5_grow 70 = .ok (.aload_n 0, 1) := by decide +kernel
theorem dX5_grow_71 : decode cX5_grow 71 = .ok (.iconst (-1), 1) := by decide +kernel
theorem dX5_grow_72 : decode cX5_grow 72 = .ok (.invokevirtual 88, 3) := by decide +kernel
theorem dX5_grow_75 : decode cX5_grow 75 = .ok (.pop, 1) := by decide +kernel
theorem dX5_grow_76 : decode cX5_grow 76 = .ok (.iconst 0, 1) := by decide +kernel
theorem dX5_grow_77 : decode cX5_grow 77 = .ok (.istore 4, 2) := by decide +kernel
theorem dX5_grow_79 : decode cX5_grow 79 = .ok (.iload 4, 2) := by decide +kernel
theorem dX5_grow_81 : decode cX5_grow 81 = .ok (.sipush 1500, 3) := by decide +kernel
theorem dX5_grow_84 : decode cX5_grow 84 = .ok (.if_icmp .ge 31, 3) := by decide +kernel
theorem dX5_grow_87 : decode cX5_grow 87 = .ok (.iload 4, 2) := by decide +kernel
theorem dX5_grow_89 : decode cX5_grow 89 = .ok (.aload_n 0, 1) := by decide +kernel
theorem dX5_grow_90 : decode cX5_grow 90 = .ok (.getfield 57, 3) := by decide +kernel
theorem dX5_grow_93 : decode cX5_grow 93 = .ok (.if_icmp .ge 22, 3) := by decide +kernel
theorem dX5_grow_96 : decode cX5_grow 96 = .ok (.aload_n 0, 1) := by decide +kernel
theorem dX5_grow_97 : decode cX5_grow 97 = .ok (.getfield 64, 3) := by decide +kernel
theorem dX5_grow_100 : decode cX5_grow 100 = .ok (.ifCond .ne 15, 3) := by decide +kernel
theorem dX5_grow_103 : decode cX5_grow 103 = .ok (.aload_n 0, 1) := by decide +kernel
theorem dX5_grow_104 : decode cX5_grow 104 = .ok (.iload 4, 2) := by decide +kernel
theorem dX5_grow_106 : decode cX5_grow 106 = .ok (.invokevirtual 92, 3) := by decide +kernel
theorem dX5_grow_109 : decode cX5_grow 109 = .ok (.iinc 4 1, 3) := by decide +kernel
theorem dX5_grow_112 : decode cX5_grow 112 = .ok (.goto (-33), 3) := by decide +kernel
theorem dX5_grow_115 : decode cX5_grow 115 = .ok (.return_, 1) := by decide +kernel
theorem dX5_expand_0 : decode cX5_expand 0 = .ok (.aload_n 0, 1) := by decide +kernel
theorem dX5_expand_1 : decode cX5_expand 1 = .ok (.getfield 12, 3) := by decide +kernel
theorem dX5_expand_4 : decode cX5_expand 4 = .ok (.aload_n 0, 1) := by decide +kernel
theorem dX5_expand_5 : decode cX5_expand 5 = .ok (.getfield 21, 3) := by decide +kernel
theorem dX5_expand_8 : decode cX5_expand 8 = .ok (.iload_n 1, 1) := by decide +kernel
theorem dX5_expand_9 : decode cX5_expand 9 = .ok (.laload, 1) := by decide +kernel
theorem dX5_expand_10 : decode cX5_expand 10 = .ok (.aload_n 0, 1) := by decide +kernel
theorem dX5_expand_11 : decode cX5_expand 11 = .ok (.getfield 25, 3) := by decide +kernel
theorem dX5_expand_14 : decode cX5_expand 14 = .ok (.iload_n 1, 1) := by decide +kernel
theorem dX5_expand_15 : decode cX5_expand 15 = .ok (.iaload, 1) := by decide +kernel
theorem dX5_expand_16 : decode cX5_expand 16 = .ok (.invokevirtual 96, 3) := by decide +kernel
theorem dX5_expand_19 : decode cX5_expand 19 = .ok (.aload_n 0, 1) := by decide +kernel
theorem dX5_expand_20 : decode cX5_expand 20 = .ok (.getfield 12, 3) := by decide +kernel
theorem dX5_expand_23 : decode cX5_expand 23 = .ok (.invokevirtual 100, 3) := by decide +kernel
theorem dX5_expand_26 : decode cX5_expand 26 = .ok (.istore_n 2, 1) := by decide +kernel
theorem dX5_expand_27 : decode cX5_expand 27 = .ok (.aload_n 0, 1) := by decide +kernel
theorem dX5_expand_28 : decode cX5_expand 28 = .ok (.getfield 12, 3) := by decide +kernel
theorem dX5_expand_31 : decode cX5_expand 31 = .ok (.invokevirtual 81, 3) := by decide +kernel
theorem dX5_expand_34 : decode cX5_expand 34 = .ok (.istore_n 3, 1) := by decide +kernel
theorem dX5_expand_35 : decode cX5_expand 35 = .ok (.iconst 0, 1) := by decide +kernel
theorem dX5_expand_36 : decode cX5_expand 36 = .ok (.istore 4, 2) := by decide +kernel
theorem dX5_expand_38 : decode cX5_expand 38 = .ok (.iload 4, 2) := by decide +kernel
theorem dX5_expand_40 : decode cX5_expand 40 = .ok (.iconst 4, 1) := by decide +kernel
theorem dX5_expand_41 : decode cX5_expand 41 = .ok (.if_icmp .ge 156, 3) := by decide +kernel
theorem dX5_expand_44 : decode cX5_expand 44 = .ok (.iconst 4, 1) := by decide +kernel
theorem dX5_expand_45 : decode cX5_expand 45 = .ok (.iload_n 1, 1) := by decide +kernel
theorem dX5_expand_46 : decode cX5_expand 46 = .ok (.imul, 1) := by decide +kernel
theorem dX5_expand_47 : decode cX5_expand 47 = .ok (.iload 4, 2) := by decide +kernel
theorem dX5_expand_49 : decode cX5_expand 49 = .ok (.iadd, 1) := by decide +kernel
theorem dX5_expand_50 : decode cX5_expand 50 = .ok (.istore 5, 2) := by decide +kernel
theorem dX5_expand_52 : decode cX5_expand 52 = .ok (.aload_n 0, 1) := by decide +kernel
theorem dX5_expand_53 : decode cX5_expand 53 = .ok (.getfield 32, 3) := by decide +kernel
theorem dX5_expand_56 : decode cX5_expand 56 = .ok (.iload 5, 2) := by decide +kernel
theorem dX5_expand_58 : decode cX5_expand 58 = .ok (.iconst (-1), 1) := by decide +kernel
theorem dX5_expand_59 : decode cX5_expand 59 = .ok (.iastore, 1) := by decide +kernel
theorem dX5_expand_60 : decode cX5_expand 60 = .ok (.aload_n 0, 1) := by decide +kernel
theorem dX5_expand_61 : decode cX5_expand 61 = .ok (.getfield 35, 3) := by decide +kernel
theorem dX5_expand_64 : decode cX5_expand 64 = .ok (.iload 5, 2) := by decide +kernel
theorem dX5_expand_66 : decode cX5_expand 66 = .ok (.iconst 0, 1) := by decide +kernel
theorem dX5_expand_67 : decode cX5_expand 67 = .ok (.bastore, 1) := by decide +kernel
theorem dX5_expand_68 : decode cX5_expand 68 = .ok (.iload 4, 2) := by decide +kernel
theorem dX5_expand_70 : decode cX5_expand 70 = .ok (.iload_n 2, 1) := by decide +kernel
theorem dX5_expand_71 : decode cX5_expand 71 = .ok (.if_icmp .ge 120, 3) := by decide +kernel
theorem dX5_expand_74 : decode cX5_expand 74 = .ok (.aload_n 0, 1) := by decide +kernel
theorem dX5_expand_75 : decode cX5_expand 75 = .ok (.getfield 64, 3) := by decide +kernel
theorem dX5_expand_78 : decode cX5_expand 78 = .ok (.ifCond .eq 6, 3) := by decide +kernel
theorem dX5_expand_81 : decode cX5_expand 81 = .ok (.goto 110, 3) := by decide +kernel
theorem dX5_expand_84 : decode cX5_expand 84 = .ok (.aload_n 0, 1) := by decide +kernel
theorem dX5_expand_85 : decode cX5_expand 85 = .ok (.getfield 12, 3) := by decide +kernel
theorem dX5_expand_88 : decode cX5_expand 88 = .ok (.iload 4, 2) := by decide +kernel
theorem dX5_expand_90 : decode cX5_expand 90 = .ok (.invokevirtual 103, 3) := by decide +kernel
theorem dX5_expand_93 : decode cX5_expand 93 = .ok (.istore 6, 2) := by decide +kernel
theorem dX5_expand_95 : decode cX5_expand 95 = .ok (.aload_n 0, 1) := by decide +kernel
theorem dX5_expand_96 : decode cX5_expand 96 = .ok (.getfield 12, 3) := by decide +kernel
theorem dX5_expand_99 : decode cX5_expand 99 = .ok (.iload 4, 2) := by decide +kernel
theorem dX5_expand_101 : decode cX5_expand 101 = .ok (.invokevirtual 106, 3) := by decide +kernel
theorem dX5_expand_104 : decode cX5_expand 104 = .ok (.istore 7, 2) := by decide +kernel
theorem dX5_expand_106 : decode cX5_expand 106 = .ok (.aload_n 0, 1) := by decide +kernel
theorem dX5_expand_107 : decode cX5_expand 107 = .ok (.getfield 18, 3) := by decide +kernel
theorem dX5_expand_110 : decode cX5_expand 110 = .ok (.aload_n 0, 1) := by decide +kernel
theorem dX5_expand_111 : decode cX5_expand 111 = .ok (.getfield 12, 3) := by decide +kernel
theorem dX5_expand_114 : decode cX5_expand 114 = .ok (.iload 6, 2) := by decide +kernel
theorem dX5_expand_116 : decode cX5_expand 116 = .ok (.iload 7, 2) := by decide +kernel
theorem dX5_expand_118 : decode cX5_expand 118 = .ok (.invokevirtual 109, 3) := by decide +kernel
theorem dX5_expand_121 : decode cX5_expand 121 = .ok (.aload_n 0, 1) := by decide +kernel
theorem dX5_expand_122 : decode cX5_expand 122 = .ok (.getfield 18, 3) := by decide +kernel
theorem dX5_expand_125 : decode cX5_expand 125 = .ok (.invokevirtual 85, 3) := by decide +kernel
theorem dX5_expand_128 : decode cX5_expand 128 = .ok (.iload_n 3, 1) := by decide +kernel
theorem dX5_expand_129 : decode cX5_expand 129 = .ok (.aload_n 0, 1) := by decide +kernel
theorem dX5_expand_130 : decode cX5_expand 130 = .ok (.getfield 18, 3) := by decide +kernel
theorem dX5_expand_133 : decode cX5_expand 133 = .ok (.invokevirtual 81, 3) := by decide +kernel
theorem dX5_expand_136 : decode cX5_expand 136 = .ok (.iconst (-1), 1) := by decide +kernel
theorem dX5_expand_137 : decode cX5_expand 137 = .ok (.ixor, 1) := by decide +kernel
theorem dX5_expand_138 : decode cX5_expand 138 = .ok (.iand, 1) := by decide +kernel
theorem dX5_expand_139 : decode cX5_expand 139 = .ok (.istore 8, 2) := by decide +kernel
theorem dX5_expand_141 : decode cX5_expand 141 = .ok (.iload 7, 2) := by decide +kernel
theorem dX5_expand_143 : decode cX5_expand 143 = .ok (.iconst (-1), 1) := by decide +kernel
theorem dX5_expand_144 : decode cX5_expand 144 = .ok (.if_icmp .ne 17, 3) := by decide +kernel
theorem dX5_expand_147 : decode cX5_expand 147 = .ok (.iload 8, 2) := by decide +kernel
theorem dX5_expand_149 : decode cX5_expand 149 = .ok (.iconst 1, 1) := by decide +kernel
theorem dX5_expand_150 : decode cX5_expand 150 = .ok (.iload 6, 2) := by decide +kernel
theorem dX5_expand_152 : decode cX5_expand 152 = .ok (.invokestatic 113, 3) := by decide +kernel
theorem dX5_expand_155 : decode cX5_expand 155 = .ok (.ishl, 1) := by decide +kernel
theorem dX5_expand_156 : decode cX5_expand 156 = .ok (.iconst (-1), 1) := by decide +kernel
theorem dX5_expand_157 : decode cX5_expand 157 = .ok (.ixor, 1) := by decide +kernel
theorem dX5_expand_158 : decode cX5_expand 158 = .ok (.iand, 1) := by decide +kernel
theorem dX5_expand_159 : decode cX5_expand 159 = .ok (.istore 8, 2) := by decide +kernel
theorem dX5_expand_161 : decode cX5_expand 161 = .ok (.aload_n 0, 1) := by decide +kernel
theorem dX5_expand_162 : decode cX5_expand 162 = .ok (.getfield 35, 3) := by decide +kernel
theorem dX5_expand_165 : decode cX5_expand 165 = .ok (.iload 5, 2) := by decide +kernel
theorem dX5_expand_167 : decode cX5_expand 167 = .ok (.iload 8, 2) := by decide +kernel
theorem dX5_expand_169 : decode cX5_expand 169 = .ok (.ifCond .eq 7, 3) := by decide +kernel
theorem dX5_expand_172 : decode cX5_expand 172 = .ok (.iconst 1, 1) := by decide +kernel
theorem dX5_expand_173 : decode cX5_expand 173 = .ok (.goto 4, 3) := by decide +kernel
theorem dX5_expand_176 : decode cX5_expand 176 = .ok (.iconst 0, 1) := by decide +kernel
theorem dX5_expand_177 : decode cX5_expand 177 = .ok (.bastore, 1) := by decide +kernel
theorem dX5_expand_178 : decode cX5_expand 178 = .ok (.aload_n 0, 1) := by decide +kernel
theorem dX5_expand_179 : decode cX5_expand 179 = .ok (.getfield 32, 3) := by decide +kernel
theorem dX5_expand_182 : decode cX5_expand 182 = .ok (.iload 5, 2) := by decide +kernel
theorem dX5_expand_184 : decode cX5_expand 184 = .ok (.aload_n 0, 1) := by decide +kernel
theorem dX5_expand_185 : decode cX5_expand 185 = .ok (.iload 5, 2) := by decide +kernel
theorem dX5_expand_187 : decode cX5_expand 187 = .ok (.invokevirtual 88, 3) := by decide +kernel
theorem dX5_expand_190 : decode cX5_expand 190 = .ok (.iastore, 1) := by decide +kernel
theorem dX5_expand_191 : decode cX5_expand 191 = .ok (.iinc 4 1, 3) := by decide +kernel
theorem dX5_expand_194 : decode cX5_expand 194 = .ok (.goto (-156), 3) := by decide +kernel
theorem dX5_expand_197 : decode cX5_expand 197 = .ok (.return_, 1) := by decide +kernel
theorem dX5_meet_0 : decode cX5_meet 0 = .ok (.aload_n 0, 1) := by decide +kernel
theorem dX5_meet_1 : decode cX5_meet 1 = .ok (.getfield 18, 3) := by decide +kernel
theorem dX5_meet_4 : decode cX5_meet 4 = .ok (.invokevirtual 116, 3) := by decide +kernel
theorem dX5_meet_7 : decode cX5_meet 7 = .ok (.aload_n 0, 1) := by decide +kernel
theorem dX5_meet_8 : decode cX5_meet 8 = .ok (.getfield 18, 3) := by decide +kernel
theorem dX5_meet_11 : decode cX5_meet 11 = .ok (.getfield 119, 3) := by decide +kernel
theorem dX5_meet_14 : decode cX5_meet 14 = .ok (.aload_n 0, 1) := by decide +kernel
theorem dX5_meet_15 : decode cX5_meet 15 = .ok (.getfield 18, 3) := by decide +kernel
theorem dX5_meet_18 : decode cX5_meet 18 = .ok (.getfield 122, 3) := by decide +kernel
theorem dX5_meet_21 : decode cX5_meet 21 = .ok (.i2l, 1) := by decide +kernel
theorem dX5_meet_22 : decode cX5_meet 22 = .ok (.ldc2_w 124, 3) := by decide +kernel
theorem dX5_meet_25 : decode cX5_meet 25 = .ok (.lmul, 1) := by decide +kernel
theorem dX5_meet_26 : decode cX5_meet 26 = .ok (.lxor, 1) := by decide +kernel
theorem dX5_meet_27 : decode cX5_meet 27 = .ok (.ldc2_w 126, 3) := by decide +kernel
theorem dX5_meet_30 : decode cX5_meet 30 = .ok (.lmul, 1) := by decide +kernel
theorem dX5_meet_31 : decode cX5_meet 31 = .ok (.lstore_n 2, 1) := by decide +kernel
theorem dX5_meet_32 : decode cX5_meet 32 = .ok (.lload_n 2, 1) := by decide +kernel
theorem dX5_meet_33 : decode cX5_meet 33 = .ok (.bipush 40, 2) := by decide +kernel
theorem dX5_meet_35 : decode cX5_meet 35 = .ok (.lushr, 1) := by decide +kernel
theorem dX5_meet_36 : decode cX5_meet 36 = .ok (.l2i, 1) := by decide +kernel
theorem dX5_meet_37 : decode cX5_meet 37 = .ok (.sipush 4095, 3) := by decide +kernel
theorem dX5_meet_40 : decode cX5_meet 40 = .ok (.iand, 1) := by decide +kernel
theorem dX5_meet_41 : decode cX5_meet 41 = .ok (.istore 4, 2) := by decide +kernel
theorem dX5_meet_43 : decode cX5_meet 43 = .ok (.iconst 0, 1) := by decide +kernel
theorem dX5_meet_44 : decode cX5_meet 44 = .ok (.istore 5, 2) := by decide +kernel
theorem dX5_meet_46 : decode cX5_meet 46 = .ok (.iload 5, 2) := by decide +kernel
theorem dX5_meet_48 : decode cX5_meet 48 = .ok (.sipush 4096, 3) := by decide +kernel
theorem dX5_meet_51 : decode cX5_meet 51 = .ok (.if_icmp .ge 78, 3) := by decide +kernel
theorem dX5_meet_54 : decode cX5_meet 54 = .ok (.aload_n 0, 1) := by decide +kernel
theorem dX5_meet_55 : decode cX5_meet 55 = .ok (.getfield 29, 3) := by decide +kernel
theorem dX5_meet_58 : decode cX5_meet 58 = .ok (.iload 4, 2) := by decide +kernel
theorem dX5_meet_60 : decode cX5_meet 60 = .ok (.iaload, 1) := by decide +kernel
theorem dX5_meet_61 : decode cX5_meet 61 = .ok (.ifCond .eq 68, 3) := by decide +kernel
theorem dX5_meet_64 : decode cX5_meet 64 = .ok (.aload_n 0, 1) := by decide +kernel
theorem dX5_meet_65 : decode cX5_meet 65 = .ok (.getfield 29, 3) := by decide +kernel
theorem dX5_meet_68 : decode cX5_meet 68 = .ok (.iload 4, 2) := by decide +kernel
theorem dX5_meet_70 : decode cX5_meet 70 = .ok (.iaload, 1) := by decide +kernel
theorem dX5_meet_71 : decode cX5_meet 71 = .ok (.iconst 1, 1) := by decide +kernel
theorem dX5_meet_72 : decode cX5_meet 72 = .ok (.isub, 1) := by decide +kernel
theorem dX5_meet_73 : decode cX5_meet 73 = .ok (.istore 6, 2) := by decide +kernel
theorem dX5_meet_75 : decode cX5_meet 75 = .ok (.aload_n 0, 1) := by decide +kernel
theorem dX5_meet_76 : decode cX5_meet 76 = .ok (.getfield 21, 3) := by decide +kernel
theorem dX5_meet_79 : decode cX5_meet 79 = .ok (.iload 6, 2) := by decide +kernel
theorem dX5_meet_81 : decode cX5_meet 81 = .ok (.laload, 1) := by decide +kernel
theorem dX5_meet_82 : decode cX5_meet 82 = .ok (.aload_n 0, 1) := by decide +kernel
theorem dX5_meet_83 : decode cX5_meet 83 = .ok (.getfield 18, 3) := by decide +kernel
theorem dX5_meet_86 : decode cX5_meet 86 = .ok (.getfield 119, 3) := by decide +kernel
theorem dX5_meet_89 : decode cX5_meet 89 = .ok (.lcmp, 1) := by decide +kernel
theorem dX5_meet_90 : decode cX5_meet 90 = .ok (.ifCond .ne 23, 3) := by decide +kernel
theorem dX5_meet_93 : decode cX5_meet 93 = .ok (.aload_n 0, 1) := by decide +kernel
theorem dX5_meet_94 : decode cX5_meet 94 = .ok (.getfield 25, 3) := by decide +kernel
theorem dX5_meet_97 : decode cX5_meet 97 = .ok (.iload 6, 2) := by decide +kernel
theorem dX5_meet_99 : decode cX5_meet 99 = .ok (.iaload, 1) := by decide +kernel
theorem dX5_meet_100 : decode cX5_meet 100 = .ok (.aload_n 0, 1) := by decide +kernel
theorem dX5_meet_101 : decode cX5_meet 101 = .ok (.getfield 18, 3) := by decide +kernel
theorem dX5_meet_104 : decode cX5_meet 104 = .ok (.getfield 122, 3) := by decide +kernel
theorem dX5_meet_107 : decode cX5_meet 107 = .ok (.if_icmp .ne 6, 3) := by decide +kernel
theorem dX5_meet_110 : decode cX5_meet 110 = .ok (.iload 6, 2) := by decide +kernel
theorem dX5_meet_112 : decode cX5_meet 112 = .ok (.ireturn, 1) := by decide +kernel
theorem dX5_meet_113 : decode cX5_meet 113 = .ok (.iload 4, 2) := by decide +kernel
theorem dX5_meet_115 : decode cX5_meet 115 = .ok (.iconst 1, 1) := by decide +kernel
theorem dX5_meet_116 : decode cX5_meet 116 = .ok (.iadd, 1) := by decide +kernel
theorem dX5_meet_117 : decode cX5_meet 117 = .ok (.sipush 4095, 3) := by decide +kernel
theorem dX5_meet_120 : decode cX5_meet 120 = .ok (.iand, 1) := by decide +kernel
theorem dX5_meet_121 : decode cX5_meet 121 = .ok (.istore 4, 2) := by decide +kernel
theorem dX5_meet_123 : decode cX5_meet 123 = .ok (.iinc 5 1, 3) := by decide +kernel
theorem dX5_meet_126 : decode cX5_meet 126 = .ok (.goto (-80), 3) := by decide +kernel
theorem dX5_meet_129 : decode cX5_meet 129 = .ok (.aload_n 0, 1) := by decide +kernel
theorem dX5_meet_130 : decode cX5_meet 130 = .ok (.getfield 57, 3) := by decide +kernel
theorem dX5_meet_133 : decode cX5_meet 133 = .ok (.sipush 1500, 3) := by decide +kernel
theorem dX5_meet_136 : decode cX5_meet 136 = .ok (.if_icmp .lt 10, 3) := by decide +kernel
theorem dX5_meet_139 : decode cX5_meet 139 = .ok (.aload_n 0, 1) := by decide +kernel
theorem dX5_meet_140 : decode cX5_meet 140 = .ok (.iconst 1, 1) := by decide +kernel
theorem dX5_meet_141 : decode cX5_meet 141 = .ok (.putfield 64, 3) := by decide +kernel
theorem dX5_meet_144 : decode cX5_meet 144 = .ok (.iconst (-1), 1) := by decide +kernel
theorem dX5_meet_145 : decode cX5_meet 145 = .ok (.ireturn, 1) := by decide +kernel
theorem dX5_meet_146 : decode cX5_meet 146 = .ok (.aload_n 0, 1) := by decide +kernel
theorem dX5_meet_147 : decode cX5_meet 147 = .ok (.getfield 29, 3) := by decide +kernel
theorem dX5_meet_150 : decode cX5_meet 150 = .ok (.iload 4, 2) := by decide +kernel
theorem dX5_meet_152 : decode cX5_meet 152 = .ok (.aload_n 0, 1) := by decide +kernel
theorem dX5_meet_153 : decode cX5_meet 153 = .ok (.getfield 57, 3) := by decide +kernel
theorem dX5_meet_156 : decode cX5_meet 156 = .ok (.iconst 1, 1) := by decide +kernel
theorem dX5_meet_157 : decode cX5_meet 157 = .ok (.iadd, 1) := by decide +kernel
theorem dX5_meet_158 : decode cX5_meet 158 = .ok (.iastore, 1) := by decide +kernel
theorem dX5_meet_159 : decode cX5_meet 159 = .ok (.aload_n 0, 1) := by decide +kernel
theorem dX5_meet_160 : decode cX5_meet 160 = .ok (.getfield 21, 3) := by decide +kernel
theorem dX5_meet_163 : decode cX5_meet 163 = .ok (.aload_n 0, 1) := by decide +kernel
theorem dX5_meet_164 : decode cX5_meet 164 = .ok (.getfield 57, 3) := by decide +kernel
theorem dX5_meet_167 : decode cX5_meet 167 = .ok (.aload_n 0, 1) := by decide +kernel
theorem dX5_meet_168 : decode cX5_meet 168 = .ok (.getfield 18, 3) := by decide +kernel
theorem dX5_meet_171 : decode cX5_meet 171 = .ok (.getfield 119, 3) := by decide +kernel
theorem dX5_meet_174 : decode cX5_meet 174 = .ok (.lastore, 1) := by decide +kernel
theorem dX5_meet_175 : decode cX5_meet 175 = .ok (.aload_n 0, 1) := by decide +kernel
theorem dX5_meet_176 : decode cX5_meet 176 = .ok (.getfield 25, 3) := by decide +kernel
theorem dX5_meet_179 : decode cX5_meet 179 = .ok (.aload_n 0, 1) := by decide +kernel
theorem dX5_meet_180 : decode cX5_meet 180 = .ok (.getfield 57, 3) := by decide +kernel
theorem dX5_meet_183 : decode cX5_meet 183 = .ok (.aload_n 0, 1) := by decide +kernel
theorem dX5_meet_184 : decode cX5_meet 184 = .ok (.getfield 18, 3) := by decide +kernel
theorem dX5_meet_187 : decode cX5_meet 187 = .ok (.getfield 122, 3) := by decide +kernel
theorem dX5_meet_190 : decode cX5_meet 190 = .ok (.iastore, 1) := by decide +kernel
theorem dX5_meet_191 : decode cX5_meet 191 = .ok (.aload_n 0, 1) := by decide +kernel
theorem dX5_meet_192 : decode cX5_meet 192 = .ok (.getfield 39, 3) := by decide +kernel
theorem dX5_meet_195 : decode cX5_meet 195 = .ok (.aload_n 0, 1) := by decide +kernel
theorem dX5_meet_196 : decode cX5_meet 196 = .ok (.getfield 57, 3) := by decide +kernel
theorem dX5_meet_199 : decode cX5_meet 199 = .ok (.iload_n 1, 1) := by decide +kernel
theorem dX5_meet_200 : decode cX5_meet 200 = .ok (.iastore, 1) := by decide +kernel
theorem dX5_meet_201 : decode cX5_meet 201 = .ok (.aload_n 0, 1) := by decide +kernel
theorem dX5_meet_202 : decode cX5_meet 202 = .ok (.getfield 18, 3) := by decide +kernel
theorem dX5_meet_205 : decode cX5_meet 205 = .ok (.getfield 122, 3) := by decide +kernel
theorem dX5_meet_208 : decode cX5_meet 208 = .ok (.ifCond .ne 11, 3) := by decide +kernel
theorem dX5_meet_211 : decode cX5_meet 211 = .ok (.aload_n 0, 1) := by decide +kernel
theorem dX5_meet_212 : decode cX5_meet 212 = .ok (.aload_n 0, 1) := by decide +kernel
theorem dX5_meet_213 : decode cX5_meet 213 = .ok (.getfield 57, 3) := by decide +kernel
theorem dX5_meet_216 : decode cX5_meet 216 = .ok (.putfield 61, 3) := by decide +kernel
theorem dX5_meet_219 : decode cX5_meet 219 = .ok (.aload_n 0, 1) := by decide +kernel
theorem dX5_meet_220 : decode cX5_meet 220 = .ok (.dup, 1) := by decide +kernel
theorem dX5_meet_221 : decode cX5_meet 221 = .ok (.getfield 57, 3) := by decide +kernel
theorem dX5_meet_224 : decode cX5_meet 224 = .ok (.iconst 1, 1) := by decide +kernel
theorem dX5_meet_225 : decode cX5_meet 225 = .ok (.iadd, 1) := by decide +kernel
theorem dX5_meet_226 : decode cX5_meet 226 = .ok (.putfield 57, 3) := by decide +kernel
theorem dX5_meet_229 : decode cX5_meet 229 = .ok (.aload_n 0, 1) := by decide +kernel
theorem dX5_meet_230 : decode cX5_meet 230 = .ok (.getfield 57, 3) := by decide +kernel
theorem dX5_meet_233 : decode cX5_meet 233 = .ok (.iconst 1, 1) := by decide +kernel
theorem dX5_meet_234 : decode cX5_meet 234 = .ok (.isub, 1) := by decide +kernel
theorem dX5_meet_235 : decode cX5_meet 235 = .ok (.ireturn, 1) := by decide +kernel
theorem dX5_chainBack_0 : decode cX5_chainBack 0 = .ok (.iconst 0, 1) := by decide +kernel
theorem dX5_chainBack_1 : decode cX5_chainBack 1 = .ok (.istore_n 2, 1) := by decide +kernel
theorem dX5_chainBack_2 : decode cX5_chainBack 2 = .ok (.aload_n 0, 1) := by decide +kernel
theorem dX5_chainBack_3 : decode cX5_chainBack 3 = .ok (.getfield 61, 3) := by decide +kernel
theorem dX5_chainBack_6 : decode cX5_chainBack 6 = .ok (.istore_n 3, 1) := by decide +kernel
theorem dX5_chainBack_7 : decode cX5_chainBack 7 = .ok (.iconst 0, 1) := by decide +kernel
theorem dX5_chainBack_8 : decode cX5_chainBack 8 = .ok (.istore 4, 2) := by decide +kernel
theorem dX5_chainBack_10 : decode cX5_chainBack 10 = .ok (.iload 4, 2) := by decide +kernel
theorem dX5_chainBack_12 : decode cX5_chainBack 12 = .ok (.aload_n 0, 1) := by decide +kernel
theorem dX5_chainBack_13 : decode cX5_chainBack 13 = .ok (.getfield 57, 3) := by decide +kernel
theorem dX5_chainBack_16 : decode cX5_chainBack 16 = .ok (.if_icmp .ge 99, 3) := by decide +kernel
theorem dX5_chainBack_19 : decode cX5_chainBack 19 = .ok (.iload_n 3, 1) := by decide +kernel
theorem dX5_chainBack_20 : decode cX5_chainBack 20 = .ok (.ifCond .le 95, 3) := by decide +kernel
theorem dX5_chainBack_23 : decode cX5_chainBack 23 = .ok (.iload_n 2, 1) := by decide +kernel
theorem dX5_chainBack_24 : decode cX5_chainBack 24 = .ok (.aload_n 1, 1) := by decide +kernel
theorem dX5_chainBack_25 : decode cX5_chainBack 25 = .ok (.arraylength, 1) := by decide +kernel
theorem dX5_chainBack_26 : decode cX5_chainBack 26 = .ok (.if_icmp .ge 89, 3) := by decide +kernel
theorem dX5_chainBack_29 : decode cX5_chainBack 29 = .ok (.aload_n 0, 1) := by decide +kernel
theorem dX5_chainBack_30 : decode cX5_chainBack 30 = .ok (.getfield 39, 3) := by decide +kernel
theorem dX5_chainBack_33 : decode cX5_chainBack 33 = .ok (.iload_n 3, 1) := by decide +kernel
theorem dX5_chainBack_34 : decode cX5_chainBack 34 = .ok (.iaload, 1) := by decide +kernel
theorem dX5_chainBack_35 : decode cX5_chainBack 35 = .ok (.istore 5, 2) := by decide +kernel
theorem dX5_chainBack_37 : decode cX5_chainBack 37 = .ok (.iload 5, 2) := by decide +kernel
theorem dX5_chainBack_39 : decode cX5_chainBack 39 = .ok (.ifCond .ge 6, 3) := by decide +kernel
theorem dX5_chainBack_42 : decode cX5_chainBack 42 = .ok (.goto 73, 3) := by decide +kernel
theorem dX5_chainBack_45 : decode cX5_chainBack 45 = .ok (.iload 5, 2) := by decide +kernel
theorem dX5_chainBack_47 : decode cX5_chainBack 47 = .ok (.iconst 4, 1) := by decide +kernel
theorem dX5_chainBack_48 : decode cX5_chainBack 48 = .ok (.idiv, 1) := by decide +kernel
theorem dX5_chainBack_49 : decode cX5_chainBack 49 = .ok (.istore_n 3, 1) := by decide +kernel
theorem dX5_chainBack_50 : decode cX5_chainBack 50 = .ok (.aload_n 0, 1) := by decide +kernel
theorem dX5_chainBack_51 : decode cX5_chainBack 51 = .ok (.getfield 12, 3) := by decide +kernel
theorem dX5_chainBack_54 : decode cX5_chainBack 54 = .ok (.aload_n 0, 1) := by decide +kernel
theorem dX5_chainBack_55 : decode cX5_chainBack 55 = .ok (.getfield 21, 3) := by decide +kernel
theorem dX5_chainBack_58 : decode cX5_chainBack 58 = .ok (.iload_n 3, 1) := by decide +kernel
theorem dX5_chainBack_59 : decode cX5_chainBack 59 = .ok (.laload, 1) := by decide +kernel
theorem dX5_chainBack_60 : decode cX5_chainBack 60 = .ok (.aload_n 0, 1) := by decide +kernel
theorem dX5_chainBack_61 : decode cX5_chainBack 61 = .ok (.getfield 25, 3) := by decide +kernel
theorem dX5_chainBack_64 : decode cX5_chainBack 64 = .ok (.iload_n 3, 1) := by decide +kernel
theorem dX5_chainBack_65 : decode cX5_chainBack 65 = .ok (.iaload, 1) := by decide +kernel
theorem dX5_chainBack_66 : decode cX5_chainBack 66 = .ok (.invokevirtual 96, 3) := by decide +kernel
theorem dX5_chainBack_69 : decode cX5_chainBack 69 = .ok (.iload 5, 2) := by decide +kernel
theorem dX5_chainBack_71 : decode cX5_chainBack 71 = .ok (.iconst 4, 1) := by decide +kernel
theorem dX5_chainBack_72 : decode cX5_chainBack 72 = .ok (.irem, 1) := by decide +kernel
theorem dX5_chainBack_73 : decode cX5_chainBack 73 = .ok (.istore 6, 2) := by decide +kernel
theorem dX5_chainBack_75 : decode cX5_chainBack 75 = .ok (.aload_n 1, 1) := by decide +kernel
theorem dX5_chainBack_76 : decode cX5_chainBack 76 = .ok (.iload_n 2, 1) := by decide +kernel
theorem dX5_chainBack_77 : decode cX5_chainBack 77 = .ok (.iload 6, 2) := by decide +kernel
theorem dX5_chainBack_79 : decode cX5_chainBack 79 = .ok (.aload_n 0, 1) := by decide +kernel
theorem dX5_chainBack_80 : decode cX5_chainBack 80 = .ok (.getfield 12, 3) := by decide +kernel
theorem dX5_chainBack_83 : decode cX5_chainBack 83 = .ok (.iload 6, 2) := by decide +kernel
theorem dX5_chainBack_85 : decode cX5_chainBack 85 = .ok (.invokevirtual 103, 3) := by decide +kernel
theorem dX5_chainBack_88 : decode cX5_chainBack 88 = .ok (.iconst 2, 1) := by decide +kernel
theorem dX5_chainBack_89 : decode cX5_chainBack 89 = .ok (.ishl, 1) := by decide +kernel
theorem dX5_chainBack_90 : decode cX5_chainBack 90 = .ok (.ior, 1) := by decide +kernel
theorem dX5_chainBack_91 : decode cX5_chainBack 91 = .ok (.aload_n 0, 1) := by decide +kernel
theorem dX5_chainBack_92 : decode cX5_chainBack 92 = .ok (.getfield 12, 3) := by decide +kernel
theorem dX5_chainBack_95 : decode cX5_chainBack 95 = .ok (.iload 6, 2) := by decide +kernel
theorem dX5_chainBack_97 : decode cX5_chainBack 97 = .ok (.invokevirtual 106, 3) := by decide +kernel
theorem dX5_chainBack_100 : decode cX5_chainBack 100 = .ok (.iconst 1, 1) := by decide +kernel
theorem dX5_chainBack_101 : decode cX5_chainBack 101 = .ok (.iadd, 1) := by decide +kernel
theorem dX5_chainBack_102 : decode cX5_chainBack 102 = .ok (.iconst 5, 1) := by decide +kernel
theorem dX5_chainBack_103 : decode cX5_chainBack 103 = .ok (.ishl, 1) := by decide +kernel
theorem dX5_chainBack_104 : decode cX5_chainBack 104 = .ok (.ior, 1) := by decide +kernel
theorem dX5_chainBack_105 : decode cX5_chainBack 105 = .ok (.iastore, 1) := by decide +kernel
theorem dX5_chainBack_106 : decode cX5_chainBack 106 = .ok (.iinc 2 1, 3) := by decide +kernel
theorem dX5_chainBack_109 : decode cX5_chainBack 109 = .ok (.iinc 4 1, 3) := by decide +kernel
theorem dX5_chainBack_112 : decode cX5_chainBack 112 = .ok (.goto (-102), 3) := by decide +kernel
theorem dX5_chainBack_115 : decode cX5_chainBack 115 = .ok (.iload_n 2, 1) := by decide +kernel
theorem dX5_chainBack_116 : decode cX5_chainBack 116 = .ok (.ireturn, 1) := by decide +kernel
theorem dX5_ringOrFree_0 : decode cX5_ringOrFree 0 = .ok (.aload_n 0, 1) := by decide +kernel
theorem dX5_ringOrFree_1 : decode cX5_ringOrFree 1 = .ok (.invokevirtual 128, 3) := by decide +kernel
theorem dX5_ringOrFree_4 : decode cX5_ringOrFree 4 = .ok (.aload_n 0, 1) := by decide +kernel
theorem dX5_ringOrFree_5 : decode cX5_ringOrFree 5 = .ok (.getfield 68, 3) := by decide +kernel
theorem dX5_ringOrFree_8 : decode cX5_ringOrFree 8 = .ok (.ifCond .eq 5, 3) := by decide +kernel
theorem dX5_ringOrFree_11 : decode cX5_ringOrFree 11 = .ok (.iconst 2, 1) := by decide +kernel
theorem dX5_ringOrFree_12 : decode cX5_ringOrFree 12 = .ok (.ireturn, 1) := by decide +kernel
theorem dX5_ringOrFree_13 : decode cX5_ringOrFree 13 = .ok (.iconst 0, 1) := by decide +kernel
theorem dX5_ringOrFree_14 : decode cX5_ringOrFree 14 = .ok (.istore_n 1, 1) := by decide +kernel
theorem dX5_ringOrFree_15 : decode cX5_ringOrFree 15 = .ok (.iload_n 1, 1) := by decide +kernel
theorem dX5_ringOrFree_16 : decode cX5_ringOrFree 16 = .ok (.iconst 4, 1) := by decide +kernel
theorem dX5_ringOrFree_17 : decode cX5_ringOrFree 17 = .ok (.aload_n 0, 1) := by decide +kernel
theorem dX5_ringOrFree_18 : decode cX5_ringOrFree 18 = .ok (.getfield 57, 3) := by decide +kernel
theorem dX5_ringOrFree_21 : decode cX5_ringOrFree 21 = .ok (.imul, 1) := by decide +kernel
theorem dX5_ringOrFree_22 : decode cX5_ringOrFree 22 = .ok (.if_icmp .ge 33, 3) := by decide +kernel
theorem dX5_ringOrFree_25 : decode cX5_ringOrFree 25 = .ok (.aload_n 0, 1) := by decide +kernel
theorem dX5_ringOrFree_26 : decode cX5_ringOrFree 26 = .ok (.getfield 35, 3) := by decide +kernel
theorem dX5_ringOrFree_29 : decode cX5_ringOrFree 29 = .ok (.iload_n 1, 1) := by decide +kernel
theorem dX5_ringOrFree_30 : decode cX5_ringOrFree 30 = .ok (.baload, 1) := by decide +kernel
theorem dX5_ringOrFree_31 : decode cX5_ringOrFree 31 = .ok (.ifCond .eq 18, 3) := by decide +kernel
theorem dX5_ringOrFree_34 : decode cX5_ringOrFree 34 = .ok (.aload_n 0, 1) := by decide +kernel
theorem dX5_ringOrFree_35 : decode cX5_ringOrFree 35 = .ok (.aload_n 0, 1) := by decide +kernel
theorem dX5_ringOrFree_36 : decode cX5_ringOrFree 36 = .ok (.getfield 32, 3) := by decide +kernel
theorem dX5_ringOrFree_39 : decode cX5_ringOrFree 39 = .ok (.iload_n 1, 1) := by decide +kernel
theorem dX5_ringOrFree_40 : decode cX5_ringOrFree 40 = .ok (.iaload, 1) := by decide +kernel
theorem dX5_ringOrFree_41 : decode cX5_ringOrFree 41 = .ok (.invokevirtual 131, 3) := by decide +kernel
theorem dX5_ringOrFree_44 : decode cX5_ringOrFree 44 = .ok (.ifCond .eq 5, 3) := by decide +kernel
theorem dX5_ringOrFree_47 : decode cX5_ringOrFree 47 = .ok (.iconst 2, 1) := by decide +kernel
theorem dX5_ringOrFree_48 : decode cX5_ringOrFree 48 = .ok (.ireturn, 1) := by decide +kernel
theorem dX5_ringOrFree_49 : decode cX5_ringOrFree 49 = .ok (.iinc 1 1, 3) := by decide +kernel
theorem dX5_ringOrFree_52 : decode cX5_ringOrFree 52 = .ok (.goto (-37), 3) := by decide +kernel
theorem dX5_ringOrFree_55 : decode cX5_ringOrFree 55 = .ok (.aload_n 0, 1) := by decide +kernel
theorem dX5_ringOrFree_56 : decode cX5_ringOrFree 56 = .ok (.invokevirtual 135, 3) := by decide +kernel
theorem dX5_ringOrFree_59 : decode cX5_ringOrFree 59 = .ok (.ifCond .eq 7, 3) := by decide +kernel
theorem dX5_ringOrFree_62 : decode cX5_ringOrFree 62 = .ok (.iconst 1, 1) := by decide +kernel
theorem dX5_ringOrFree_63 : decode cX5_ringOrFree 63 = .ok (.goto 4, 3) := by decide +kernel
theorem dX5_ringOrFree_66 : decode cX5_ringOrFree 66 = .ok (.iconst 0, 1) := by decide +kernel
theorem dX5_ringOrFree_67 : decode cX5_ringOrFree 67 = .ok (.ireturn, 1) := by decide +kernel
theorem dX5_isLeading_0 : decode cX5_isLeading 0 = .ok (.iload_n 1, 1) := by decide +kernel
theorem dX5_isLeading_1 : decode cX5_isLeading 1 = .ok (.ifCond .lt 24, 3) := by decide +kernel
theorem dX5_isLeading_4 : decode cX5_isLeading 4 = .ok (.iload_n 1, 1) := by decide +kernel
theorem dX5_isLeading_5 : decode cX5_isLeading 5 = .ok (.aload_n 0, 1) := by decide +kernel
theorem dX5_isLeading_6 : decode cX5_isLeading 6 = .ok (.getfield 57, 3) := by decide +kernel
theorem dX5_isLeading_9 : decode cX5_isLeading 9 = .ok (.if_icmp .ge 16, 3) := by decide +kernel
theorem dX5_isLeading_12 : decode cX5_isLeading 12 = .ok (.aload_n 0, 1) := by decide +kernel
theorem dX5_isLeading_13 : decode cX5_isLeading 13 = .ok (.getfield 48, 3) := by decide +kernel
theorem dX5_isLeading_16 : decode cX5_isLeading 16 = .ok (.iload_n 1, 1) := by decide +kernel
theorem dX5_isLeading_17 : decode cX5_isLeading 17 = .ok (.baload, 1) := by decide +kernel
theorem dX5_isLeading_18 : decode cX5_isLeading 18 = .ok (.ifCond .eq 7, 3) := by decide +kernel
theorem dX5_isLeading_21 : decode cX5_isLeading 21 = .ok (.iconst 1, 1) := by decide +kernel
theorem dX5_isLeading_22 : decode cX5_isLeading 22 = .ok (.goto 4, 3) := by decide +kernel
theorem dX5_isLeading_25 : decode cX5_isLeading 25 = .ok (.iconst 0, 1) := by decide +kernel
theorem dX5_isLeading_26 : decode cX5_isLeading 26 = .ok (.ireturn, 1) := by decide +kernel
theorem dX5_markLeading_0 : decode cX5_markLeading 0 = .ok (.iconst 0, 1) := by decide +kernel
theorem dX5_markLeading_1 : decode cX5_markLeading 1 = .ok (.istore_n 1, 1) := by decide +kernel
theorem dX5_markLeading_2 : decode cX5_markLeading 2 = .ok (.iload_n 1, 1) := by decide +kernel
theorem dX5_markLeading_3 : decode cX5_markLeading 3 = .ok (.aload_n 0, 1) := by decide +kernel
theorem dX5_markLeading_4 : decode cX5_markLeading 4 = .ok (.getfield 57, 3) := by decide +kernel
theorem dX5_markLeading_7 : decode cX5_markLeading 7 = .ok (.if_icmp .ge 23, 3) := by decide +kernel
theorem dX5_markLeading_10 : decode cX5_markLeading 10 = .ok (.aload_n 0, 1) := by decide +kernel
theorem dX5_markLeading_11 : decode cX5_markLeading 11 = .ok (.getfield 42, 3) := by decide +kernel
theorem dX5_markLeading_14 : decode cX5_markLeading 14 = .ok (.iload_n 1, 1) := by decide +kernel
theorem dX5_markLeading_15 : decode cX5_markLeading 15 = .ok (.iconst (-1), 1) := by decide +kernel
theorem dX5_markLeading_16 : decode cX5_markLeading 16 = .ok (.iastore, 1) := by decide +kernel
theorem dX5_markLeading_17 : decode cX5_markLeading 17 = .ok (.aload_n 0, 1) := by decide +kernel
theorem dX5_markLeading_18 : decode cX5_markLeading 18 = .ok (.getfield 48, 3) := by decide +kernel
theorem dX5_markLeading_21 : decode cX5_markLeading 21 = .ok (.iload_n 1, 1) := by decide +kernel
theorem dX5_markLeading_22 : decode cX5_markLeading 22 = .ok (.iconst 0, 1) := by decide +kernel
theorem dX5_markLeading_23 : decode cX5_markLeading 23 = .ok (.bastore, 1) := by decide +kernel
theorem dX5_markLeading_24 : decode cX5_markLeading 24 = .ok (.iinc 1 1, 3) := by decide +kernel
theorem dX5_markLeading_27 : decode cX5_markLeading 27 = .ok (.goto (-25), 3) := by decide +kernel
theorem dX5_markLeading_30 : decode cX5_markLeading 30 = .ok (.iconst 0, 1) := by decide +kernel
theorem dX5_markLeading_31 : decode cX5_markLeading 31 = .ok (.istore_n 1, 1) := by decide +kernel
theorem dX5_markLeading_32 : decode cX5_markLeading 32 = .ok (.iload_n 1, 1) := by decide +kernel
theorem dX5_markLeading_33 : decode cX5_markLeading 33 = .ok (.iconst 4, 1) := by decide +kernel
theorem dX5_markLeading_34 : decode cX5_markLeading 34 = .ok (.aload_n 0, 1) := by decide +kernel
theorem dX5_markLeading_35 : decode cX5_markLeading 35 = .ok (.getfield 57, 3) := by decide +kernel
theorem dX5_markLeading_38 : decode cX5_markLeading 38 = .ok (.imul, 1) := by decide +kernel
theorem dX5_markLeading_39 : decode cX5_markLeading 39 = .ok (.if_icmp .ge 42, 3) := by decide +kernel
theorem dX5_markLeading_42 : decode cX5_markLeading 42 = .ok (.aload_n 0, 1) := by decide +kernel
theorem dX5_markLeading_43 : decode cX5_markLeading 43 = .ok (.getfield 32, 3) := by decide +kernel
theorem dX5_markLeading_46 : decode cX5_markLeading 46 = .ok (.iload_n 1, 1) := by decide +kernel
theorem dX5_markLeading_47 : decode cX5_markLeading 47 = .ok (.iaload, 1) := by decide +kernel
theorem dX5_markLeading_48 : decode cX5_markLeading 48 = .ok (.istore_n 2, 1) := by decide +kernel
theorem dX5_markLeading_49 : decode cX5_markLeading 49 = .ok (.iload_n 2, 1) := by decide +kernel
theorem dX5_markLeading_50 : decode cX5_markLeading 50 = .ok (.ifCond .ge 6, 3) := by decide +kernel
theorem dX5_markLeading_53 : decode cX5_markLeading 53 = .ok (.goto 22, 3) := by decide +kernel
theorem dX5_markLeading_56 : decode cX5_markLeading 56 = .ok (.aload_n 0, 1) := by decide +kernel
theorem dX5_markLeading_57 : decode cX5_markLeading 57 = .ok (.getfield 45, 3) := by decide +kernel
theorem dX5_markLeading_60 : decode cX5_markLeading 60 = .ok (.iload_n 1, 1) := by decide +kernel
theorem dX5_markLeading_61 : decode cX5_markLeading 61 = .ok (.aload_n 0, 1) := by decide +kernel
theorem dX5_markLeading_62 : decode cX5_markLeading 62 = .ok (.getfield 42, 3) := by decide +kernel
theorem dX5_markLeading_65 : decode cX5_markLeading 65 = .ok (.iload_n 2, 1) := by decide +kernel
theorem dX5_markLeading_66 : decode cX5_markLeading 66 = .ok (.iaload, 1) := by decide +kernel
theorem dX5_markLeading_67 : decode cX5_markLeading 67 = .ok (.iastore, 1) := by decide +kernel
theorem dX5_markLeading_68 : decode cX5_markLeading 68 = .ok (.aload_n 0, 1) := by decide +kernel
theorem dX5_markLeading_69 : decode cX5_markLeading 69 = .ok (.getfield 42, 3) := by decide +kernel
theorem dX5_markLeading_72 : decode cX5_markLeading 72 = .ok (.iload_n 2, 1) := by decide +kernel
theorem dX5_markLeading_73 : decode cX5_markLeading 73 = .ok (.iload_n 1, 1) := by decide +kernel
theorem dX5_markLeading_74 : decode cX5_markLeading 74 = .ok (.iastore, 1) := by decide +kernel
theorem dX5_markLeading_75 : decode cX5_markLeading 75 = .ok (.iinc 1 1, 3) := by decide +kernel
theorem dX5_markLeading_78 : decode cX5_markLeading 78 = .ok (.goto (-46), 3) := by decide +kernel
theorem dX5_markLeading_81 : decode cX5_markLeading 81 = .ok (.aload_n 0, 1) := by decide +kernel
theorem dX5_markLeading_82 : decode cX5_markLeading 82 = .ok (.getfield 61, 3) := by decide +kernel
theorem dX5_markLeading_85 : decode cX5_markLeading 85 = .ok (.ifCond .ge 4, 3) := by decide +kernel
theorem dX5_markLeading_88 : decode cX5_markLeading 88 = .ok (.return_, 1) := by decide +kernel
theorem dX5_markLeading_89 : decode cX5_markLeading 89 = .ok (.aload_n 0, 1) := by decide +kernel
theorem dX5_markLeading_90 : decode cX5_markLeading 90 = .ok (.getfield 48, 3) := by decide +kernel
theorem dX5_markLeading_93 : decode cX5_markLeading 93 = .ok (.aload_n 0, 1) := by decide +kernel
theorem dX5_markLeading_94 : decode cX5_markLeading 94 = .ok (.getfield 61, 3) := by decide +kernel
theorem dX5_markLeading_97 : decode cX5_markLeading 97 = .ok (.iconst 1, 1) := by decide +kernel
theorem dX5_markLeading_98 : decode cX5_markLeading 98 = .ok (.bastore, 1) := by decide +kernel
theorem dX5_markLeading_99 : decode cX5_markLeading 99 = .ok (.aload_n 0, 1) := by decide +kernel
theorem dX5_markLeading_100 : decode cX5_markLeading 100 = .ok (.getfield 54, 3) := by decide +kernel
theorem dX5_markLeading_103 : decode cX5_markLeading 103 = .ok (.iconst 0, 1) := by decide +kernel
theorem dX5_markLeading_104 : decode cX5_markLeading 104 = .ok (.aload_n 0, 1) := by decide +kernel
theorem dX5_markLeading_105 : decode cX5_markLeading 105 = .ok (.getfield 61, 3) := by decide +kernel
theorem dX5_markLeading_108 : decode cX5_markLeading 108 = .ok (.iastore, 1) := by decide +kernel
theorem dX5_markLeading_109 : decode cX5_markLeading 109 = .ok (.iconst 1, 1) := by decide +kernel
theorem dX5_markLeading_110 : decode cX5_markLeading 110 = .ok (.istore_n 1, 1) := by decide +kernel
theorem dX5_markLeading_111 : decode cX5_markLeading 111 = .ok (.iconst 0, 1) := by decide +kernel
theorem dX5_markLeading_112 : decode cX5_markLeading 112 = .ok (.istore_n 2, 1) := by decide +kernel
theorem dX5_markLeading_113 : decode cX5_markLeading 113 = .ok (.iload_n 2, 1) := by decide +kernel
theorem dX5_markLeading_114 : decode cX5_markLeading 114 = .ok (.sipush 1500, 3) := by decide +kernel
theorem dX5_markLeading_117 : decode cX5_markLeading 117 = .ok (.if_icmp .ge 98, 3) := by decide +kernel
theorem dX5_markLeading_120 : decode cX5_markLeading 120 = .ok (.iload_n 2, 1) := by decide +kernel
theorem dX5_markLeading_121 : decode cX5_markLeading 121 = .ok (.iload_n 1, 1) := by decide +kernel
theorem dX5_markLeading_122 : decode cX5_markLeading 122 = .ok (.if_icmp .ge 93, 3) := by decide +kernel
theorem dX5_markLeading_125 : decode cX5_markLeading 125 = .ok (.aload_n 0, 1) := by decide +kernel
theorem dX5_markLeading_126 : decode cX5_markLeading 126 = .ok (.getfield 42, 3) := by decide +kernel
theorem dX5_markLeading_129 : decode cX5_markLeading 129 = .ok (.aload_n 0, 1) := by decide +kernel
theorem dX5_markLeading_130 : decode cX5_markLeading 130 = .ok (.getfield 54, 3) := by decide +kernel
theorem dX5_markLeading_133 : decode cX5_markLeading 133 = .ok (.iload_n 2, 1) := by decide +kernel
theorem dX5_markLeading_134 : decode cX5_markLeading 134 = .ok (.iaload, 1) := by decide +kernel
theorem dX5_markLeading_135 : decode cX5_markLeading 135 = .ok (.iaload, 1) := by decide +kernel
theorem dX5_markLeading_136 : decode cX5_markLeading 136 = .ok (.istore_n 3, 1) := by decide +kernel
theorem dX5_markLeading_137 : decode cX5_markLeading 137 = .ok (.iconst 0, 1) := by decide +kernel
theorem dX5_markLeading_138 : decode cX5_markLeading 138 = .ok (.istore 4, 2) := by decide +kernel
theorem dX5_markLeading_140 : decode cX5_markLeading 140 = .ok (.iload 4, 2) := by decide +kernel
theorem dX5_markLeading_142 : decode cX5_markLeading 142 = .ok (.iconst 4, 1) := by decide +kernel
theorem dX5_markLeading_143 : decode cX5_markLeading 143 = .ok (.aload_n 0, 1) := by decide +kernel
theorem dX5_markLeading_144 : decode cX5_markLeading 144 = .ok (.getfield 57, 3) := by decide +kernel
theorem dX5_markLeading_147 : decode cX5_markLeading 147 = .ok (.imul, 1) := by decide +kernel
theorem dX5_markLeading_148 : decode cX5_markLeading 148 = .ok (.if_icmp .ge 61, 3) := by decide +kernel
theorem dX5_markLeading_151 : decode cX5_markLeading 151 = .ok (.iload_n 3, 1) := by decide +kernel
theorem dX5_markLeading_152 : decode cX5_markLeading 152 = .ok (.ifCond .lt 57, 3) := by decide +kernel
theorem dX5_markLeading_155 : decode cX5_markLeading 155 = .ok (.iload_n 3, 1) := by decide +kernel
theorem dX5_markLeading_156 : decode cX5_markLeading 156 = .ok (.iconst 4, 1) := by decide +kernel
theorem dX5_markLeading_157 : decode cX5_markLeading 157 = .ok (.idiv, 1) := by decide +kernel
theorem dX5_markLeading_158 : decode cX5_markLeading 158 = .ok (.istore 5, 2) := by decide +kernel
theorem dX5_markLeading_160 : decode cX5_markLeading 160 = .ok (.aload_n 0, 1) := by decide +kernel
theorem dX5_markLeading_161 : decode cX5_markLeading 161 = .ok (.getfield 48, 3) := by decide +kernel
theorem dX5_markLeading_164 : decode cX5_markLeading 164 = .ok (.iload 5, 2) := by decide +kernel
theorem dX5_markLeading_166 : decode cX5_markLeading 166 = .ok (.baload, 1) := by decide +kernel
theorem dX5_markLeading_167 : decode cX5_markLeading 167 = .ok (.ifCond .ne 29, 3) := by decide +kernel
theorem dX5_markLeading_170 : decode cX5_markLeading 170 = .ok (.iload_n 1, 1) := by decide +kernel
theorem dX5_markLeading_171 : decode cX5_markLeading 171 = .ok (.sipush 1500, 3) := by decide +kernel
theorem dX5_markLeading_174 : decode cX5_markLeading 174 = .ok (.if_icmp .ge 22, 3) := by decide +kernel
theorem dX5_markLeading_177 : decode cX5_markLeading 177 = .ok (.aload_n 0, 1) := by decide +kernel
theorem dX5_markLeading_178 : decode cX5_markLeading 178 = .ok (.getfield 48, 3) := by decide +kernel
theorem dX5_markLeading_181 : decode cX5_markLeading 181 = .ok (.iload 5, 2) := by decide +kernel
theorem dX5_markLeading_183 : decode cX5_markLeading 183 = .ok (.iconst 1, 1) := by decide +kernel
theorem dX5_markLeading_184 : decode cX5_markLeading 184 = .ok (.bastore, 1) := by decide +kernel
theorem dX5_markLeading_185 : decode cX5_markLeading 185 = .ok (.aload_n 0, 1) := by decide +kernel
theorem dX5_markLeading_186 : decode cX5_markLeading 186 = .ok (.getfield 54, 3) := by decide +kernel
theorem dX5_markLeading_189 : decode cX5_markLeading 189 = .ok (.iload_n 1, 1) := by decide +kernel
theorem dX5_markLeading_190 : decode cX5_markLeading 190 = .ok (.iload 5, 2) := by decide +kernel
theorem dX5_markLeading_192 : decode cX5_markLeading 192 = .ok (.iastore, 1) := by decide +kernel
theorem dX5_markLeading_193 : decode cX5_markLeading 193 = .ok (.iinc 1 1, 3) := by decide +kernel
theorem dX5_markLeading_196 : decode cX5_markLeading 196 = .ok (.aload_n 0, 1) := by decide +kernel
theorem dX5_markLeading_197 : decode cX5_markLeading 197 = .ok (.getfield 45, 3) := by decide +kernel
theorem dX5_markLeading_200 : decode cX5_markLeading 200 = .ok (.iload_n 3, 1) := by decide +kernel
theorem dX5_markLeading_201 : decode cX5_markLeading 201 = .ok (.iaload, 1) := by decide +kernel
theorem dX5_markLeading_202 : decode cX5_markLeading 202 = .ok (.istore_n 3, 1) := by decide +kernel
theorem dX5_markLeading_203 : decode cX5_markLeading 203 = .ok (.iinc 4 1, 3) := by decide +kernel
theorem dX5_markLeading_206 : decode cX5_markLeading 206 = .ok (.goto (-66), 3) := by decide +kernel
theorem dX5_markLeading_209 : decode cX5_markLeading 209 = .ok (.iinc 2 1, 3) := by decide +kernel
theorem dX5_markLeading_212 : decode cX5_markLeading 212 = .ok (.goto (-99), 3) := by decide +kernel
theorem dX5_markLeading_215 : decode cX5_markLeading 215 = .ok (.return_, 1) := by decide +kernel
theorem dX5_hasRing_0 : decode cX5_hasRing 0 = .ok (.iconst 0, 1) := by decide +kernel
theorem dX5_hasRing_1 : decode cX5_hasRing 1 = .ok (.istore_n 1, 1) := by decide +kernel
theorem dX5_hasRing_2 : decode cX5_hasRing 2 = .ok (.iconst 0, 1) := by decide +kernel
theorem dX5_hasRing_3 : decode cX5_hasRing 3 = .ok (.istore_n 2, 1) := by decide +kernel
theorem dX5_hasRing_4 : decode cX5_hasRing 4 = .ok (.iconst 0, 1) := by decide +kernel
theorem dX5_hasRing_5 : decode cX5_hasRing 5 = .ok (.istore_n 3, 1) := by decide +kernel
theorem dX5_hasRing_6 : decode cX5_hasRing 6 = .ok (.iload_n 3, 1) := by decide +kernel
theorem dX5_hasRing_7 : decode cX5_hasRing 7 = .ok (.aload_n 0, 1) := by decide +kernel
theorem dX5_hasRing_8 : decode cX5_hasRing 8 = .ok (.getfield 57, 3) := by decide +kernel
theorem dX5_hasRing_11 : decode cX5_hasRing 11 = .ok (.if_icmp .ge 16, 3) := by decide +kernel
theorem dX5_hasRing_14 : decode cX5_hasRing 14 = .ok (.aload_n 0, 1) := by decide +kernel
theorem dX5_hasRing_15 : decode cX5_hasRing 15 = .ok (.getfield 51, 3) := by decide +kernel
theorem dX5_hasRing_18 : decode cX5_hasRing 18 = .ok (.iload_n 3, 1) := by decide +kernel
theorem dX5_hasRing_19 : decode cX5_hasRing 19 = .ok (.iconst 0, 1) := by decide +kernel
theorem dX5_hasRing_20 : decode cX5_hasRing 20 = .ok (.iastore, 1) := by decide +kernel
theorem dX5_hasRing_21 : decode cX5_hasRing 21 = .ok (.iinc 3 1, 3) := by decide +kernel
theorem dX5_hasRing_24 : decode cX5_hasRing 24 = .ok (.goto (-18), 3) := by decide +kernel
theorem dX5_hasRing_27 : decode cX5_hasRing 27 = .ok (.iconst 0, 1) := by decide +kernel
theorem dX5_hasRing_28 : decode cX5_hasRing 28 = .ok (.istore_n 3, 1) := by decide +kernel
theorem dX5_hasRing_29 : decode cX5_hasRing 29 = .ok (.iload_n 3, 1) := by decide +kernel
theorem dX5_hasRing_30 : decode cX5_hasRing 30 = .ok (.iconst 4, 1) := by decide +kernel
theorem dX5_hasRing_31 : decode cX5_hasRing 31 = .ok (.aload_n 0, 1) := by decide +kernel
theorem dX5_hasRing_32 : decode cX5_hasRing 32 = .ok (.getfield 57, 3) := by decide +kernel
theorem dX5_hasRing_35 : decode cX5_hasRing 35 = .ok (.imul, 1) := by decide +kernel
theorem dX5_hasRing_36 : decode cX5_hasRing 36 = .ok (.if_icmp .ge 37, 3) := by decide +kernel
theorem dX5_hasRing_39 : decode cX5_hasRing 39 = .ok (.aload_n 0, 1) := by decide +kernel
theorem dX5_hasRing_40 : decode cX5_hasRing 40 = .ok (.aload_n 0, 1) := by decide +kernel
theorem dX5_hasRing_41 : decode cX5_hasRing 41 = .ok (.getfield 32, 3) := by decide +kernel
theorem dX5_hasRing_44 : decode cX5_hasRing 44 = .ok (.iload_n 3, 1) := by decide +kernel
theorem dX5_hasRing_45 : decode cX5_hasRing 45 = .ok (.iaload, 1) := by decide +kernel
theorem dX5_hasRing_46 : decode cX5_hasRing 46 = .ok (.invokevirtual 131, 3) := by decide +kernel
theorem dX5_hasRing_49 : decode cX5_hasRing 49 = .ok (.ifCond .eq 18, 3) := by decide +kernel
theorem dX5_hasRing_52 : decode cX5_hasRing 52 = .ok (.aload_n 0, 1) := by decide +kernel
theorem dX5_hasRing_53 : decode cX5_hasRing 53 = .ok (.getfield 51, 3) := by decide +kernel
theorem dX5_hasRing_56 : decode cX5_hasRing 56 = .ok (.aload_n 0, 1) := by decide +kernel
theorem dX5_hasRing_57 : decode cX5_hasRing 57 = .ok (.getfield 32, 3) := by decide +kernel
theorem dX5_hasRing_60 : decode cX5_hasRing 60 = .ok (.iload_n 3, 1) := by decide +kernel
theorem dX5_hasRing_61 : decode cX5_hasRing 61 = .ok (.iaload, 1) := by decide +kernel
theorem dX5_hasRing_62 : decode cX5_hasRing 62 = .ok (.dup2, 1) := by decide +kernel
theorem dX5_hasRing_63 : decode cX5_hasRing 63 = .ok (.iaload, 1) := by decide +kernel
theorem dX5_hasRing_64 : decode cX5_hasRing 64 = .ok (.iconst 1, 1) := by decide +kernel
theorem dX5_hasRing_65 : decode cX5_hasRing 65 = .ok (.iadd, 1) := by decide +kernel
theorem dX5_hasRing_66 : decode cX5_hasRing 66 = .ok (.iastore, 1) := by decide +kernel
theorem dX5_hasRing_67 : decode cX5_hasRing 67 = .ok (.iinc 3 1, 3) := by decide +kernel
theorem dX5_hasRing_70 : decode cX5_hasRing 70 = .ok (.goto (-41), 3) := by decide +kernel
theorem dX5_hasRing_73 : decode cX5_hasRing 73 = .ok (.iconst 0, 1) := by decide +kernel
theorem dX5_hasRing_74 : decode cX5_hasRing 74 = .ok (.istore_n 3, 1) := by decide +kernel
theorem dX5_hasRing_75 : decode cX5_hasRing 75 = .ok (.iload_n 3, 1) := by decide +kernel
theorem dX5_hasRing_76 : decode cX5_hasRing 76 = .ok (.aload_n 0, 1) := by decide +kernel
theorem dX5_hasRing_77 : decode cX5_hasRing 77 = .ok (.getfield 57, 3) := by decide +kernel
theorem dX5_hasRing_80 : decode cX5_hasRing 80 = .ok (.if_icmp .ge 43, 3) := by decide +kernel
theorem dX5_hasRing_83 : decode cX5_hasRing 83 = .ok (.aload_n 0, 1) := by decide +kernel
theorem dX5_hasRing_84 : decode cX5_hasRing 84 = .ok (.getfield 48, 3) := by decide +kernel
theorem dX5_hasRing_87 : decode cX5_hasRing 87 = .ok (.iload_n 3, 1) := by decide +kernel
theorem dX5_hasRing_88 : decode cX5_hasRing 88 = .ok (.baload, 1) := by decide +kernel
theorem dX5_hasRing_89 : decode cX5_hasRing 89 = .ok (.ifCond .ne 6, 3) := by decide +kernel
theorem dX5_hasRing_92 : decode cX5_hasRing 92 = .ok (.goto 25, 3) := by decide +kernel
theorem dX5_hasRing_95 : decode cX5_hasRing 95 = .ok (.iinc 1 1, 3) := by decide +kernel
theorem dX5_hasRing_98 : decode cX5_hasRing 98 = .ok (.aload_n 0, 1) := by decide +kernel
theorem dX5_hasRing_99 : decode cX5_hasRing 99 = .ok (.getfield 51, 3) := by decide +kernel
theorem dX5_hasRing_102 : decode cX5_hasRing 102 = .ok (.iload_n 3, 1) := by decide +kernel
theorem dX5_hasRing_103 : decode cX5_hasRing 103 = .ok (.iaload, 1) := by decide +kernel
theorem dX5_hasRing_104 : decode cX5_hasRing 104 = .ok (.ifCond .ne 13, 3) := by decide +kernel
theorem dX5_hasRing_107 : decode cX5_hasRing 107 = .ok (.aload_n 0, 1) := by decide +kernel
theorem dX5_hasRing_108 : decode cX5_hasRing 108 = .ok (.getfield 54, 3) := by decide +kernel
theorem dX5_hasRing_111 : decode cX5_hasRing 111 = .ok (.iload_n 2, 1) := by decide +kernel
theorem dX5_hasRing_112 : decode cX5_hasRing 112 = .ok (.iload_n 3, 1) := by decide +kernel
theorem dX5_hasRing_113 : decode cX5_hasRing 113 = .ok (.iastore, 1) := by decide +kernel
theorem dX5_hasRing_114 : decode cX5_hasRing 114 = .ok (.iinc 2 1, 3) := by decide +kernel
theorem dX5_hasRing_117 : decode cX5_hasRing 117 = .ok (.iinc 3 1, 3) := by decide +kernel
theorem dX5_hasRing_120 : decode cX5_hasRing 120 = .ok (.goto (-45), 3) := by decide +kernel
theorem dX5_hasRing_123 : decode cX5_hasRing 123 = .ok (.iconst 0, 1) := by decide +kernel
theorem dX5_hasRing_124 : decode cX5_hasRing 124 = .ok (.istore_n 3, 1) := by decide +kernel
theorem dX5_hasRing_125 : decode cX5_hasRing 125 = .ok (.iload_n 3, 1) := by decide +kernel
theorem dX5_hasRing_126 : decode cX5_hasRing 126 = .ok (.sipush 1500, 3) := by decide +kernel
theorem dX5_hasRing_129 : decode cX5_hasRing 129 = .ok (.if_icmp .ge 98, 3) := by decide +kernel
theorem dX5_hasRing_132 : decode cX5_hasRing 132 = .ok (.iload_n 3, 1) := by decide +kernel
theorem dX5_hasRing_133 : decode cX5_hasRing 133 = .ok (.iload_n 2, 1) := by decide +kernel
theorem dX5_hasRing_134 : decode cX5_hasRing 134 = .ok (.if_icmp .ge 93, 3) := by decide +kernel
theorem dX5_hasRing_137 : decode cX5_hasRing 137 = .ok (.iconst 0, 1) := by decide +kernel
theorem dX5_hasRing_138 : decode cX5_hasRing 138 = .ok (.istore 4, 2) := by decide +kernel
theorem dX5_hasRing_140 : decode cX5_hasRing 140 = .ok (.iload 4, 2) := by decide +kernel
theorem dX5_hasRing_142 : decode cX5_hasRing 142 = .ok (.iconst 4, 1) := by decide +kernel
theorem dX5_hasRing_143 : decode cX5_hasRing 143 = .ok (.if_icmp .ge 78, 3) := by decide +kernel
theorem dX5_hasRing_146 : decode cX5_hasRing 146 = .ok (.aload_n 0, 1) := by decide +kernel
theorem dX5_hasRing_147 : decode cX5_hasRing 147 = .ok (.getfield 32, 3) := by decide +kernel
theorem dX5_hasRing_150 : decode cX5_hasRing 150 = .ok (.iconst 4, 1) := by decide +kernel
theorem dX5_hasRing_151 : decode cX5_hasRing 151 = .ok (.aload_n 0, 1) := by decide +kernel
theorem dX5_hasRing_152 : decode cX5_hasRing 152 = .ok (.getfield 54, 3) := by decide +kernel
theorem dX5_hasRing_155 : decode cX5_hasRing 155 = .ok (.iload_n 3, 1) := by decide +kernel
theorem dX5_hasRing_156 : decode cX5_hasRing 156 = .ok (.iaload, 1) := by decide +kernel
theorem dX5_hasRing_157 : decode cX5_hasRing 157 = .ok (.imul, 1) := by decide +kernel
theorem dX5_hasRing_158 : decode cX5_hasRing 158 = .ok (.iload 4, 2) := by decide +kernel
theorem dX5_hasRing_160 : decode cX5_hasRing 160 = .ok (.iadd, 1) := by decide +kernel
theorem dX5_hasRing_161 : decode cX5_hasRing 161 = .ok (.iaload, 1) := by decide +kernel
theorem dX5_hasRing_162 : decode cX5_hasRing 162 = .ok (.istore 5, 2) := by decide +kernel
theorem dX5_hasRing_164 : decode cX5_hasRing 164 = .ok (.aload_n 0, 1) := by decide +kernel
theorem dX5_hasRing_165 : decode cX5_hasRing 165 = .ok (.iload 5, 2) := by decide +kernel
theorem dX5_hasRing_167 : decode cX5_hasRing 167 = .ok (.invokevirtual 131, 3) := by decide +kernel
theorem dX5_hasRing_170 : decode cX5_hasRing 170 = .ok (.ifCond .ne 6, 3) := by decide +kernel
theorem dX5_hasRing_173 : decode cX5_hasRing 173 = .ok (.goto 42, 3) := by decide +kernel
theorem dX5_hasRing_176 : decode cX5_hasRing 176 = .ok (.aload_n 0, 1) := by decide +kernel
theorem dX5_hasRing_177 : decode cX5_hasRing 177 = .ok (.getfield 51, 3) := by decide +kernel
theorem dX5_hasRing_180 : decode cX5_hasRing 180 = .ok (.iload 5, 2) := by decide +kernel
theorem dX5_hasRing_182 : decode cX5_hasRing 182 = .ok (.dup2, 1) := by decide +kernel
theorem dX5_hasRing_183 : decode cX5_hasRing 183 = .ok (.iaload, 1) := by decide +kernel
theorem dX5_hasRing_184 : decode cX5_hasRing 184 = .ok (.iconst 1, 1) := by decide +kernel
theorem dX5_hasRing_185 : decode cX5_hasRing 185 = .ok (.isub, 1) := by decide +kernel
theorem dX5_hasRing_186 : decode cX5_hasRing 186 = .ok (.iastore, 1) := by decide +kernel
theorem dX5_hasRing_187 : decode cX5_hasRing 187 = .ok (.aload_n 0, 1) := by decide +kernel
theorem dX5_hasRing_188 : decode cX5_hasRing 188 = .ok (.getfield 51, 3) := by decide +kernel
theorem dX5_hasRing_191 : decode cX5_hasRing 191 = .ok (.iload 5, 2) := by decide +kernel
theorem dX5_hasRing_193 : decode cX5_hasRing 193 = .ok (.iaload, 1) := by decide +kernel
theorem dX5_hasRing_194 : decode cX5_hasRing 194 = .ok (.ifCond .ne 21, 3) := by decide +kernel
theorem dX5_hasRing_197 : decode cX5_hasRing 197 = .ok (.iload_n 2, 1) := by decide +kernel
theorem dX5_hasRing_198 : decode cX5_hasRing 198 = .ok (.sipush 1500, 3) := by decide +kernel
theorem dX5_hasRing_201 : decode cX5_hasRing 201 = .ok (.if_icmp .ge 14, 3) := by decide +kernel
theorem dX5_hasRing_204 : decode cX5_hasRing 204 = .ok (.aload_n 0, 1) := by decide +kernel
theorem dX5_hasRing_205 : decode cX5_hasRing 205 = .ok (.getfield 54, 3) := by decide +kernel
theorem dX5_hasRing_208 : decode cX5_hasRing 208 = .ok (.iload_n 2, 1) := by decide +kernel
theorem dX5_hasRing_209 : decode cX5_hasRing 209 = .ok (.iload 5, 2) := by decide +kernel
theorem dX5_hasRing_211 : decode cX5_hasRing 211 = .ok (.iastore, 1) := by decide +kernel
theorem dX5_hasRing_212 : decode cX5_hasRing 212 = .ok (.iinc 2 1, 3) := by decide +kernel
theorem dX5_hasRing_215 : decode cX5_hasRing 215 = .ok (.iinc 4 1, 3) := by decide +kernel
theorem dX5_hasRing_218 : decode cX5_hasRing 218 = .ok (.goto (-78), 3) := by decide +kernel
theorem dX5_hasRing_221 : decode cX5_hasRing 221 = .ok (.iinc 3 1, 3) := by decide +kernel
theorem dX5_hasRing_224 : decode cX5_hasRing 224 = .ok (.goto (-99), 3) := by decide +kernel
theorem dX5_hasRing_227 : decode cX5_hasRing 227 = .ok (.iload_n 2, 1) := by decide +kernel
theorem dX5_hasRing_228 : decode cX5_hasRing 228 = .ok (.iload_n 1, 1) := by decide +kernel
theorem dX5_hasRing_229 : decode cX5_hasRing 229 = .ok (.if_icmp .ge 7, 3) := by decide +kernel
theorem dX5_hasRing_232 : decode cX5_hasRing 232 = .ok (.iconst 1, 1) := by decide +kernel
theorem dX5_hasRing_233 : decode cX5_hasRing 233 = .ok (.goto 4, 3) := by decide +kernel
theorem dX5_hasRing_236 : decode cX5_hasRing 236 = .ok (.iconst 0, 1) := by decide +kernel
theorem dX5_hasRing_237 : decode cX5_hasRing 237 = .ok (.ireturn, 1) := by decide +kernel
theorem dX6_init_0 : decode cX6_init 0 = .ok (.aload_n 0, 1) := by decide +kernel
theorem dX6_init_1 : decode cX6_init 1 = .ok (.invokespecial 3, 3) := by decide +kernel
theorem dX6_init_4 : decode cX6_init 4 = .ok (.aload_n 0, 1) := by decide +kernel
theorem dX6_init_5 : decode cX6_init 5 = .ok (.iconst 2, 1) := by decide +kernel
theorem dX6_init_6 : decode cX6_init 6 = .ok (.bipush 32, 2) := by decide +kernel
theorem dX6_init_8 : decode cX6_init 8 = .ok (.multianewarray 11 2, 4) := by decide +kernel
theorem dX6_init_12 : decode cX6_init 12 = .ok (.putfield 13, 3) := by decide +kernel
theorem dX6_init_15 : decode cX6_init 15 = .ok (.aload_n 0, 1) := by decide +kernel
theorem dX6_init_16 : decode cX6_init 16 = .ok (.iconst 2, 1) := by decide +kernel
theorem dX6_init_17 : decode cX6_init 17 = .ok (.newarray .int, 2) := by decide +kernel
theorem dX6_init_19 : decode cX6_init 19 = .ok (.putfield 16, 3) := by decide +kernel
theorem dX6_init_22 : decode cX6_init 22 = .ok (.aload_n 0, 1) := by decide +kernel
theorem dX6_init_23 : decode cX6_init 23 = .ok (.iconst 0, 1) := by decide +kernel
theorem dX6_init_24 : decode cX6_init 24 = .ok (.putfield 20, 3) := by decide +kernel
theorem dX6_init_27 : decode cX6_init 27 = .ok (.aload_n 0, 1) := by decide +kernel
theorem dX6_init_28 : decode cX6_init 28 = .ok (.lconst 0, 1) := by decide +kernel
theorem dX6_init_29 : decode cX6_init 29 = .ok (.putfield 24, 3) := by decide +kernel
theorem dX6_init_32 : decode cX6_init 32 = .ok (.aload_n 0, 1) := by decide +kernel
theorem dX6_init_33 : decode cX6_init 33 = .ok (.iconst 0, 1) := by decide +kernel
theorem dX6_init_34 : decode cX6_init 34 = .ok (.putfield 28, 3) := by decide +kernel
theorem dX6_init_37 : decode cX6_init 37 = .ok (.return_, 1) := by decide +kernel
theorem dX6_begin_0 : decode cX6_begin 0 = .ok (.aload_n 0, 1) := by decide +kernel
theorem dX6_begin_1 : decode cX6_begin 1 = .ok (.getfield 16, 3) := by decide +kernel
theorem dX6_begin_4 : decode cX6_begin 4 = .ok (.iconst 0, 1) := by decide +kernel
theorem dX6_begin_5 : decode cX6_begin 5 = .ok (.iconst 0, 1) := by decide +kernel
theorem dX6_begin_6 : decode cX6_begin 6 = .ok (.iastore, 1) := by decide +kernel
theorem dX6_begin_7 : decode cX6_begin 7 = .ok (.aload_n 0, 1) := by decide +kernel
theorem dX6_begin_8 : decode cX6_begin 8 = .ok (.getfield 16, 3) := by decide +kernel
theorem dX6_begin_11 : decode cX6_begin 11 = .ok (.iconst 1, 1) := by decide +kernel
theorem dX6_begin_12 : decode cX6_begin 12 = .ok (.iconst 0, 1) := by decide +kernel
theorem dX6_begin_13 : decode cX6_begin 13 = .ok (.iastore, 1) := by decide +kernel
theorem dX6_begin_14 : decode cX6_begin 14 = .ok (.aload_n 0, 1) := by decide +kernel
theorem dX6_begin_15 : decode cX6_begin 15 = .ok (.iconst 0, 1) := by decide +kernel
theorem dX6_begin_16 : decode cX6_begin 16 = .ok (.putfield 20, 3) := by decide +kernel
theorem dX6_begin_19 : decode cX6_begin 19 = .ok (.return_, 1) := by decide +kernel
theorem dX6_add_0 : decode cX6_add 0 = .ok (.iload_n 1, 1) := by decide +kernel
theorem dX6_add_1 : decode cX6_add 1 = .ok (.ifCond .lt 19, 3) := by decide +kernel
theorem dX6_add_4 : decode cX6_add 4 = .ok (.iload_n 1, 1) := by decide +kernel
theorem dX6_add_5 : decode cX6_add 5 = .ok (.iconst 1, 1) := by decide +kernel
theorem dX6_add_6 : decode cX6_add 6 = .ok (.if_icmp .gt 14, 3) := by decide +kernel
theorem dX6_add_9 : decode cX6_add 9 = .ok (.aload_n 0, 1) := by decide +kernel
theorem dX6_add_10 : decode cX6_add 10 = .ok (.getfield 16, 3) := by decide +kernel
theorem dX6_add_13 : decode cX6_add 13 = .ok (.iload_n 1, 1) := by decide +kernel
theorem dX6_add_14 : decode cX6_add 14 = .ok (.iaload, 1) := by decide +kernel
theorem dX6_add_15 : decode cX6_add 15 = .ok (.bipush 32, 2) := by decide +kernel
theorem dX6_add_17 : decode cX6_add 17 = .ok (.if_icmp .lt 4, 3) := by decide +kernel
theorem dX6_add_20 : decode cX6_add 20 = .ok (.return_, 1) := by decide +kernel
theorem dX6_add_21 : decode cX6_add 21 = .ok (.aload_n 0, 1) := by decide +kernel
theorem dX6_add_22 : decode cX6_add 22 = .ok (.getfield 13, 3) := by decide +kernel
theorem dX6_add_25 : decode cX6_add 25 = .ok (.iload_n 1, 1) := by decide +kernel
theorem dX6_add_26 : decode cX6_add 26 = .ok (.aaload, 1) := by decide +kernel
theorem dX6_add_27 : decode cX6_add 27 = .ok (.aload_n 0, 1) := by decide +kernel
theorem dX6_add_28 : decode cX6_add 28 = .ok (.getfield 16, 3) := by decide +kernel
theorem dX6_add_31 : decode cX6_add 31 = .ok (.iload_n 1, 1) := by decide +kernel
theorem dX6_add_32 : decode cX6_add 32 = .ok (.iaload, 1) := by decide +kernel
theorem dX6_add_33 : decode cX6_add 33 = .ok (.iload_n 2, 1) := by decide +kernel
theorem dX6_add_34 : decode cX6_add 34 = .ok (.iastore, 1) := by decide +kernel
theorem dX6_add_35 : decode cX6_add 35 = .ok (.aload_n 0, 1) := by decide +kernel
theorem dX6_add_36 : decode cX6_add 36 = .ok (.getfield 16, 3) := by decide +kernel
theorem dX6_add_39 : decode cX6_add 39 = .ok (.iload_n 1, 1) := by decide +kernel
theorem dX6_add_40 : decode cX6_add 40 = .ok (.dup2, 1) := by decide +kernel
theorem dX6_add_41 : decode cX6_add 41 = .ok (.iaload, 1) := by decide +kernel
theorem dX6_add_42 : decode cX6_add 42 = .ok (.iconst 1, 1) := by decide +kernel
theorem dX6_add_43 : decode cX6_add 43 = .ok (.iadd, 1) := by decide +kernel
theorem dX6_add_44 : decode cX6_add 44 = .ok (.iastore, 1) := by decide +kernel
theorem dX6_add_45 : decode cX6_add 45 = .ok (.return_, 1) := by decide +kernel
theorem dX6_read_0 : decode cX6_read 0 = .ok (.aload_n 0, 1) := by decide +kernel
theorem dX6_read_1 : decode cX6_read 1 = .ok (.invokevirtual 31, 3) := by decide +kernel
theorem dX6_read_4 : decode cX6_read 4 = .ok (.iconst 0, 1) := by decide +kernel
theorem dX6_read_5 : decode cX6_read 5 = .ok (.istore_n 3, 1) := by decide +kernel
theorem dX6_read_6 : decode cX6_read 6 = .ok (.iload_n 3, 1) := by decide +kernel
theorem dX6_read_7 : decode cX6_read 7 = .ok (.aload_n 1, 1) := by decide +kernel
theorem dX6_read_8 : decode cX6_read 8 = .ok (.invokevirtual 34, 3) := by decide +kernel
theorem dX6_read_11 : decode cX6_read 11 = .ok (.if_icmp .ge 19, 3) := by decide +kernel
theorem dX6_read_14 : decode cX6_read 14 = .ok (.aload_n 0, 1) := by decide +kernel
theorem dX6_read_15 : decode cX6_read 15 = .ok (.iconst 0, 1) := by decide +kernel
theorem dX6_read_16 : decode cX6_read 16 = .ok (.aload_n 1, 1) := by decide +kernel
theorem dX6_read_17 : decode cX6_read 17 = .ok (.iload_n 3, 1) := by decide +kernel
theorem dX6_read_18 : decode cX6_read 18 = .ok (.invokevirtual 40, 3) := by decide +kernel
theorem dX6_read_21 : decode cX6_read 21 = .ok (.invokevirtual 44, 3) := by decide +kernel
theorem dX6_read_24 : decode cX6_read 24 = .ok (.iinc 3 1, 3) := by decide +kernel
theorem dX6_read_27 : decode cX6_read 27 = .ok (.goto (-21), 3) := by decide +kernel
theorem dX6_read_30 : decode cX6_read 30 = .ok (.iconst 0, 1) := by decide +kernel
theorem dX6_read_31 : decode cX6_read 31 = .ok (.istore_n 3, 1) := by decide +kernel
theorem dX6_read_32 : decode cX6_read 32 = .ok (.iload_n 3, 1) := by decide +kernel
theorem dX6_read_33 : decode cX6_read 33 = .ok (.aload_n 2, 1) := by decide +kernel
theorem dX6_read_34 : decode cX6_read 34 = .ok (.invokevirtual 34, 3) := by decide +kernel
theorem dX6_read_37 : decode cX6_read 37 = .ok (.if_icmp .ge 19, 3) := by decide +kernel
theorem dX6_read_40 : decode cX6_read 40 = .ok (.aload_n 0, 1) := by decide +kernel
theorem dX6_read_41 : decode cX6_read 41 = .ok (.iconst 1, 1) := by decide +kernel
theorem dX6_read_42 : decode cX6_read 42 = .ok (.aload_n 2, 1) := by decide +kernel
theorem dX6_read_43 : decode cX6_read 43 = .ok (.iload_n 3, 1) := by decide +kernel
theorem dX6_read_44 : decode cX6_read 44 = .ok (.invokevirtual 40, 3) := by decide +kernel
theorem dX6_read_47 : decode cX6_read 47 = .ok (.invokevirtual 44, 3) := by decide +kernel
theorem dX6_read_50 : decode cX6_read 50 = .ok (.iinc 3 1, 3) := by decide +kernel
theorem dX6_read_53 : decode cX6_read 53 = .ok (.goto (-21), 3) := by decide +kernel
theorem dX6_read_56 : decode cX6_read 56 = .ok (.return_, 1) := by decide +kernel
theorem dX6_strike_0 : decode cX6_strike 0 = .ok (.aload_n 0, 1) := by decide +kernel
theorem dX6_strike_1 : decode cX6_strike 1 = .ok (.getfield 16, 3) := by decide +kernel
theorem dX6_strike_4 : decode cX6_strike 4 = .ok (.iconst 0, 1) := by decide +kernel
theorem dX6_strike_5 : decode cX6_strike 5 = .ok (.iaload, 1) := by decide +kernel
theorem dX6_strike_6 : decode cX6_strike 6 = .ok (.aload_n 0, 1) := by decide +kernel
theorem dX6_strike_7 : decode cX6_strike 7 = .ok (.getfield 16, 3) := by decide +kernel
theorem dX6_strike_10 : decode cX6_strike 10 = .ok (.iconst 1, 1) := by decide +kernel
theorem dX6_strike_11 : decode cX6_strike 11 = .ok (.iaload, 1) := by decide +kernel
theorem dX6_strike_12 : decode cX6_strike 12 = .ok (.invokestatic 48, 3) := by decide +kernel
theorem dX6_strike_15 : decode cX6_strike 15 = .ok (.istore_n 1, 1) := by decide +kernel
theorem dX6_strike_16 : decode cX6_strike 16 = .ok (.aload_n 0, 1) := by decide +kernel
theorem dX6_strike_17 : decode cX6_strike 17 = .ok (.getfield 20, 3) := by decide +kernel
theorem dX6_strike_20 : decode cX6_strike 20 = .ok (.iload_n 1, 1) := by decide +kernel
theorem dX6_strike_21 : decode cX6_strike 21 = .ok (.if_icmp .ge 41, 3) := by decide +kernel
theorem dX6_strike_24 : decode cX6_strike 24 = .ok (.aload_n 0, 1) := by decide +kernel
theorem dX6_strike_25 : decode cX6_strike 25 = .ok (.getfield 13, 3) := by decide +kernel
theorem dX6_strike_28 : decode cX6_strike 28 = .ok (.iconst 0, 1) := by decide +kernel
theorem dX6_strike_29 : decode cX6_strike 29 = .ok (.aaload, 1) := by decide +kernel
theorem dX6_strike_30 : decode cX6_strike 30 = .ok (.aload_n 0, 1) := by decide +kernel
theorem dX6_strike_31 : decode cX6_strike 31 = .ok (.getfield 20, 3) := by decide +kernel
theorem dX6_strike_34 : decode cX6_strike 34 = .ok (.iaload, 1) := by decide +kernel
theorem dX6_strike_35 : decode cX6_strike 35 = .ok (.aload_n 0, 1) := by decide +kernel
theorem dX6_strike_36 : decode cX6_strike 36 = .ok (.getfield 13, 3) := by decide +kernel
theorem dX6_strike_39 : decode cX6_strike 39 = .ok (.iconst 1, 1) := by decide +kernel
theorem dX6_strike_40 : decode cX6_strike 40 = .ok (.aaload, 1) := by decide +kernel
theorem dX6_strike_41 : decode cX6_strike 41 = .ok (.aload_n 0, 1) := by decide +kernel
theorem dX6_strike_42 : decode cX6_strike 42 = .ok (.getfield 20, 3) := by decide +kernel
theorem dX6_strike_45 : decode cX6_strike 45 = .ok (.iaload, 1) := by decide +kernel
theorem dX6_strike_46 : decode cX6_strike 46 = .ok (.if_icmp .ne 16, 3) := by decide +kernel
theorem dX6_strike_49 : decode cX6_strike 49 = .ok (.aload_n 0, 1) := by decide +kernel
theorem dX6_strike_50 : decode cX6_strike 50 = .ok (.dup, 1) := by decide +kernel
theorem dX6_strike_51 : decode cX6_strike 51 = .ok (.getfield 20, 3) := by decide +kernel
theorem dX6_strike_54 : decode cX6_strike 54 = .ok (.iconst 1, 1) := by decide +kernel
theorem dX6_strike_55 : decode cX6_strike 55 = .ok (.iadd, 1) := by decide +kernel
theorem dX6_strike_56 : decode cX6_strike 56 = .ok (.putfield 20, 3) := by decide +kernel
theorem dX6_strike_59 : decode cX6_strike 59 = .ok (.goto (-43), 3) := by decide +kernel
theorem dX6_strike_62 : decode cX6_strike 62 = .ok (.return_, 1) := by decide +kernel
theorem dX6_become_0 : decode cX6_become 0 = .ok (.aload_n 0, 1) := by decide +kernel
theorem dX6_become_1 : decode cX6_become 1 = .ok (.invokevirtual 31, 3) := by decide +kernel
theorem dX6_become_4 : decode cX6_become 4 = .ok (.iconst 0, 1) := by decide +kernel
theorem dX6_become_5 : decode cX6_become 5 = .ok (.istore 4, 2) := by decide +kernel
theorem dX6_become_7 : decode cX6_become 7 = .ok (.iload 4, 2) := by decide +kernel
theorem dX6_become_9 : decode cX6_become 9 = .ok (.iconst 2, 1) := by decide +kernel
theorem dX6_become_10 : decode cX6_become 10 = .ok (.if_icmp .ge 80, 3) := by decide +kernel
theorem dX6_become_13 : decode cX6_become 13 = .ok (.aload_n 1, 1) := by decide +kernel
theorem dX6_become_14 : decode cX6_become 14 = .ok (.getfield 20, 3) := by decide +kernel
theorem dX6_become_17 : decode cX6_become 17 = .ok (.istore 5, 2) := by decide +kernel
theorem dX6_become_19 : decode cX6_become 19 = .ok (.iload 5, 2) := by decide +kernel
theorem dX6_become_21 : decode cX6_become 21 = .ok (.aload_n 1, 1) := by decide +kernel
theorem dX6_become_22 : decode cX6_become 22 = .ok (.getfield 16, 3) := by decide +kernel
theorem dX6_become_25 : decode cX6_become 25 = .ok (.iload 4, 2) := by decide +kernel
theorem dX6_become_27 : decode cX6_become 27 = .ok (.iaload, 1) := by decide +kernel
theorem dX6_become_28 : decode cX6_become 28 = .ok (.if_icmp .ge 56, 3) := by decide +kernel
theorem dX6_become_31 : decode cX6_become 31 = .ok (.aload_n 1, 1) := by decide +kernel
theorem dX6_become_32 : decode cX6_become 32 = .ok (.getfield 13, 3) := by decide +kernel
theorem dX6_become_35 : decode cX6_become 35 = .ok (.iload 4, 2) := by decide +kernel
theorem dX6_become_37 : decode cX6_become 37 = .ok (.aaload, 1) := by decide +kernel
theorem dX6_become_38 : decode cX6_become 38 = .ok (.iload 5, 2) := by decide +kernel
theorem dX6_become_40 : decode cX6_become 40 = .ok (.iaload, 1) := by decide +kernel
theorem dX6_become_41 : decode cX6_become 41 = .ok (.istore 6, 2) := by decide +kernel
theorem dX6_become_43 : decode cX6_become 43 = .ok (.iload 6, 2) := by decide +kernel
theorem dX6_become_45 : decode cX6_become 45 = .ok (.iload_n 2, 1) := by decide +kernel
theorem dX6_become_46 : decode cX6_become 46 = .ok (.if_icmp .ne 11, 3) := by decide +kernel
theorem dX6_become_49 : decode cX6_become 49 = .ok (.iload_n 3, 1) := by decide +kernel
theorem dX6_become_50 : decode cX6_become 50 = .ok (.iconst (-1), 1) := by decide +kernel
theorem dX6_become_51 : decode cX6_become 51 = .ok (.if_icmp .ne 6, 3) := by decide +kernel
theorem dX6_become_54 : decode cX6_become 54 = .ok (.goto 24, 3) := by decide +kernel
theorem dX6_become_57 : decode cX6_become 57 = .ok (.iload 6, 2) := by decide +kernel
theorem dX6_become_59 : decode cX6_become 59 = .ok (.iload_n 2, 1) := by decide +kernel
theorem dX6_become_60 : decode cX6_become 60 = .ok (.if_icmp .ne 10, 3) := by decide +kernel
theorem dX6_become_63 : decode cX6_become 63 = .ok (.aload_n 0, 1) := by decide +kernel
theorem dX6_become_64 : decode cX6_become 64 = .ok (.iload 4, 2) := by decide +kernel
theorem dX6_become_66 : decode cX6_become 66 = .ok (.iload_n 3, 1) := by decide +kernel
theorem dX6_become_67 : decode cX6_become 67 = .ok (.invokevirtual 44, 3) := by decide +kernel
theorem dX6_become_70 : decode cX6_become 70 = .ok (.aload_n 0, 1) := by decide +kernel
theorem dX6_become_71 : decode cX6_become 71 = .ok (.iload 4, 2) := by decide +kernel
theorem dX6_become_73 : decode cX6_become 73 = .ok (.iload 6, 2) := by decide +kernel
theorem dX6_become_75 : decode cX6_become 75 = .ok (.invokevirtual 44, 3) := by decide +kernel
theorem dX6_become_78 : decode cX6_become 78 = .ok (.iinc 5 1, 3) := by decide +kernel
theorem dX6_become_81 : decode cX6_become 81 = .ok (.goto (-62), 3) := by decide +kernel
theorem dX6_become_84 : decode cX6_become 84 = .ok (.iinc 4 1, 3) := by decide +kernel
theorem dX6_become_87 : decode cX6_become 87 = .ok (.goto (-80), 3) := by decide +kernel
theorem dX6_become_90 : decode cX6_become 90 = .ok (.return_, 1) := by decide +kernel
theorem dX6_unknowns_0 : decode cX6_unknowns 0 = .ok (.iconst 0, 1) := by decide +kernel
theorem dX6_unknowns_1 : decode cX6_unknowns 1 = .ok (.istore_n 1, 1) := by decide +kernel
theorem dX6_unknowns_2 : decode cX6_unknowns 2 = .ok (.iconst 0, 1) := by decide +kernel
theorem dX6_unknowns_3 : decode cX6_unknowns 3 = .ok (.istore_n 2, 1) := by decide +kernel
theorem dX6_unknowns_4 : decode cX6_unknowns 4 = .ok (.iload_n 2, 1) := by decide +kernel
theorem dX6_unknowns_5 : decode cX6_unknowns 5 = .ok (.iconst 2, 1) := by decide +kernel
theorem dX6_unknowns_6 : decode cX6_unknowns 6 = .ok (.if_icmp .ge 60, 3) := by decide +kernel
theorem dX6_unknowns_9 : decode cX6_unknowns 9 = .ok (.aload_n 0, 1) := by decide +kernel
theorem dX6_unknowns_10 : decode cX6_unknowns 10 = .ok (.getfield 20, 3) := by decide +kernel
theorem dX6_unknowns_13 : decode cX6_unknowns 13 = .ok (.istore_n 3, 1) := by decide +kernel
theorem dX6_unknowns_14 : decode cX6_unknowns 14 = .ok (.iload_n 3, 1) := by decide +kernel
theorem dX6_unknowns_15 : decode cX6_unknowns 15 = .ok (.aload_n 0, 1) := by decide +kernel
theorem dX6_unknowns_16 : decode cX6_unknowns 16 = .ok (.getfield 16, 3) := by decide +kernel
theorem dX6_unknowns_19 : decode cX6_unknowns 19 = .ok (.iload_n 2, 1) := by decide +kernel
theorem dX6_unknowns_20 : decode cX6_unknowns 20 = .ok (.iaload, 1) := by decide +kernel
theorem dX6_unknowns_21 : decode cX6_unknowns 21 = .ok (.if_icmp .ge 39, 3) := by decide +kernel
theorem dX6_unknowns_24 : decode cX6_unknowns 24 = .ok (.aload_n 0, 1) := by decide +kernel
theorem dX6_unknowns_25 : decode cX6_unknowns 25 = .ok (.getfield 13, 3) := by decide +kernel
theorem dX6_unknowns_28 : decode cX6_unknowns 28 = .ok (.iload_n 2, 1) := by decide +kernel
theorem dX6_unknowns_29 : decode cX6_unknowns 29 = .ok (.aaload, 1) := by decide +kernel
theorem dX6_unknowns_30 : decode cX6_unknowns 30 = .ok (.iload_n 3, 1) := by decide +kernel
theorem dX6_unknowns_31 : decode cX6_unknowns 31 = .ok (.iaload, 1) := by decide +kernel
theorem dX6_unknowns_32 : decode cX6_unknowns 32 = .ok (.invokestatic 54, 3) := by decide +kernel
theorem dX6_unknowns_35 : decode cX6_unknowns 35 = .ok (.ifCond .eq 19, 3) := by decide +kernel
theorem dX6_unknowns_38 : decode cX6_unknowns 38 = .ok (.iload_n 1, 1) := by decide +kernel
theorem dX6_unknowns_39 : decode cX6_unknowns 39 = .ok (.iconst 1, 1) := by decide +kernel
theorem dX6_unknowns_40 : decode cX6_unknowns 40 = .ok (.aload_n 0, 1) := by decide +kernel
theorem dX6_unknowns_41 : decode cX6_unknowns 41 = .ok (.getfield 13, 3) := by decide +kernel
theorem dX6_unknowns_44 : decode cX6_unknowns 44 = .ok (.iload_n 2, 1) := by decide +kernel
theorem dX6_unknowns_45 : decode cX6_unknowns 45 = .ok (.aaload, 1) := by decide +kernel
theorem dX6_unknowns_46 : decode cX6_unknowns 46 = .ok (.iload_n 3, 1) := by decide +kernel
theorem dX6_unknowns_47 : decode cX6_unknowns 47 = .ok (.iaload, 1) := by decide +kernel
theorem dX6_unknowns_48 : decode cX6_unknowns 48 = .ok (.invokestatic 58, 3) := by decide +kernel
theorem dX6_unknowns_51 : decode cX6_unknowns 51 = .ok (.ishl, 1) := by decide +kernel
theorem dX6_unknowns_52 : decode cX6_unknowns 52 = .ok (.ior, 1) := by decide +kernel
theorem dX6_unknowns_53 : decode cX6_unknowns 53 = .ok (.istore_n 1, 1) := by decide +kernel
theorem dX6_unknowns_54 : decode cX6_unknowns 54 = .ok (.iinc 3 1, 3) := by decide +kernel
theorem dX6_unknowns_57 : decode cX6_unknowns 57 = .ok (.goto (-43), 3) := by decide +kernel
theorem dX6_unknowns_60 : decode cX6_unknowns 60 = .ok (.iinc 2 1, 3) := by decide +kernel
theorem dX6_unknowns_63 : decode cX6_unknowns 63 = .ok (.goto (-59), 3) := by decide +kernel
theorem dX6_unknowns_66 : decode cX6_unknowns 66 = .ok (.iload_n 1, 1) := by decide +kernel
theorem dX6_unknowns_67 : decode cX6_unknowns 67 = .ok (.ireturn, 1) := by decide +kernel
theorem dX6_head_0 : decode cX6_head 0 = .ok (.aload_n 0, 1) := by decide +kernel
theorem dX6_head_1 : decode cX6_head 1 = .ok (.getfield 20, 3) := by decide +kernel
theorem dX6_head_4 : decode cX6_head 4 = .ok (.aload_n 0, 1) := by decide +kernel
theorem dX6_head_5 : decode cX6_head 5 = .ok (.getfield 16, 3) := by decide +kernel
theorem dX6_head_8 : decode cX6_head 8 = .ok (.iload_n 1, 1) := by decide +kernel
theorem dX6_head_9 : decode cX6_head 9 = .ok (.iaload, 1) := by decide +kernel
theorem dX6_head_10 : decode cX6_head 10 = .ok (.if_icmp .ge 17, 3) := by decide +kernel
theorem dX6_head_13 : decode cX6_head 13 = .ok (.aload_n 0, 1) := by decide +kernel
theorem dX6_head_14 : decode cX6_head 14 = .ok (.getfield 13, 3) := by decide +kernel
theorem dX6_head_17 : decode cX6_head 17 = .ok (.iload_n 1, 1) := by decide +kernel
theorem dX6_head_18 : decode cX6_head 18 = .ok (.aaload, 1) := by decide +kernel
theorem dX6_head_19 : decode cX6_head 19 = .ok (.aload_n 0, 1) := by decide +kernel
theorem dX6_head_20 : decode cX6_head 20 = .ok (.getfield 20, 3) := by decide +kernel
theorem dX6_head_23 : decode cX6_head 23 = .ok (.iaload, 1) := by decide +kernel
theorem dX6_head_24 : decode cX6_head 24 = .ok (.goto 4, 3) := by decide +kernel
theorem dX6_head_27 : decode cX6_head 27 = .ok (.iconst (-1), 1) := by decide +kernel
theorem dX6_head_28 : decode cX6_head 28 = .ok (.ireturn, 1) := by decide +kernel
theorem dX6_puttings_0 : decode cX6_puttings 0 = .ok (.aload_n 0, 1) := by decide +kernel
theorem dX6_puttings_1 : decode cX6_puttings 1 = .ok (.iconst 0, 1) := by decide +kernel
theorem dX6_puttings_2 : decode cX6_puttings 2 = .ok (.invokevirtual 61, 3) := by decide +kernel
theorem dX6_puttings_5 : decode cX6_puttings 5 = .ok (.invokestatic 54, 3) := by decide +kernel
theorem dX6_puttings_8 : decode cX6_puttings 8 = .ok (.istore_n 1, 1) := by decide +kernel
theorem dX6_puttings_9 : decode cX6_puttings 9 = .ok (.aload_n 0, 1) := by decide +kernel
theorem dX6_puttings_10 : decode cX6_puttings 10 = .ok (.iconst 1, 1) := by decide +kernel
theorem dX6_puttings_11 : decode cX6_puttings 11 = .ok (.invokevirtual 61, 3) := by decide +kernel
theorem dX6_puttings_14 : decode cX6_puttings 14 = .ok (.invokestatic 54, 3) := by decide +kernel
theorem dX6_puttings_17 : decode cX6_puttings 17 = .ok (.istore_n 2, 1) := by decide +kernel
theorem dX6_puttings_18 : decode cX6_puttings 18 = .ok (.iload_n 1, 1) := by decide +kernel
theorem dX6_puttings_19 : decode cX6_puttings 19 = .ok (.ifCond .eq 9, 3) := by decide +kernel
theorem dX6_puttings_22 : decode cX6_puttings 22 = .ok (.iload_n 2, 1) := by decide +kernel
theorem dX6_puttings_23 : decode cX6_puttings 23 = .ok (.ifCond .eq 5, 3) := by decide +kernel
theorem dX6_puttings_26 : decode cX6_puttings 26 = .ok (.iconst 4, 1) := by decide +kernel
theorem dX6_puttings_27 : decode cX6_puttings 27 = .ok (.ireturn, 1) := by decide +kernel
theorem dX6_puttings_28 : decode cX6_puttings 28 = .ok (.iload_n 1, 1) := by decide +kernel
theorem dX6_puttings_29 : decode cX6_puttings 29 = .ok (.ifCond .ne 9, 3) := by decide +kernel
theorem dX6_puttings_32 : decode cX6_puttings 32 = .ok (.iload_n 2, 1) := by decide +kernel
theorem dX6_puttings_33 : decode cX6_puttings 33 = .ok (.ifCond .ne 5, 3) := by decide +kernel
theorem dX6_puttings_36 : decode cX6_puttings 36 = .ok (.iconst 0, 1) := by decide +kernel
theorem dX6_puttings_37 : decode cX6_puttings 37 = .ok (.ireturn, 1) := by decide +kernel
theorem dX6_puttings_38 : decode cX6_puttings 38 = .ok (.iload_n 1, 1) := by decide +kernel
theorem dX6_puttings_39 : decode cX6_puttings 39 = .ok (.ifCond .eq 11, 3) := by decide +kernel
theorem dX6_puttings_42 : decode cX6_puttings 42 = .ok (.aload_n 0, 1) := by decide +kernel
theorem dX6_puttings_43 : decode cX6_puttings 43 = .ok (.iconst 1, 1) := by decide +kernel
theorem dX6_puttings_44 : decode cX6_puttings 44 = .ok (.invokevirtual 61, 3) := by decide +kernel
theorem dX6_puttings_47 : decode cX6_puttings 47 = .ok (.goto 8, 3) := by decide +kernel
theorem dX6_puttings_50 : decode cX6_puttings 50 = .ok (.aload_n 0, 1) := by decide +kernel
theorem dX6_puttings_51 : decode cX6_puttings 51 = .ok (.iconst 0, 1) := by decide +kernel
theorem dX6_puttings_52 : decode cX6_puttings 52 = .ok (.invokevirtual 61, 3) := by decide +kernel
theorem dX6_puttings_55 : decode cX6_puttings 55 = .ok (.iconst (-1), 1) := by decide +kernel
theorem dX6_puttings_56 : decode cX6_puttings 56 = .ok (.if_icmp .ne 7, 3) := by decide +kernel
theorem dX6_puttings_59 : decode cX6_puttings 59 = .ok (.iconst 1, 1) := by decide +kernel
theorem dX6_puttings_60 : decode cX6_puttings 60 = .ok (.goto 4, 3) := by decide +kernel
theorem dX6_puttings_63 : decode cX6_puttings 63 = .ok (.iconst 2, 1) := by decide +kernel
theorem dX6_puttings_64 : decode cX6_puttings 64 = .ok (.ireturn, 1) := by decide +kernel
theorem dX6_unknownPut_0 : decode cX6_unknownPut 0 = .ok (.aload_n 0, 1) := by decide +kernel
theorem dX6_unknownPut_1 : decode cX6_unknownPut 1 = .ok (.iconst 0, 1) := by decide +kernel
theorem dX6_unknownPut_2 : decode cX6_unknownPut 2 = .ok (.invokevirtual 61, 3) := by decide +kernel
theorem dX6_unknownPut_5 : decode cX6_unknownPut 5 = .ok (.invokestatic 54, 3) := by decide +kernel
theorem dX6_unknownPut_8 : decode cX6_unknownPut 8 = .ok (.istore_n 2, 1) := by decide +kernel
theorem dX6_unknownPut_9 : decode cX6_unknownPut 9 = .ok (.aload_n 0, 1) := by decide +kernel
theorem dX6_unknownPut_10 : decode cX6_unknownPut 10 = .ok (.iconst 1, 1) := by decide +kernel
theorem dX6_unknownPut_11 : decode cX6_unknownPut 11 = .ok (.invokevirtual 61, 3) := by decide +kernel
theorem dX6_unknownPut_14 : decode cX6_unknownPut 14 = .ok (.invokestatic 54, 3) := by decide +kernel
theorem dX6_unknownPut_17 : decode cX6_unknownPut 17 = .ok (.istore_n 3, 1) := by decide +kernel
theorem dX6_unknownPut_18 : decode cX6_unknownPut 18 = .ok (.iload_n 2, 1) := by decide +kernel
theorem dX6_unknownPut_19 : decode cX6_unknownPut 19 = .ok (.ifCond .eq 30, 3) := by decide +kernel
theorem dX6_unknownPut_22 : decode cX6_unknownPut 22 = .ok (.iload_n 3, 1) := by decide +kernel
theorem dX6_unknownPut_23 : decode cX6_unknownPut 23 = .ok (.ifCond .eq 26, 3) := by decide +kernel
theorem dX6_unknownPut_26 : decode cX6_unknownPut 26 = .ok (.iload_n 1, 1) := by decide +kernel
theorem dX6_unknownPut_27 : decode cX6_unknownPut 27 = .ok (.ifCond .eq 8, 3) := by decide +kernel
theorem dX6_unknownPut_30 : decode cX6_unknownPut 30 = .ok (.iload_n 1, 1) := by decide +kernel
theorem dX6_unknownPut_31 : decode cX6_unknownPut 31 = .ok (.iconst 2, 1) := by decide +kernel
theorem dX6_unknownPut_32 : decode cX6_unknownPut 32 = .ok (.if_icmp .ne 11, 3) := by decide +kernel
theorem dX6_unknownPut_35 : decode cX6_unknownPut 35 = .ok (.aload_n 0, 1) := by decide +kernel
theorem dX6_unknownPut_36 : decode cX6_unknownPut 36 = .ok (.iconst 0, 1) := by decide +kernel
theorem dX6_unknownPut_37 : decode cX6_unknownPut 37 = .ok (.invokevirtual 61, 3) := by decide +kernel
theorem dX6_unknownPut_40 : decode cX6_unknownPut 40 = .ok (.goto 8, 3) := by decide +kernel
theorem dX6_unknownPut_43 : decode cX6_unknownPut 43 = .ok (.aload_n 0, 1) := by decide +kernel
theorem dX6_unknownPut_44 : decode cX6_unknownPut 44 = .ok (.iconst 1, 1) := by decide +kernel
theorem dX6_unknownPut_45 : decode cX6_unknownPut 45 = .ok (.invokevirtual 61, 3) := by decide +kernel
theorem dX6_unknownPut_48 : decode cX6_unknownPut 48 = .ok (.ireturn, 1) := by decide +kernel
theorem dX6_unknownPut_49 : decode cX6_unknownPut 49 = .ok (.iload_n 2, 1) := by decide +kernel
theorem dX6_unknownPut_50 : decode cX6_unknownPut 50 = .ok (.ifCond .eq 11, 3) := by decide +kernel
theorem dX6_unknownPut_53 : decode cX6_unknownPut 53 = .ok (.aload_n 0, 1) := by decide +kernel
theorem dX6_unknownPut_54 : decode cX6_unknownPut 54 = .ok (.iconst 0, 1) := by decide +kernel
theorem dX6_unknownPut_55 : decode cX6_unknownPut 55 = .ok (.invokevirtual 61, 3) := by decide +kernel
theorem dX6_unknownPut_58 : decode cX6_unknownPut 58 = .ok (.goto 8, 3) := by decide +kernel
theorem dX6_unknownPut_61 : decode cX6_unknownPut 61 = .ok (.aload_n 0, 1) := by decide +kernel
theorem dX6_unknownPut_62 : decode cX6_unknownPut 62 = .ok (.iconst 1, 1) := by decide +kernel
theorem dX6_unknownPut_63 : decode cX6_unknownPut 63 = .ok (.invokevirtual 61, 3) := by decide +kernel
theorem dX6_unknownPut_66 : decode cX6_unknownPut 66 = .ok (.ireturn, 1) := by decide +kernel
theorem dX6_itemPut_0 : decode cX6_itemPut 0 = .ok (.aload_n 0, 1) := by decide +kernel
theorem dX6_itemPut_1 : decode cX6_itemPut 1 = .ok (.invokevirtual 64, 3) := by decide +kernel
theorem dX6_itemPut_4 : decode cX6_itemPut 4 = .ok (.iconst 4, 1) := by decide +kernel
theorem dX6_itemPut_5 : decode cX6_itemPut 5 = .ok (.if_icmp .ne 31, 3) := by decide +kernel
theorem dX6_itemPut_8 : decode cX6_itemPut 8 = .ok (.iload_n 1, 1) := by decide +kernel
theorem dX6_itemPut_9 : decode cX6_itemPut 9 = .ok (.iconst 2, 1) := by decide +kernel
theorem dX6_itemPut_10 : decode cX6_itemPut 10 = .ok (.if_icmp .ge 7, 3) := by decide +kernel
theorem dX6_itemPut_13 : decode cX6_itemPut 13 = .ok (.iconst (-1), 1) := by decide +kernel
theorem dX6_itemPut_14 : decode cX6_itemPut 14 = .ok (.goto 21, 3) := by decide +kernel
theorem dX6_itemPut_17 : decode cX6_itemPut 17 = .ok (.iload_n 1, 1) := by decide +kernel
theorem dX6_itemPut_18 : decode cX6_itemPut 18 = .ok (.iconst 2, 1) := by decide +kernel
theorem dX6_itemPut_19 : decode cX6_itemPut 19 = .ok (.if_icmp .ne 11, 3) := by decide +kernel
theorem dX6_itemPut_22 : decode cX6_itemPut 22 = .ok (.aload_n 0, 1) := by decide +kernel
theorem dX6_itemPut_23 : decode cX6_itemPut 23 = .ok (.iconst 1, 1) := by decide +kernel
theorem dX6_itemPut_24 : decode cX6_itemPut 24 = .ok (.invokevirtual 61, 3) := by decide +kernel
theorem dX6_itemPut_27 : decode cX6_itemPut 27 = .ok (.goto 8, 3) := by decide +kernel
theorem dX6_itemPut_30 : decode cX6_itemPut 30 = .ok (.aload_n 0, 1) := by decide +kernel
theorem dX6_itemPut_31 : decode cX6_itemPut 31 = .ok (.iconst 0, 1) := by decide +kernel
theorem dX6_itemPut_32 : decode cX6_itemPut 32 = .ok (.invokevirtual 61, 3) := by decide +kernel
theorem dX6_itemPut_35 : decode cX6_itemPut 35 = .ok (.ireturn, 1) := by decide +kernel
theorem dX6_itemPut_36 : decode cX6_itemPut 36 = .ok (.iload_n 1, 1) := by decide +kernel
theorem dX6_itemPut_37 : decode cX6_itemPut 37 = .ok (.ifCond .ne 5, 3) := by decide +kernel
theorem dX6_itemPut_40 : decode cX6_itemPut 40 = .ok (.iconst (-1), 1) := by decide +kernel
theorem dX6_itemPut_41 : decode cX6_itemPut 41 = .ok (.ireturn, 1) := by decide +kernel
theorem dX6_itemPut_42 : decode cX6_itemPut 42 = .ok (.aload_n 0, 1) := by decide +kernel
theorem dX6_itemPut_43 : decode cX6_itemPut 43 = .ok (.iconst 0, 1) := by decide +kernel
theorem dX6_itemPut_44 : decode cX6_itemPut 44 = .ok (.invokevirtual 61, 3) := by decide +kernel
theorem dX6_itemPut_47 : decode cX6_itemPut 47 = .ok (.invokestatic 54, 3) := by decide +kernel
theorem dX6_itemPut_50 : decode cX6_itemPut 50 = .ok (.ifCond .eq 11, 3) := by decide +kernel
theorem dX6_itemPut_53 : decode cX6_itemPut 53 = .ok (.aload_n 0, 1) := by decide +kernel
theorem dX6_itemPut_54 : decode cX6_itemPut 54 = .ok (.iconst 1, 1) := by decide +kernel
theorem dX6_itemPut_55 : decode cX6_itemPut 55 = .ok (.invokevirtual 61, 3) := by decide +kernel
theorem dX6_itemPut_58 : decode cX6_itemPut 58 = .ok (.goto 8, 3) := by decide +kernel
theorem dX6_itemPut_61 : decode cX6_itemPut 61 = .ok (.aload_n 0, 1) := by decide +kernel
theorem dX6_itemPut_62 : decode cX6_itemPut 62 = .ok (.iconst 0, 1) := by decide +kernel
theorem dX6_itemPut_63 : decode cX6_itemPut 63 = .ok (.invokevirtual 61, 3) := by decide +kernel
theorem dX6_itemPut_66 : decode cX6_itemPut 66 = .ok (.ireturn, 1) := by decide +kernel
theorem dX6_pack_0 : decode cX6_pack 0 = .ok (.aload_n 0, 1) := by decide +kernel
theorem dX6_pack_1 : decode cX6_pack 1 = .ok (.lconst 0, 1) := by decide +kernel
theorem dX6_pack_2 : decode cX6_pack 2 = .ok (.putfield 24, 3) := by decide +kernel
theorem dX6_pack_5 : decode cX6_pack 5 = .ok (.aload_n 0, 1) := by decide +kernel
theorem dX6_pack_6 : decode cX6_pack 6 = .ok (.aload_n 0, 1) := by decide +kernel
theorem dX6_pack_7 : decode cX6_pack 7 = .ok (.getfield 16, 3) := by decide +kernel
theorem dX6_pack_10 : decode cX6_pack 10 = .ok (.iconst 0, 1) := by decide +kernel
theorem dX6_pack_11 : decode cX6_pack 11 = .ok (.iaload, 1) := by decide +kernel
theorem dX6_pack_12 : decode cX6_pack 12 = .ok (.aload_n 0, 1) := by decide +kernel
theorem dX6_pack_13 : decode cX6_pack 13 = .ok (.getfield 20, 3) := by decide +kernel
theorem dX6_pack_16 : decode cX6_pack 16 = .ok (.isub, 1) := by decide +kernel
theorem dX6_pack_17 : decode cX6_pack 17 = .ok (.bipush 12, 2) := by decide +kernel
theorem dX6_pack_19 : decode cX6_pack 19 = .ok (.ishl, 1) := by decide +kernel
theorem dX6_pack_20 : decode cX6_pack 20 = .ok (.aload_n 0, 1) := by decide +kernel
theorem dX6_pack_21 : decode cX6_pack 21 = .ok (.getfield 16, 3) := by decide +kernel
theorem dX6_pack_24 : decode cX6_pack 24 = .ok (.iconst 1, 1) := by decide +kernel
theorem dX6_pack_25 : decode cX6_pack 25 = .ok (.iaload, 1) := by decide +kernel
theorem dX6_pack_26 : decode cX6_pack 26 = .ok (.aload_n 0, 1) := by decide +kernel
theorem dX6_pack_27 : decode cX6_pack 27 = .ok (.getfield 20, 3) := by decide +kernel
theorem dX6_pack_30 : decode cX6_pack 30 = .ok (.isub, 1) := by decide +kernel
theorem dX6_pack_31 : decode cX6_pack 31 = .ok (.bipush 17, 2) := by decide +kernel
theorem dX6_pack_33 : decode cX6_pack 33 = .ok (.ishl, 1) := by decide +kernel
theorem dX6_pack_34 : decode cX6_pack 34 = .ok (.ior, 1) := by decide +kernel
theorem dX6_pack_35 : decode cX6_pack 35 = .ok (.putfield 28, 3) := by decide +kernel
theorem dX6_pack_38 : decode cX6_pack 38 = .ok (.iconst 0, 1) := by decide +kernel
theorem dX6_pack_39 : decode cX6_pack 39 = .ok (.istore_n 1, 1) := by decide +kernel
theorem dX6_pack_40 : decode cX6_pack 40 = .ok (.iconst 0, 1) := by decide +kernel
theorem dX6_pack_41 : decode cX6_pack 41 = .ok (.istore_n 2, 1) := by decide +kernel
theorem dX6_pack_42 : decode cX6_pack 42 = .ok (.iload_n 2, 1) := by decide +kernel
theorem dX6_pack_43 : decode cX6_pack 43 = .ok (.iconst 2, 1) := by decide +kernel
theorem dX6_pack_44 : decode cX6_pack 44 = .ok (.if_icmp .ge 88, 3) := by decide +kernel
theorem dX6_pack_47 : decode cX6_pack 47 = .ok (.aload_n 0, 1) := by decide +kernel
theorem dX6_pack_48 : decode cX6_pack 48 = .ok (.getfield 20, 3) := by decide +kernel
theorem dX6_pack_51 : decode cX6_pack 51 = .ok (.istore_n 3, 1) := by decide +kernel
theorem dX6_pack_52 : decode cX6_pack 52 = .ok (.iload_n 3, 1) := by decide +kernel
theorem dX6_pack_53 : decode cX6_pack 53 = .ok (.aload_n 0, 1) := by decide +kernel
theorem dX6_pack_54 : decode cX6_pack 54 = .ok (.getfield 16, 3) := by decide +kernel
theorem dX6_pack_57 : decode cX6_pack 57 = .ok (.iload_n 2, 1) := by decide +kernel
theorem dX6_pack_58 : decode cX6_pack 58 = .ok (.iaload, 1) := by decide +kernel
theorem dX6_pack_59 : decode cX6_pack 59 = .ok (.if_icmp .ge 67, 3) := by decide +kernel
theorem dX6_pack_62 : decode cX6_pack 62 = .ok (.iload_n 1, 1) := by decide +kernel
theorem dX6_pack_63 : decode cX6_pack 63 = .ok (.bipush 20, 2) := by decide +kernel
theorem dX6_pack_65 : decode cX6_pack 65 = .ok (.if_icmp .ge 28, 3) := by decide +kernel
theorem dX6_pack_68 : decode cX6_pack 68 = .ok (.aload_n 0, 1) := by decide +kernel
theorem dX6_pack_69 : decode cX6_pack 69 = .ok (.dup, 1) := by decide +kernel
theorem dX6_pack_70 : decode cX6_pack 70 = .ok (.getfield 24, 3) := by decide +kernel
theorem dX6_pack_73 : decode cX6_pack 73 = .ok (.aload_n 0, 1) := by decide +kernel
theorem dX6_pack_74 : decode cX6_pack 74 = .ok (.getfield 13, 3) := by decide +kernel
theorem dX6_pack_77 : decode cX6_pack 77 = .ok (.iload_n 2, 1) := by decide +kernel
theorem dX6_pack_78 : decode cX6_pack 78 = .ok (.aaload, 1) := by decide +kernel
theorem dX6_pack_79 : decode cX6_pack 79 = .ok (.iload_n 3, 1) := by decide +kernel
theorem dX6_pack_80 : decode cX6_pack 80 = .ok (.iaload, 1) := by decide +kernel
theorem dX6_pack_81 : decode cX6_pack 81 = .ok (.i2l, 1) := by decide +kernel
theorem dX6_pack_82 : decode cX6_pack 82 = .ok (.iconst 3, 1) := by decide +kernel
theorem dX6_pack_83 : decode cX6_pack 83 = .ok (.iload_n 1, 1) := by decide +kernel
theorem dX6_pack_84 : decode cX6_pack 84 = .ok (.imul, 1) := by decide +kernel
theorem dX6_pack_85 : decode cX6_pack 85 = .ok (.lshl, 1) := by decide +kernel
theorem dX6_pack_86 : decode cX6_pack 86 = .ok (.lor, 1) := by decide +kernel
theorem dX6_pack_87 : decode cX6_pack 87 = .ok (.putfield 24, 3) := by decide +kernel
theorem dX6_pack_90 : decode cX6_pack 90 = .ok (.goto 27, 3) := by decide +kernel
theorem dX6_pack_93 : decode cX6_pack 93 = .ok (.aload_n 0, 1) := by decide +kernel
theorem dX6_pack_94 : decode cX6_pack 94 = .ok (.dup, 1) := by decide +kernel
theorem dX6_pack_95 : decode cX6_pack 95 = .ok (.getfield 28, 3) := by decide +kernel
theorem dX6_pack_98 : decode cX6_pack 98 = .ok (.aload_n 0, 1) := by decide +kernel
theorem dX6_pack_99 : decode cX6_pack 99 = .ok (.getfield 13, 3) := by decide +kernel
theorem dX6_pack_102 : decode cX6_pack 102 = .ok (.iload_n 2, 1) := by decide +kernel
theorem dX6_pack_103 : decode cX6_pack 103 = .ok (.aaload, 1) := by decide +kernel
theorem dX6_pack_104 : decode cX6_pack 104 = .ok (.iload_n 3, 1) := by decide +kernel
theorem dX6_pack_105 : decode cX6_pack 105 = .ok (.iaload, 1) := by decide +kernel
theorem dX6_pack_106 : decode cX6_pack 106 = .ok (.iconst 3, 1) := by decide +kernel
theorem dX6_pack_107 : decode cX6_pack 107 = .ok (.iload_n 1, 1) := by decide +kernel
theorem dX6_pack_108 : decode cX6_pack 108 = .ok (.bipush 20, 2) := by decide +kernel
theorem dX6_pack_110 : decode cX6_pack 110 = .ok (.isub, 1) := by decide +kernel
theorem dX6_pack_111 : decode cX6_pack 111 = .ok (.imul, 1) := by decide +kernel
theorem dX6_pack_112 : decode cX6_pack 112 = .ok (.ishl, 1) := by decide +kernel
theorem dX6_pack_113 : decode cX6_pack 113 = .ok (.ior, 1) := by decide +kernel
theorem dX6_pack_114 : decode cX6_pack 114 = .ok (.putfield 28, 3) := by decide +kernel
theorem dX6_pack_117 : decode cX6_pack 117 = .ok (.iinc 1 1, 3) := by decide +kernel
theorem dX6_pack_120 : decode cX6_pack 120 = .ok (.iinc 3 1, 3) := by decide +kernel
theorem dX6_pack_123 : decode cX6_pack 123 = .ok (.goto (-71), 3) := by decide +kernel
theorem dX6_pack_126 : decode cX6_pack 126 = .ok (.iinc 2 1, 3) := by decide +kernel
theorem dX6_pack_129 : decode cX6_pack 129 = .ok (.goto (-87), 3) := by decide +kernel
theorem dX6_pack_132 : decode cX6_pack 132 = .ok (.return_, 1) := by decide +kernel
theorem dX6_unpack_0 : decode cX6_unpack 0 = .ok (.aload_n 0, 1) := by decide +kernel
theorem dX6_unpack_1 : decode cX6_unpack 1 = .ok (.invokevirtual 31, 3) := by decide +kernel
theorem dX6_unpack_4 : decode cX6_unpack 4 = .ok (.iload_n 3, 1) := by decide +kernel
theorem dX6_unpack_5 : decode cX6_unpack 5 = .ok (.bipush 12, 2) := by decide +kernel
theorem dX6_unpack_7 : decode cX6_unpack 7 = .ok (.ishr, 1) := by decide +kernel
theorem dX6_unpack_8 : decode cX6_unpack 8 = .ok (.bipush 31, 2) := by decide +kernel
theorem dX6_unpack_10 : decode cX6_unpack 10 = .ok (.iand, 1) := by decide +kernel
theorem dX6_unpack_11 : decode cX6_unpack 11 = .ok (.istore 4, 2) := by decide +kernel
theorem dX6_unpack_13 : decode cX6_unpack 13 = .ok (.iload 4, 2) := by decide +kernel
theorem dX6_unpack_15 : decode cX6_unpack 15 = .ok (.iload_n 3, 1) := by decide +kernel
theorem dX6_unpack_16 : decode cX6_unpack 16 = .ok (.bipush 17, 2) := by decide +kernel
theorem dX6_unpack_18 : decode cX6_unpack 18 = .ok (.ishr, 1) := by decide +kernel
theorem dX6_unpack_19 : decode cX6_unpack 19 = .ok (.bipush 31, 2) := by decide +kernel
theorem dX6_unpack_21 : decode cX6_unpack 21 = .ok (.iand, 1) := by decide +kernel
theorem dX6_unpack_22 : decode cX6_unpack 22 = .ok (.iadd, 1) := by decide +kernel
theorem dX6_unpack_23 : decode cX6_unpack 23 = .ok (.istore 5, 2) := by decide +kernel
theorem dX6_unpack_25 : decode cX6_unpack 25 = .ok (.iconst 0, 1) := by decide +kernel
theorem dX6_unpack_26 : decode cX6_unpack 26 = .ok (.istore 6, 2) := by decide +kernel
theorem dX6_unpack_28 : decode cX6_unpack 28 = .ok (.iload 6, 2) := by decide +kernel
theorem dX6_unpack_30 : decode cX6_unpack 30 = .ok (.iload 5, 2) := by decide +kernel
theorem dX6_unpack_32 : decode cX6_unpack 32 = .ok (.if_icmp .ge 62, 3) := by decide +kernel
theorem dX6_unpack_35 : decode cX6_unpack 35 = .ok (.iload 6, 2) := by decide +kernel
theorem dX6_unpack_37 : decode cX6_unpack 37 = .ok (.bipush 20, 2) := by decide +kernel
theorem dX6_unpack_39 : decode cX6_unpack 39 = .ok (.if_icmp .ge 17, 3) := by decide +kernel
theorem dX6_unpack_42 : decode cX6_unpack 42 = .ok (.lload_n 1, 1) := by decide +kernel
theorem dX6_unpack_43 : decode cX6_unpack 43 = .ok (.iconst 3, 1) := by decide +kernel
theorem dX6_unpack_44 : decode cX6_unpack 44 = .ok (.iload 6, 2) := by decide +kernel
theorem dX6_unpack_46 : decode cX6_unpack 46 = .ok (.imul, 1) := by decide +kernel
theorem dX6_unpack_47 : decode cX6_unpack 47 = .ok (.lshr, 1) := by decide +kernel
theorem dX6_unpack_48 : decode cX6_unpack 48 = .ok (.ldc2_w 67, 3) := by decide +kernel
theorem dX6_unpack_51 : decode cX6_unpack 51 = .ok (.land, 1) := by decide +kernel
theorem dX6_unpack_52 : decode cX6_unpack 52 = .ok (.l2i, 1) := by decide +kernel
theorem dX6_unpack_53 : decode cX6_unpack 53 = .ok (.goto 15, 3) := by decide +kernel
theorem dX6_unpack_56 : decode cX6_unpack 56 = .ok (.iload_n 3, 1) := by decide +kernel
theorem dX6_unpack_57 : decode cX6_unpack 57 = .ok (.iconst 3, 1) := by decide +kernel
theorem dX6_unpack_58 : decode cX6_unpack 58 = .ok (.iload 6, 2) := by decide +kernel
theorem dX6_unpack_60 : decode cX6_unpack 60 = .ok (.bipush 20, 2) := by decide +kernel
theorem dX6_unpack_62 : decode cX6_unpack 62 = .ok (.isub, 1) := by decide +kernel
theorem dX6_unpack_63 : decode cX6_unpack 63 = .ok (.imul, 1) := by decide +kernel
theorem dX6_unpack_64 : decode cX6_unpack 64 = .ok (.ishr, 1) := by decide +kernel
theorem dX6_unpack_65 : decode cX6_unpack 65 = .ok (.bipush 7, 2) := by decide +kernel
theorem dX6_unpack_67 : decode cX6_unpack 67 = .ok (.iand, 1) := by decide +kernel
theorem dX6_unpack_68 : decode cX6_unpack 68 = .ok (.istore 7, 2) := by decide +kernel
theorem dX6_unpack_70 : decode cX6_unpack 70 = .ok (.aload_n 0, 1) := by decide +kernel
theorem dX6_unpack_71 : decode cX6_unpack 71 = .ok (.iload 6, 2) := by decide +kernel
theorem dX6_unpack_73 : decode cX6_unpack 73 = .ok (.iload 4, 2) := by decide +kernel
theorem dX6_unpack_75 : decode cX6_unpack 75 = .ok (.if_icmp .ge 7, 3) := by decide +kernel
theorem dX6_unpack_78 : decode cX6_unpack 78 = .ok (.iconst 0, 1) := by decide +kernel
theorem dX6_unpack_79 : decode cX6_unpack 79 = .ok (.goto 4, 3) := by decide +kernel
theorem dX6_unpack_82 : decode cX6_unpack 82 = .ok (.iconst 1, 1) := by decide +kernel
theorem dX6_unpack_83 : decode cX6_unpack 83 = .ok (.iload 7, 2) := by decide +kernel
theorem dX6_unpack_85 : decode cX6_unpack 85 = .ok (.invokevirtual 44, 3) := by decide +kernel
theorem dX6_unpack_88 : decode cX6_unpack 88 = .ok (.iinc 6 1, 3) := by decide +kernel
theorem dX6_unpack_91 : decode cX6_unpack 91 = .ok (.goto (-63), 3) := by decide +kernel
theorem dX6_unpack_94 : decode cX6_unpack 94 = .ok (.return_, 1) := by decide +kernel
theorem dX7_init_0 : decode cX7_init 0 = .ok (.aload_n 0, 1) := by decide +kernel
theorem dX7_init_1 : decode cX7_init 1 = .ok (.invokespecial 3, 3) := by decide +kernel
theorem dX7_init_4 : decode cX7_init 4 = .ok (.aload_n 0, 1) := by decide +kernel
theorem dX7_init_5 : decode cX7_init 5 = .ok (.bipush 6, 2) := by decide +kernel
theorem dX7_init_7 : decode cX7_init 7 = .ok (.bipush 8, 2) := by decide +kernel
theorem dX7_init_9 : decode cX7_init 9 = .ok (.multianewarray 11 2, 4) := by decide +kernel
theorem dX7_init_13 : decode cX7_init 13 = .ok (.putfield 13, 3) := by decide +kernel
theorem dX7_init_16 : decode cX7_init 16 = .ok (.aload_n 0, 1) := by decide +kernel
theorem dX7_init_17 : decode cX7_init 17 = .ok (.bipush 6, 2) := by decide +kernel
theorem dX7_init_19 : decode cX7_init 19 = .ok (.newarray .int, 2) := by decide +kernel
theorem dX7_init_21 : decode cX7_init 21 = .ok (.putfield 16, 3) := by decide +kernel
theorem dX7_init_24 : decode cX7_init 24 = .ok (.aload_n 0, 1) := by decide +kernel
theorem dX7_init_25 : decode cX7_init 25 = .ok (.bipush 8, 2) := by decide +kernel
theorem dX7_init_27 : decode cX7_init 27 = .ok (.newarray .int, 2) := by decide +kernel
theorem dX7_init_29 : decode cX7_init 29 = .ok (.putfield 20, 3) := by decide +kernel
theorem dX7_init_32 : decode cX7_init 32 = .ok (.aload_n 0, 1) := by decide +kernel
theorem dX7_init_33 : decode cX7_init 33 = .ok (.bipush 8, 2) := by decide +kernel
theorem dX7_init_35 : decode cX7_init 35 = .ok (.newarray .int, 2) := by decide +kernel
theorem dX7_init_37 : decode cX7_init 37 = .ok (.putfield 23, 3) := by decide +kernel
theorem dX7_init_40 : decode cX7_init 40 = .ok (.aload_n 0, 1) := by decide +kernel
theorem dX7_init_41 : decode cX7_init 41 = .ok (.iconst 0, 1) := by decide +kernel
theorem dX7_init_42 : decode cX7_init 42 = .ok (.putfield 26, 3) := by decide +kernel
theorem dX7_init_45 : decode cX7_init 45 = .ok (.aload_n 0, 1) := by decide +kernel
theorem dX7_init_46 : decode cX7_init 46 = .ok (.iconst 0, 1) := by decide +kernel
theorem dX7_init_47 : decode cX7_init 47 = .ok (.putfield 30, 3) := by decide +kernel
theorem dX7_init_50 : decode cX7_init 50 = .ok (.aload_n 0, 1) := by decide +kernel
theorem dX7_init_51 : decode cX7_init 51 = .ok (.iconst 0, 1) := by decide +kernel
theorem dX7_init_52 : decode cX7_init 52 = .ok (.putfield 33, 3) := by decide +kernel
theorem dX7_init_55 : decode cX7_init 55 = .ok (.return_, 1) := by decide +kernel
theorem dX7_length_0 : decode cX7_length 0 = .ok (.aload_n 0, 1) := by decide +kernel
theorem dX7_length_1 : decode cX7_length 1 = .ok (.getfield 26, 3) := by decide +kernel
theorem dX7_length_4 : decode cX7_length 4 = .ok (.ireturn, 1) := by decide +kernel
theorem dX7_isFull_0 : decode cX7_isFull 0 = .ok (.aload_n 0, 1) := by decide +kernel
theorem dX7_isFull_1 : decode cX7_isFull 1 = .ok (.getfield 26, 3) := by decide +kernel
theorem dX7_isFull_4 : decode cX7_isFull 4 = .ok (.bipush 6, 2) := by decide +kernel
theorem dX7_isFull_6 : decode cX7_isFull 6 = .ok (.if_icmp .lt 7, 3) := by decide +kernel
theorem dX7_isFull_9 : decode cX7_isFull 9 = .ok (.iconst 1, 1) := by decide +kernel
theorem dX7_isFull_10 : decode cX7_isFull 10 = .ok (.goto 4, 3) := by decide +kernel
theorem dX7_isFull_13 : decode cX7_isFull 13 = .ok (.iconst 0, 1) := by decide +kernel
theorem dX7_isFull_14 : decode cX7_isFull 14 = .ok (.ireturn, 1) := by decide +kernel
theorem dX7_empty_0 : decode cX7_empty 0 = .ok (.aload_n 0, 1) := by decide +kernel
theorem dX7_empty_1 : decode cX7_empty 1 = .ok (.iconst 0, 1) := by decide +kernel
theorem dX7_empty_2 : decode cX7_empty 2 = .ok (.putfield 26, 3) := by decide +kernel
theorem dX7_empty_5 : decode cX7_empty 5 = .ok (.aload_n 0, 1) := by decide +kernel
theorem dX7_empty_6 : decode cX7_empty 6 = .ok (.iconst 0, 1) := by decide +kernel
theorem dX7_empty_7 : decode cX7_empty 7 = .ok (.putfield 33, 3) := by decide +kernel
theorem dX7_empty_10 : decode cX7_empty 10 = .ok (.return_, 1) := by decide +kernel
theorem dX7_add_0 : decode cX7_add 0 = .ok (.aload_n 0, 1) := by decide +kernel
theorem dX7_add_1 : decode cX7_add 1 = .ok (.getfield 26, 3) := by decide +kernel
theorem dX7_add_4 : decode cX7_add 4 = .ok (.bipush 6, 2) := by decide +kernel
theorem dX7_add_6 : decode cX7_add 6 = .ok (.if_icmp .lt 4, 3) := by decide +kernel
theorem dX7_add_9 : decode cX7_add 9 = .ok (.return_, 1) := by decide +kernel
theorem dX7_add_10 : decode cX7_add 10 = .ok (.aload_n 0, 1) := by decide +kernel
theorem dX7_add_11 : decode cX7_add 11 = .ok (.getfield 16, 3) := by decide +kernel
theorem dX7_add_14 : decode cX7_add 14 = .ok (.aload_n 0, 1) := by decide +kernel
theorem dX7_add_15 : decode cX7_add 15 = .ok (.getfield 26, 3) := by decide +kernel
theorem dX7_add_18 : decode cX7_add 18 = .ok (.iconst 0, 1) := by decide +kernel
theorem dX7_add_19 : decode cX7_add 19 = .ok (.iload_n 2, 1) := by decide +kernel
theorem dX7_add_20 : decode cX7_add 20 = .ok (.bipush 8, 2) := by decide +kernel
theorem dX7_add_22 : decode cX7_add 22 = .ok (.invokestatic 37, 3) := by decide +kernel
theorem dX7_add_25 : decode cX7_add 25 = .ok (.invokestatic 43, 3) := by decide +kernel
theorem dX7_add_28 : decode cX7_add 28 = .ok (.iastore, 1) := by decide +kernel
theorem dX7_add_29 : decode cX7_add 29 = .ok (.iconst 0, 1) := by decide +kernel
theorem dX7_add_30 : decode cX7_add 30 = .ok (.istore_n 3, 1) := by decide +kernel
theorem dX7_add_31 : decode cX7_add 31 = .ok (.iload_n 3, 1) := by decide +kernel
theorem dX7_add_32 : decode cX7_add 32 = .ok (.aload_n 0, 1) := by decide +kernel
theorem dX7_add_33 : decode cX7_add 33 = .ok (.getfield 16, 3) := by decide +kernel
theorem dX7_add_36 : decode cX7_add 36 = .ok (.aload_n 0, 1) := by decide +kernel
theorem dX7_add_37 : decode cX7_add 37 = .ok (.getfield 26, 3) := by decide +kernel
theorem dX7_add_40 : decode cX7_add 40 = .ok (.iaload, 1) := by decide +kernel
theorem dX7_add_41 : decode cX7_add 41 = .ok (.if_icmp .ge 26, 3) := by decide +kernel
theorem dX7_add_44 : decode cX7_add 44 = .ok (.aload_n 0, 1) := by decide +kernel
theorem dX7_add_45 : decode cX7_add 45 = .ok (.getfield 13, 3) := by decide +kernel
theorem dX7_add_48 : decode cX7_add 48 = .ok (.aload_n 0, 1) := by decide +kernel
theorem dX7_add_49 : decode cX7_add 49 = .ok (.getfield 26, 3) := by decide +kernel
theorem dX7_add_52 : decode cX7_add 52 = .ok (.aaload, 1) := by decide +kernel
theorem dX7_add_53 : decode cX7_add 53 = .ok (.iload_n 3, 1) := by decide +kernel
theorem dX7_add_54 : decode cX7_add 54 = .ok (.iload_n 1, 1) := by decide +kernel
theorem dX7_add_55 : decode cX7_add 55 = .ok (.i2l, 1) := by decide +kernel
theorem dX7_add_56 : decode cX7_add 56 = .ok (.iload_n 3, 1) := by decide +kernel
theorem dX7_add_57 : decode cX7_add 57 = .ok (.invokestatic 46, 3) := by decide +kernel
theorem dX7_add_60 : decode cX7_add 60 = .ok (.iastore, 1) := by decide +kernel
theorem dX7_add_61 : decode cX7_add 61 = .ok (.iinc 3 1, 3) := by decide +kernel
theorem dX7_add_64 : decode cX7_add 64 = .ok (.goto (-33), 3) := by decide +kernel
theorem dX7_add_67 : decode cX7_add 67 = .ok (.aload_n 0, 1) := by decide +kernel
theorem dX7_add_68 : decode cX7_add 68 = .ok (.dup, 1) := by decide +kernel
theorem dX7_add_69 : decode cX7_add 69 = .ok (.getfield 26, 3) := by decide +kernel
theorem dX7_add_72 : decode cX7_add 72 = .ok (.iconst 1, 1) := by decide +kernel
theorem dX7_add_73 : decode cX7_add 73 = .ok (.iadd, 1) := by decide +kernel
theorem dX7_add_74 : decode cX7_add 74 = .ok (.putfield 26, 3) := by decide +kernel
theorem dX7_add_77 : decode cX7_add 77 = .ok (.aload_n 0, 1) := by decide +kernel
theorem dX7_add_78 : decode cX7_add 78 = .ok (.iconst 0, 1) := by decide +kernel
theorem dX7_add_79 : decode cX7_add 79 = .ok (.putfield 33, 3) := by decide +kernel
theorem dX7_add_82 : decode cX7_add 82 = .ok (.return_, 1) := by decide +kernel
theorem dX7_longestShared_0 : decode cX7_longestShared 0 = .ok (.aload_n 0, 1) := by decide +kernel
theorem dX7_longestShared_1 : decode cX7_longestShared 1 = .ok (.getfield 33, 3) := by decide +kernel
theorem dX7_longestShared_4 : decode cX7_longestShared 4 = .ok (.ifCond .ne 7, 3) := by decide +kernel
theorem dX7_longestShared_7 : decode cX7_longestShared 7 = .ok (.aload_n 0, 1) := by decide +kernel
theorem dX7_longestShared_8 : decode cX7_longestShared 8 = .ok (.invokevirtual 50, 3) := by decide +kernel
theorem dX7_longestShared_11 : decode cX7_longestShared 11 = .ok (.aload_n 0, 1) := by decide +kernel
theorem dX7_longestShared_12 : decode cX7_longestShared 12 = .ok (.iconst 1, 1) := by decide +kernel
theorem dX7_longestShared_13 : decode cX7_longestShared 13 = .ok (.putfield 33, 3) := by decide +kernel
theorem dX7_longestShared_16 : decode cX7_longestShared 16 = .ok (.iload_n 1, 1) := by decide +kernel
theorem dX7_longestShared_17 : decode cX7_longestShared 17 = .ok (.iconst (-1), 1) := by decide +kernel
theorem dX7_longestShared_18 : decode cX7_longestShared 18 = .ok (.if_icmp .ne 8, 3) := by decide +kernel
theorem dX7_longestShared_21 : decode cX7_longestShared 21 = .ok (.aload_n 0, 1) := by decide +kernel
theorem dX7_longestShared_22 : decode cX7_longestShared 22 = .ok (.getfield 30, 3) := by decide +kernel
theorem dX7_longestShared_25 : decode cX7_longestShared 25 = .ok (.ireturn, 1) := by decide +kernel
theorem dX7_longestShared_26 : decode cX7_longestShared 26 = .ok (.iload_n 1, 1) := by decide +kernel
theorem dX7_longestShared_27 : decode cX7_longestShared 27 = .ok (.ifCond .lt 20, 3) := by decide +kernel
theorem dX7_longestShared_30 : decode cX7_longestShared 30 = .ok (.iload_n 1, 1) := by decide +kernel
theorem dX7_longestShared_31 : decode cX7_longestShared 31 = .ok (.aload_n 0, 1) := by decide +kernel
theorem dX7_longestShared_32 : decode cX7_longestShared 32 = .ok (.getfield 30, 3) := by decide +kernel
theorem dX7_longestShared_35 : decode cX7_longestShared 35 = .ok (.if_icmp .ge 12, 3) := by decide +kernel
theorem dX7_longestShared_38 : decode cX7_longestShared 38 = .ok (.aload_n 0, 1) := by decide +kernel
theorem dX7_longestShared_39 : decode cX7_longestShared 39 = .ok (.getfield 23, 3) := by decide +kernel
theorem dX7_longestShared_42 : decode cX7_longestShared 42 = .ok (.iload_n 1, 1) := by decide +kernel
theorem dX7_longestShared_43 : decode cX7_longestShared 43 = .ok (.iaload, 1) := by decide +kernel
theorem dX7_longestShared_44 : decode cX7_longestShared 44 = .ok (.goto 4, 3) := by decide +kernel
theorem dX7_longestShared_47 : decode cX7_longestShared 47 = .ok (.iconst (-1), 1) := by decide +kernel
theorem dX7_longestShared_48 : decode cX7_longestShared 48 = .ok (.ireturn, 1) := by decide +kernel
theorem dX7_seek_0 : decode cX7_seek 0 = .ok (.bipush 8, 2) := by decide +kernel
theorem dX7_seek_2 : decode cX7_seek 2 = .ok (.istore_n 1, 1) := by decide +kernel
theorem dX7_seek_3 : decode cX7_seek 3 = .ok (.iconst 0, 1) := by decide +kernel
theorem dX7_seek_4 : decode cX7_seek 4 = .ok (.istore_n 2, 1) := by decide +kernel
theorem dX7_seek_5 : decode cX7_seek 5 = .ok (.iload_n 2, 1) := by decide +kernel
theorem dX7_seek_6 : decode cX7_seek 6 = .ok (.aload_n 0, 1) := by decide +kernel
theorem dX7_seek_7 : decode cX7_seek 7 = .ok (.getfield 26, 3) := by decide +kernel
theorem dX7_seek_10 : decode cX7_seek 10 = .ok (.if_icmp .ge 20, 3) := by decide +kernel
theorem dX7_seek_13 : decode cX7_seek 13 = .ok (.iload_n 1, 1) := by decide +kernel
theorem dX7_seek_14 : decode cX7_seek 14 = .ok (.aload_n 0, 1) := by decide +kernel
theorem dX7_seek_15 : decode cX7_seek 15 = .ok (.getfield 16, 3) := by decide +kernel
theorem dX7_seek_18 : decode cX7_seek 18 = .ok (.iload_n 2, 1) := by decide +kernel
theorem dX7_seek_19 : decode cX7_seek 19 = .ok (.iaload, 1) := by decide +kernel
theorem dX7_seek_20 : decode cX7_seek 20 = .ok (.invokestatic 37, 3) := by decide +kernel
theorem dX7_seek_23 : decode cX7_seek 23 = .ok (.istore_n 1, 1) := by decide +kernel
theorem dX7_seek_24 : decode cX7_seek 24 = .ok (.iinc 2 1, 3) := by decide +kernel
theorem dX7_seek_27 : decode cX7_seek 27 = .ok (.goto (-22), 3) := by decide +kernel
theorem dX7_seek_30 : decode cX7_seek 30 = .ok (.aload_n 0, 1) := by decide +kernel
theorem dX7_seek_31 : decode cX7_seek 31 = .ok (.iconst 0, 1) := by decide +kernel
theorem dX7_seek_32 : decode cX7_seek 32 = .ok (.putfield 30, 3) := by decide +kernel
theorem dX7_seek_35 : decode cX7_seek 35 = .ok (.iload_n 1, 1) := by decide +kernel
theorem dX7_seek_36 : decode cX7_seek 36 = .ok (.istore_n 2, 1) := by decide +kernel
theorem dX7_seek_37 : decode cX7_seek 37 = .ok (.iload_n 2, 1) := by decide +kernel
theorem dX7_seek_38 : decode cX7_seek 38 = .ok (.ifCond .le 59, 3) := by decide +kernel
theorem dX7_seek_41 : decode cX7_seek 41 = .ok (.aload_n 0, 1) := by decide +kernel
theorem dX7_seek_42 : decode cX7_seek 42 = .ok (.getfield 30, 3) := by decide +kernel
theorem dX7_seek_45 : decode cX7_seek 45 = .ok (.ifCond .ne 52, 3) := by decide +kernel
theorem dX7_seek_48 : decode cX7_seek 48 = .ok (.iconst 1, 1) := by decide +kernel
theorem dX7_seek_49 : decode cX7_seek 49 = .ok (.istore_n 3, 1) := by decide +kernel
theorem dX7_seek_50 : decode cX7_seek 50 = .ok (.iload_n 3, 1) := by decide +kernel
theorem dX7_seek_51 : decode cX7_seek 51 = .ok (.iconst 1, 1) := by decide +kernel
theorem dX7_seek_52 : decode cX7_seek 52 = .ok (.iload_n 2, 1) := by decide +kernel
theorem dX7_seek_53 : decode cX7_seek 53 = .ok (.ishl, 1) := by decide +kernel
theorem dX7_seek_54 : decode cX7_seek 54 = .ok (.if_icmp .ge 37, 3) := by decide +kernel
theorem dX7_seek_57 : decode cX7_seek 57 = .ok (.aload_n 0, 1) := by decide +kernel
theorem dX7_seek_58 : decode cX7_seek 58 = .ok (.iload_n 2, 1) := by decide +kernel
theorem dX7_seek_59 : decode cX7_seek 59 = .ok (.iload_n 3, 1) := by decide +kernel
theorem dX7_seek_60 : decode cX7_seek 60 = .ok (.invokevirtual 53, 3) := by decide +kernel
theorem dX7_seek_63 : decode cX7_seek 63 = .ok (.ifCond .eq 22, 3) := by decide +kernel
theorem dX7_seek_66 : decode cX7_seek 66 = .ok (.aload_n 0, 1) := by decide +kernel
theorem dX7_seek_67 : decode cX7_seek 67 = .ok (.getfield 30, 3) := by decide +kernel
theorem dX7_seek_70 : decode cX7_seek 70 = .ok (.ifCond .eq 10, 3) := by decide +kernel
theorem dX7_seek_73 : decode cX7_seek 73 = .ok (.aload_n 0, 1) := by decide +kernel
theorem dX7_seek_74 : decode cX7_seek 74 = .ok (.invokevirtual 57, 3) := by decide +kernel
theorem dX7_seek_77 : decode cX7_seek 77 = .ok (.ifCond .eq 8, 3) := by decide +kernel
theorem dX7_seek_80 : decode cX7_seek 80 = .ok (.aload_n 0, 1) := by decide +kernel
theorem dX7_seek_81 : decode cX7_seek 81 = .ok (.iload_n 2, 1) := by decide +kernel
theorem dX7_seek_82 : decode cX7_seek 82 = .ok (.invokevirtual 61, 3) := by decide +kernel
theorem dX7_seek_85 : decode cX7_seek 85 = .ok (.iinc 3 1, 3) := by decide +kernel
theorem dX7_seek_88 : decode cX7_seek 88 = .ok (.goto (-38), 3) := by decide +kernel
theorem dX7_seek_91 : decode cX7_seek 91 = .ok (.iinc 2 (-1), 3) := by decide +kernel
theorem dX7_seek_94 : decode cX7_seek 94 = .ok (.goto (-57), 3) := by decide +kernel
theorem dX7_seek_97 : decode cX7_seek 97 = .ok (.return_, 1) := by decide +kernel
theorem dX7_makesAll_0 : decode cX7_makesAll 0 = .ok (.iconst 0, 1) := by decide +kernel
theorem dX7_makesAll_1 : decode cX7_makesAll 1 = .ok (.istore_n 3, 1) := by decide +kernel
theorem dX7_makesAll_2 : decode cX7_makesAll 2 = .ok (.iload_n 3, 1) := by decide +kernel
theorem dX7_makesAll_3 : decode cX7_makesAll 3 = .ok (.aload_n 0, 1) := by decide +kernel
theorem dX7_makesAll_4 : decode cX7_makesAll 4 = .ok (.getfield 26, 3) := by decide +kernel
theorem dX7_makesAll_7 : decode cX7_makesAll 7 = .ok (.if_icmp .ge 54, 3) := by decide +kernel
theorem dX7_makesAll_10 : decode cX7_makesAll 10 = .ok (.aload_n 0, 1) := by decide +kernel
theorem dX7_makesAll_11 : decode cX7_makesAll 11 = .ok (.iload_n 3, 1) := by decide +kernel
theorem dX7_makesAll_12 : decode cX7_makesAll 12 = .ok (.iload_n 1, 1) := by decide +kernel
theorem dX7_makesAll_13 : decode cX7_makesAll 13 = .ok (.iload_n 2, 1) := by decide +kernel
theorem dX7_makesAll_14 : decode cX7_makesAll 14 = .ok (.invokestatic 65, 3) := by decide +kernel
theorem dX7_makesAll_17 : decode cX7_makesAll 17 = .ok (.invokevirtual 71, 3) := by decide +kernel
theorem dX7_makesAll_20 : decode cX7_makesAll 20 = .ok (.istore 4, 2) := by decide +kernel
theorem dX7_makesAll_22 : decode cX7_makesAll 22 = .ok (.iload 4, 2) := by decide +kernel
theorem dX7_makesAll_24 : decode cX7_makesAll 24 = .ok (.iconst (-1), 1) := by decide +kernel
theorem dX7_makesAll_25 : decode cX7_makesAll 25 = .ok (.if_icmp .ne 5, 3) := by decide +kernel
theorem dX7_makesAll_28 : decode cX7_makesAll 28 = .ok (.iconst 0, 1) := by decide +kernel
theorem dX7_makesAll_29 : decode cX7_makesAll 29 = .ok (.ireturn, 1) := by decide +kernel
theorem dX7_makesAll_30 : decode cX7_makesAll 30 = .ok (.iload_n 3, 1) := by decide +kernel
theorem dX7_makesAll_31 : decode cX7_makesAll 31 = .ok (.ifCond .ne 11, 3) := by decide +kernel
theorem dX7_makesAll_34 : decode cX7_makesAll 34 = .ok (.aload_n 0, 1) := by decide +kernel
theorem dX7_makesAll_35 : decode cX7_makesAll 35 = .ok (.iload_n 1, 1) := by decide +kernel
theorem dX7_makesAll_36 : decode cX7_makesAll 36 = .ok (.iload_n 2, 1) := by decide +kernel
theorem dX7_makesAll_37 : decode cX7_makesAll 37 = .ok (.iload 4, 2) := by decide +kernel
theorem dX7_makesAll_39 : decode cX7_makesAll 39 = .ok (.invokevirtual 75, 3) := by decide +kernel
theorem dX7_makesAll_42 : decode cX7_makesAll 42 = .ok (.aload_n 0, 1) := by decide +kernel
theorem dX7_makesAll_43 : decode cX7_makesAll 43 = .ok (.iload_n 3, 1) := by decide +kernel
theorem dX7_makesAll_44 : decode cX7_makesAll 44 = .ok (.iload_n 1, 1) := by decide +kernel
theorem dX7_makesAll_45 : decode cX7_makesAll 45 = .ok (.iload 4, 2) := by decide +kernel
theorem dX7_makesAll_47 : decode cX7_makesAll 47 = .ok (.invokevirtual 79, 3) := by decide +kernel
theorem dX7_makesAll_50 : decode cX7_makesAll 50 = .ok (.ifCond .ne 5, 3) := by decide +kernel
theorem dX7_makesAll_53 : decode cX7_makesAll 53 = .ok (.iconst 0, 1) := by decide +kernel
theorem dX7_makesAll_54 : decode cX7_makesAll 54 = .ok (.ireturn, 1) := by decide +kernel
theorem dX7_makesAll_55 : decode cX7_makesAll 55 = .ok (.iinc 3 1, 3) := by decide +kernel
theorem dX7_makesAll_58 : decode cX7_makesAll 58 = .ok (.goto (-56), 3) := by decide +kernel
theorem dX7_makesAll_61 : decode cX7_makesAll 61 = .ok (.iconst 1, 1) := by decide +kernel
theorem dX7_makesAll_62 : decode cX7_makesAll 62 = .ok (.ireturn, 1) := by decide +kernel
theorem dX7_lengthOfX_0 : decode cX7_lengthOfX 0 = .ok (.aload_n 0, 1) := by decide +kernel
theorem dX7_lengthOfX_1 : decode cX7_lengthOfX 1 = .ok (.getfield 16, 3) := by decide +kernel
theorem dX7_lengthOfX_4 : decode cX7_lengthOfX 4 = .ok (.iload_n 1, 1) := by decide +kernel
theorem dX7_lengthOfX_5 : decode cX7_lengthOfX 5 = .ok (.iaload, 1) := by decide +kernel
theorem dX7_lengthOfX_6 : decode cX7_lengthOfX 6 = .ok (.iload_n 2, 1) := by decide +kernel
theorem dX7_lengthOfX_7 : decode cX7_lengthOfX 7 = .ok (.iload_n 3, 1) := by decide +kernel
theorem dX7_lengthOfX_8 : decode cX7_lengthOfX 8 = .ok (.isub, 1) := by decide +kernel
theorem dX7_lengthOfX_9 : decode cX7_lengthOfX 9 = .ok (.isub, 1) := by decide +kernel
theorem dX7_lengthOfX_10 : decode cX7_lengthOfX 10 = .ok (.istore 4, 2) := by decide +kernel
theorem dX7_lengthOfX_12 : decode cX7_lengthOfX 12 = .ok (.iload_n 3, 1) := by decide +kernel
theorem dX7_lengthOfX_13 : decode cX7_lengthOfX 13 = .ok (.ifCond .le 23, 3) := by decide +kernel
theorem dX7_lengthOfX_16 : decode cX7_lengthOfX 16 = .ok (.iload 4, 2) := by decide +kernel
theorem dX7_lengthOfX_18 : decode cX7_lengthOfX 18 = .ok (.iload_n 3, 1) := by decide +kernel
theorem dX7_lengthOfX_19 : decode cX7_lengthOfX 19 = .ok (.if_icmp .lt 17, 3) := by decide +kernel
theorem dX7_lengthOfX_22 : decode cX7_lengthOfX 22 = .ok (.iload 4, 2) := by decide +kernel
theorem dX7_lengthOfX_24 : decode cX7_lengthOfX 24 = .ok (.iload_n 3, 1) := by decide +kernel
theorem dX7_lengthOfX_25 : decode cX7_lengthOfX 25 = .ok (.irem, 1) := by decide +kernel
theorem dX7_lengthOfX_26 : decode cX7_lengthOfX 26 = .ok (.ifCond .ne 10, 3) := by decide +kernel
theorem dX7_lengthOfX_29 : decode cX7_lengthOfX 29 = .ok (.iload 4, 2) := by decide +kernel
theorem dX7_lengthOfX_31 : decode cX7_lengthOfX 31 = .ok (.iload_n 3, 1) := by decide +kernel
theorem dX7_lengthOfX_32 : decode cX7_lengthOfX 32 = .ok (.idiv, 1) := by decide +kernel
theorem dX7_lengthOfX_33 : decode cX7_lengthOfX 33 = .ok (.goto 4, 3) := by decide +kernel
theorem dX7_lengthOfX_36 : decode cX7_lengthOfX 36 = .ok (.iconst (-1), 1) := by decide +kernel
theorem dX7_lengthOfX_37 : decode cX7_lengthOfX 37 = .ok (.ireturn, 1) := by decide +kernel
theorem dX7_layTrial_0 : decode cX7_layTrial 0 = .ok (.iconst 0, 1) := by decide +kernel
theorem dX7_layTrial_1 : decode cX7_layTrial 1 = .ok (.istore 4, 2) := by decide +kernel
theorem dX7_layTrial_3 : decode cX7_layTrial 3 = .ok (.iconst 0, 1) := by decide +kernel
theorem dX7_layTrial_4 : decode cX7_layTrial 4 = .ok (.istore 5, 2) := by decide +kernel
theorem dX7_layTrial_6 : decode cX7_layTrial 6 = .ok (.iload 5, 2) := by decide +kernel
theorem dX7_layTrial_8 : decode cX7_layTrial 8 = .ok (.iload_n 1, 1) := by decide +kernel
theorem dX7_layTrial_9 : decode cX7_layTrial 9 = .ok (.if_icmp .ge 80, 3) := by decide +kernel
theorem dX7_layTrial_12 : decode cX7_layTrial 12 = .ok (.iload 5, 2) := by decide +kernel
theorem dX7_layTrial_14 : decode cX7_layTrial 14 = .ok (.bipush 8, 2) := by decide +kernel
theorem dX7_layTrial_16 : decode cX7_layTrial 16 = .ok (.if_icmp .ge 73, 3) := by decide +kernel
theorem dX7_layTrial_19 : decode cX7_layTrial 19 = .ok (.iload_n 2, 1) := by decide +kernel
theorem dX7_layTrial_20 : decode cX7_layTrial 20 = .ok (.iload 5, 2) := by decide +kernel
theorem dX7_layTrial_22 : decode cX7_layTrial 22 = .ok (.ishr, 1) := by decide +kernel
theorem dX7_layTrial_23 : decode cX7_layTrial 23 = .ok (.iconst 1, 1) := by decide +kernel
theorem dX7_layTrial_24 : decode cX7_layTrial 24 = .ok (.iand, 1) := by decide +kernel
theorem dX7_layTrial_25 : decode cX7_layTrial 25 = .ok (.iconst 1, 1) := by decide +kernel
theorem dX7_layTrial_26 : decode cX7_layTrial 26 = .ok (.if_icmp .ne 7, 3) := by decide +kernel
theorem dX7_layTrial_29 : decode cX7_layTrial 29 = .ok (.iconst 1, 1) := by decide +kernel
theorem dX7_layTrial_30 : decode cX7_layTrial 30 = .ok (.goto 4, 3) := by decide +kernel
theorem dX7_layTrial_33 : decode cX7_layTrial 33 = .ok (.iconst 0, 1) := by decide +kernel
theorem dX7_layTrial_34 : decode cX7_layTrial 34 = .ok (.istore 6, 2) := by decide +kernel
theorem dX7_layTrial_36 : decode cX7_layTrial 36 = .ok (.aload_n 0, 1) := by decide +kernel
theorem dX7_layTrial_37 : decode cX7_layTrial 37 = .ok (.getfield 20, 3) := by decide +kernel
theorem dX7_layTrial_40 : decode cX7_layTrial 40 = .ok (.iload 5, 2) := by decide +kernel
theorem dX7_layTrial_42 : decode cX7_layTrial 42 = .ok (.iload 6, 2) := by decide +kernel
theorem dX7_layTrial_44 : decode cX7_layTrial 44 = .ok (.ifCond .ne 10, 3) := by decide +kernel
theorem dX7_layTrial_47 : decode cX7_layTrial 47 = .ok (.iload 4, 2) := by decide +kernel
theorem dX7_layTrial_49 : decode cX7_layTrial 49 = .ok (.bipush 8, 2) := by decide +kernel
theorem dX7_layTrial_51 : decode cX7_layTrial 51 = .ok (.if_icmp .lt 7, 3) := by decide +kernel
theorem dX7_layTrial_54 : decode cX7_layTrial 54 = .ok (.iconst 5, 1) := by decide +kernel
theorem dX7_layTrial_55 : decode cX7_layTrial 55 = .ok (.goto 12, 3) := by decide +kernel
theorem dX7_layTrial_58 : decode cX7_layTrial 58 = .ok (.aload_n 0, 1) := by decide +kernel
theorem dX7_layTrial_59 : decode cX7_layTrial 59 = .ok (.getfield 13, 3) := by decide +kernel
theorem dX7_layTrial_62 : decode cX7_layTrial 62 = .ok (.iconst 0, 1) := by decide +kernel
theorem dX7_layTrial_63 : decode cX7_layTrial 63 = .ok (.aaload, 1) := by decide +kernel
theorem dX7_layTrial_64 : decode cX7_layTrial 64 = .ok (.iload 4, 2) := by decide +kernel
theorem dX7_layTrial_66 : decode cX7_layTrial 66 = .ok (.iaload, 1) := by decide +kernel
theorem dX7_layTrial_67 : decode cX7_layTrial 67 = .ok (.iastore, 1) := by decide +kernel
theorem dX7_layTrial_68 : decode cX7_layTrial 68 = .ok (.iload 4, 2) := by decide +kernel
theorem dX7_layTrial_70 : decode cX7_layTrial 70 = .ok (.iload 6, 2) := by decide +kernel
theorem dX7_layTrial_72 : decode cX7_layTrial 72 = .ok (.ifCond .eq 7, 3) := by decide +kernel
theorem dX7_layTrial_75 : decode cX7_layTrial 75 = .ok (.iload_n 3, 1) := by decide +kernel
theorem dX7_layTrial_76 : decode cX7_layTrial 76 = .ok (.goto 4, 3) := by decide +kernel
theorem dX7_layTrial_79 : decode cX7_layTrial 79 = .ok (.iconst 1, 1) := by decide +kernel
theorem dX7_layTrial_80 : decode cX7_layTrial 80 = .ok (.iadd, 1) := by decide +kernel
theorem dX7_layTrial_81 : decode cX7_layTrial 81 = .ok (.istore 4, 2) := by decide +kernel
theorem dX7_layTrial_83 : decode cX7_layTrial 83 = .ok (.iinc 5 1, 3) := by decide +kernel
theorem dX7_layTrial_86 : decode cX7_layTrial 86 = .ok (.goto (-80), 3) := by decide +kernel
theorem dX7_layTrial_89 : decode cX7_layTrial 89 = .ok (.return_, 1) := by decide +kernel
theorem dX7_makesOne_0 : decode cX7_makesOne 0 = .ok (.iconst (-1), 1) := by decide +kernel
theorem dX7_makesOne_1 : decode cX7_makesOne 1 = .ok (.istore 4, 2) := by decide +kernel
theorem dX7_makesOne_3 : decode cX7_makesOne 3 = .ok (.iconst 0, 1) := by decide +kernel
theorem dX7_makesOne_4 : decode cX7_makesOne 4 = .ok (.istore 5, 2) := by decide +kernel
theorem dX7_makesOne_6 : decode cX7_makesOne 6 = .ok (.iconst 0, 1) := by decide +kernel
theorem dX7_makesOne_7 : decode cX7_makesOne 7 = .ok (.istore 6, 2) := by decide +kernel
theorem dX7_makesOne_9 : decode cX7_makesOne 9 = .ok (.iload 6, 2) := by decide +kernel
theorem dX7_makesOne_11 : decode cX7_makesOne 11 = .ok (.iload_n 2, 1) := by decide +kernel
theorem dX7_makesOne_12 : decode cX7_makesOne 12 = .ok (.if_icmp .ge 101, 3) := by decide +kernel
theorem dX7_makesOne_15 : decode cX7_makesOne 15 = .ok (.iload 6, 2) := by decide +kernel
theorem dX7_makesOne_17 : decode cX7_makesOne 17 = .ok (.bipush 8, 2) := by decide +kernel
theorem dX7_makesOne_19 : decode cX7_makesOne 19 = .ok (.if_icmp .ge 94, 3) := by decide +kernel
theorem dX7_makesOne_22 : decode cX7_makesOne 22 = .ok (.iload 5, 2) := by decide +kernel
theorem dX7_makesOne_24 : decode cX7_makesOne 24 = .ok (.bipush 8, 2) := by decide +kernel
theorem dX7_makesOne_26 : decode cX7_makesOne 26 = .ok (.if_icmp .lt 5, 3) := by decide +kernel
theorem dX7_makesOne_29 : decode cX7_makesOne 29 = .ok (.iconst 0, 1) := by decide +kernel
theorem dX7_makesOne_30 : decode cX7_makesOne 30 = .ok (.ireturn, 1) := by decide +kernel
theorem dX7_makesOne_31 : decode cX7_makesOne 31 = .ok (.aload_n 0, 1) := by decide +kernel
theorem dX7_makesOne_32 : decode cX7_makesOne 32 = .ok (.getfield 20, 3) := by decide +kernel
theorem dX7_makesOne_35 : decode cX7_makesOne 35 = .ok (.iload 6, 2) := by decide +kernel
theorem dX7_makesOne_37 : decode cX7_makesOne 37 = .ok (.iaload, 1) := by decide +kernel
theorem dX7_makesOne_38 : decode cX7_makesOne 38 = .ok (.iconst 5, 1) := by decide +kernel
theorem dX7_makesOne_39 : decode cX7_makesOne 39 = .ok (.if_icmp .eq 30, 3) := by decide +kernel
theorem dX7_makesOne_42 : decode cX7_makesOne 42 = .ok (.aload_n 0, 1) := by decide +kernel
theorem dX7_makesOne_43 : decode cX7_makesOne 43 = .ok (.getfield 13, 3) := by decide +kernel
theorem dX7_makesOne_46 : decode cX7_makesOne 46 = .ok (.iload_n 1, 1) := by decide +kernel
theorem dX7_makesOne_47 : decode cX7_makesOne 47 = .ok (.aaload, 1) := by decide +kernel
theorem dX7_makesOne_48 : decode cX7_makesOne 48 = .ok (.iload 5, 2) := by decide +kernel
theorem dX7_makesOne_50 : decode cX7_makesOne 50 = .ok (.iaload, 1) := by decide +kernel
theorem dX7_makesOne_51 : decode cX7_makesOne 51 = .ok (.aload_n 0, 1) := by decide +kernel
theorem dX7_makesOne_52 : decode cX7_makesOne 52 = .ok (.getfield 20, 3) := by decide +kernel
theorem dX7_makesOne_55 : decode cX7_makesOne 55 = .ok (.iload 6, 2) := by decide +kernel
theorem dX7_makesOne_57 : decode cX7_makesOne 57 = .ok (.iaload, 1) := by decide +kernel
theorem dX7_makesOne_58 : decode cX7_makesOne 58 = .ok (.if_icmp .eq 5, 3) := by decide +kernel
theorem dX7_makesOne_61 : decode cX7_makesOne 61 = .ok (.iconst 0, 1) := by decide +kernel
theorem dX7_makesOne_62 : decode cX7_makesOne 62 = .ok (.ireturn, 1) := by decide +kernel
theorem dX7_makesOne_63 : decode cX7_makesOne 63 = .ok (.iinc 5 1, 3) := by decide +kernel
theorem dX7_makesOne_66 : decode cX7_makesOne 66 = .ok (.goto 41, 3) := by decide +kernel
theorem dX7_makesOne_69 : decode cX7_makesOne 69 = .ok (.iload 4, 2) := by decide +kernel
theorem dX7_makesOne_71 : decode cX7_makesOne 71 = .ok (.iconst (-1), 1) := by decide +kernel
theorem dX7_makesOne_72 : decode cX7_makesOne 72 = .ok (.if_icmp .ne 10, 3) := by decide +kernel
theorem dX7_makesOne_75 : decode cX7_makesOne 75 = .ok (.iload 5, 2) := by decide +kernel
theorem dX7_makesOne_77 : decode cX7_makesOne 77 = .ok (.istore 4, 2) := by decide +kernel
theorem dX7_makesOne_79 : decode cX7_makesOne 79 = .ok (.goto 22, 3) := by decide +kernel
theorem dX7_makesOne_82 : decode cX7_makesOne 82 = .ok (.aload_n 0, 1) := by decide +kernel
theorem dX7_makesOne_83 : decode cX7_makesOne 83 = .ok (.getfield 13, 3) := by decide +kernel
theorem dX7_makesOne_86 : decode cX7_makesOne 86 = .ok (.iload_n 1, 1) := by decide +kernel
theorem dX7_makesOne_87 : decode cX7_makesOne 87 = .ok (.aaload, 1) := by decide +kernel
theorem dX7_makesOne_88 : decode cX7_makesOne 88 = .ok (.iload 4, 2) := by decide +kernel
theorem dX7_makesOne_90 : decode cX7_makesOne 90 = .ok (.iload 5, 2) := by decide +kernel
theorem dX7_makesOne_92 : decode cX7_makesOne 92 = .ok (.iload_n 3, 1) := by decide +kernel
theorem dX7_makesOne_93 : decode cX7_makesOne 93 = .ok (.invokestatic 83, 3) := by decide +kernel
theorem dX7_makesOne_96 : decode cX7_makesOne 96 = .ok (.ifCond .ne 5, 3) := by decide +kernel
theorem dX7_makesOne_99 : decode cX7_makesOne 99 = .ok (.iconst 0, 1) := by decide +kernel
theorem dX7_makesOne_100 : decode cX7_makesOne 100 = .ok (.ireturn, 1) := by decide +kernel
theorem dX7_makesOne_101 : decode cX7_makesOne 101 = .ok (.iload 5, 2) := by decide +kernel
theorem dX7_makesOne_103 : decode cX7_makesOne 103 = .ok (.iload_n 3, 1) := by decide +kernel
theorem dX7_makesOne_104 : decode cX7_makesOne 104 = .ok (.iadd, 1) := by decide +kernel
theorem dX7_makesOne_105 : decode cX7_makesOne 105 = .ok (.istore 5, 2) := by decide +kernel
theorem dX7_makesOne_107 : decode cX7_makesOne 107 = .ok (.iinc 6 1, 3) := by decide +kernel
theorem dX7_makesOne_110 : decode cX7_makesOne 110 = .ok (.goto (-101), 3) := by decide +kernel
theorem dX7_makesOne_113 : decode cX7_makesOne 113 = .ok (.iconst 1, 1) := by decide +kernel
theorem dX7_makesOne_114 : decode cX7_makesOne 114 = .ok (.ireturn, 1) := by decide +kernel
theorem dX7_isTrialAhead_0 : decode cX7_isTrialAhead 0 = .ok (.iconst 0, 1) := by decide +kernel
theorem dX7_isTrialAhead_1 : decode cX7_isTrialAhead 1 = .ok (.istore_n 1, 1) := by decide +kernel
theorem dX7_isTrialAhead_2 : decode cX7_isTrialAhead 2 = .ok (.iload_n 1, 1) := by decide +kernel
theorem dX7_isTrialAhead_3 : decode cX7_isTrialAhead 3 = .ok (.aload_n 0, 1) := by decide +kernel
theorem dX7_isTrialAhead_4 : decode cX7_isTrialAhead 4 = .ok (.getfield 30, 3) := by decide +kernel
theorem dX7_isTrialAhead_7 : decode cX7_isTrialAhead 7 = .ok (.if_icmp .ge 45, 3) := by decide +kernel
theorem dX7_isTrialAhead_10 : decode cX7_isTrialAhead 10 = .ok (.aload_n 0, 1) := by decide +kernel
theorem dX7_isTrialAhead_11 : decode cX7_isTrialAhead 11 = .ok (.getfield 20, 3) := by decide +kernel
theorem dX7_isTrialAhead_14 : decode cX7_isTrialAhead 14 = .ok (.iload_n 1, 1) := by decide +kernel
theorem dX7_isTrialAhead_15 : decode cX7_isTrialAhead 15 = .ok (.iaload, 1) := by decide +kernel
theorem dX7_isTrialAhead_16 : decode cX7_isTrialAhead 16 = .ok (.aload_n 0, 1) := by decide +kernel
theorem dX7_isTrialAhead_17 : decode cX7_isTrialAhead 17 = .ok (.getfield 23, 3) := by decide +kernel
theorem dX7_isTrialAhead_20 : decode cX7_isTrialAhead 20 = .ok (.iload_n 1, 1) := by decide +kernel
theorem dX7_isTrialAhead_21 : decode cX7_isTrialAhead 21 = .ok (.iaload, 1) := by decide +kernel
theorem dX7_isTrialAhead_22 : decode cX7_isTrialAhead 22 = .ok (.if_icmp .eq 24, 3) := by decide +kernel
theorem dX7_isTrialAhead_25 : decode cX7_isTrialAhead 25 = .ok (.aload_n 0, 1) := by decide +kernel
theorem dX7_isTrialAhead_26 : decode cX7_isTrialAhead 26 = .ok (.getfield 20, 3) := by decide +kernel
theorem dX7_isTrialAhead_29 : decode cX7_isTrialAhead 29 = .ok (.iload_n 1, 1) := by decide +kernel
theorem dX7_isTrialAhead_30 : decode cX7_isTrialAhead 30 = .ok (.iaload, 1) := by decide +kernel
theorem dX7_isTrialAhead_31 : decode cX7_isTrialAhead 31 = .ok (.aload_n 0, 1) := by decide +kernel
theorem dX7_isTrialAhead_32 : decode cX7_isTrialAhead 32 = .ok (.getfield 23, 3) := by decide +kernel
theorem dX7_isTrialAhead_35 : decode cX7_isTrialAhead 35 = .ok (.iload_n 1, 1) := by decide +kernel
theorem dX7_isTrialAhead_36 : decode cX7_isTrialAhead 36 = .ok (.iaload, 1) := by decide +kernel
theorem dX7_isTrialAhead_37 : decode cX7_isTrialAhead 37 = .ok (.if_icmp .ge 7, 3) := by decide +kernel
theorem dX7_isTrialAhead_40 : decode cX7_isTrialAhead 40 = .ok (.iconst 1, 1) := by decide +kernel
theorem dX7_isTrialAhead_41 : decode cX7_isTrialAhead 41 = .ok (.goto 4, 3) := by decide +kernel
theorem dX7_isTrialAhead_44 : decode cX7_isTrialAhead 44 = .ok (.iconst 0, 1) := by decide +kernel
theorem dX7_isTrialAhead_45 : decode cX7_isTrialAhead 45 = .ok (.ireturn, 1) := by decide +kernel
theorem dX7_isTrialAhead_46 : decode cX7_isTrialAhead 46 = .ok (.iinc 1 1, 3) := by decide +kernel
theorem dX7_isTrialAhead_49 : decode cX7_isTrialAhead 49 = .ok (.goto (-47), 3) := by decide +kernel
theorem dX7_isTrialAhead_52 : decode cX7_isTrialAhead 52 = .ok (.iconst 0, 1) := by decide +kernel
theorem dX7_isTrialAhead_53 : decode cX7_isTrialAhead 53 = .ok (.ireturn, 1) := by decide +kernel
theorem dX7_keepTrial_0 : decode cX7_keepTrial 0 = .ok (.aload_n 0, 1) := by decide +kernel
theorem dX7_keepTrial_1 : decode cX7_keepTrial 1 = .ok (.getfield 20, 3) := by decide +kernel
theorem dX7_keepTrial_4 : decode cX7_keepTrial 4 = .ok (.iconst 0, 1) := by decide +kernel
theorem dX7_keepTrial_5 : decode cX7_keepTrial 5 = .ok (.aload_n 0, 1) := by decide +kernel
theorem dX7_keepTrial_6 : decode cX7_keepTrial 6 = .ok (.getfield 23, 3) := by decide +kernel
theorem dX7_keepTrial_9 : decode cX7_keepTrial 9 = .ok (.iconst 0, 1) := by decide +kernel
theorem dX7_keepTrial_10 : decode cX7_keepTrial 10 = .ok (.bipush 8, 2) := by decide +kernel
theorem dX7_keepTrial_12 : decode cX7_keepTrial 12 = .ok (.invokestatic 87, 3) := by decide +kernel
theorem dX7_keepTrial_15 : decode cX7_keepTrial 15 = .ok (.aload_n 0, 1) := by decide +kernel
theorem dX7_keepTrial_16 : decode cX7_keepTrial 16 = .ok (.iload_n 1, 1) := by decide +kernel
theorem dX7_keepTrial_17 : decode cX7_keepTrial 17 = .ok (.putfield 30, 3) := by decide +kernel
theorem dX7_keepTrial_20 : decode cX7_keepTrial 20 = .ok (.return_, 1) := by decide +kernel
theorem dX8_init_0 : decode cX8_init 0 = .ok (.aload_n 0, 1) := by decide +kernel
theorem dX8_init_1 : decode cX8_init 1 = .ok (.invokespecial 3, 3) := by decide +kernel
theorem dX8_init_4 : decode cX8_init 4 = .ok (.aload_n 0, 1) := by decide +kernel
theorem dX8_init_5 : decode cX8_init 5 = .ok (.bipush 12, 2) := by decide +kernel
theorem dX8_init_7 : decode cX8_init 7 = .ok (.newarray .int, 2) := by decide +kernel
theorem dX8_init_9 : decode cX8_init 9 = .ok (.putfield 9, 3) := by decide +kernel
theorem dX8_init_12 : decode cX8_init 12 = .ok (.aload_n 0, 1) := by decide +kernel
theorem dX8_init_13 : decode cX8_init 13 = .ok (.iconst 4, 1) := by decide +kernel
theorem dX8_init_14 : decode cX8_init 14 = .ok (.newarray .int, 2) := by decide +kernel
theorem dX8_init_16 : decode cX8_init 16 = .ok (.putfield 15, 3) := by decide +kernel
theorem dX8_init_19 : decode cX8_init 19 = .ok (.aload_n 0, 1) := by decide +kernel
theorem dX8_init_20 : decode cX8_init 20 = .ok (.iconst 4, 1) := by decide +kernel
theorem dX8_init_21 : decode cX8_init 21 = .ok (.newarray .int, 2) := by decide +kernel
theorem dX8_init_23 : decode cX8_init 23 = .ok (.putfield 18, 3) := by decide +kernel
theorem dX8_init_26 : decode cX8_init 26 = .ok (.aload_n 0, 1) := by decide +kernel
theorem dX8_init_27 : decode cX8_init 27 = .ok (.iconst 4, 1) := by decide +kernel
theorem dX8_init_28 : decode cX8_init 28 = .ok (.newarray .int, 2) := by decide +kernel
theorem dX8_init_30 : decode cX8_init 30 = .ok (.putfield 21, 3) := by decide +kernel
theorem dX8_init_33 : decode cX8_init 33 = .ok (.aload_n 0, 1) := by decide +kernel
theorem dX8_init_34 : decode cX8_init 34 = .ok (.iconst 0, 1) := by decide +kernel
theorem dX8_init_35 : decode cX8_init 35 = .ok (.putfield 24, 3) := by decide +kernel
theorem dX8_init_38 : decode cX8_init 38 = .ok (.aload_n 0, 1) := by decide +kernel
theorem dX8_init_39 : decode cX8_init 39 = .ok (.iconst 0, 1) := by decide +kernel
theorem dX8_init_40 : decode cX8_init 40 = .ok (.putfield 28, 3) := by decide +kernel
theorem dX8_init_43 : decode cX8_init 43 = .ok (.return_, 1) := by decide +kernel
theorem dX8_empty_0 : decode cX8_empty 0 = .ok (.aload_n 0, 1) := by decide +kernel
theorem dX8_empty_1 : decode cX8_empty 1 = .ok (.iconst 0, 1) := by decide +kernel
theorem dX8_empty_2 : decode cX8_empty 2 = .ok (.putfield 24, 3) := by decide +kernel
theorem dX8_empty_5 : decode cX8_empty 5 = .ok (.aload_n 0, 1) := by decide +kernel
theorem dX8_empty_6 : decode cX8_empty 6 = .ok (.iconst 0, 1) := by decide +kernel
theorem dX8_empty_7 : decode cX8_empty 7 = .ok (.putfield 28, 3) := by decide +kernel
theorem dX8_empty_10 : decode cX8_empty 10 = .ok (.aload_n 0, 1) := by decide +kernel
theorem dX8_empty_11 : decode cX8_empty 11 = .ok (.getfield 15, 3) := by decide +kernel
theorem dX8_empty_14 : decode cX8_empty 14 = .ok (.iconst 0, 1) := by decide +kernel
theorem dX8_empty_15 : decode cX8_empty 15 = .ok (.invokestatic 31, 3) := by decide +kernel
theorem dX8_empty_18 : decode cX8_empty 18 = .ok (.return_, 1) := by decide +kernel
theorem dX8_add_0 : decode cX8_add 0 = .ok (.aload_n 0, 1) := by decide +kernel
theorem dX8_add_1 : decode cX8_add 1 = .ok (.getfield 24, 3) := by decide +kernel
theorem dX8_add_4 : decode cX8_add 4 = .ok (.aload_n 0, 1) := by decide +kernel
theorem dX8_add_5 : decode cX8_add 5 = .ok (.getfield 9, 3) := by decide +kernel
theorem dX8_add_8 : decode cX8_add 8 = .ok (.arraylength, 1) := by decide +kernel
theorem dX8_add_9 : decode cX8_add 9 = .ok (.if_icmp .lt 4, 3) := by decide +kernel
theorem dX8_add_12 : decode cX8_add 12 = .ok (.return_, 1) := by decide +kernel
theorem dX8_add_13 : decode cX8_add 13 = .ok (.aload_n 0, 1) := by decide +kernel
theorem dX8_add_14 : decode cX8_add 14 = .ok (.getfield 9, 3) := by decide +kernel
theorem dX8_add_17 : decode cX8_add 17 = .ok (.aload_n 0, 1) := by decide +kernel
theorem dX8_add_18 : decode cX8_add 18 = .ok (.getfield 24, 3) := by decide +kernel
theorem dX8_add_21 : decode cX8_add 21 = .ok (.iload_n 1, 1) := by decide +kernel
theorem dX8_add_22 : decode cX8_add 22 = .ok (.iastore, 1) := by decide +kernel
theorem dX8_add_23 : decode cX8_add 23 = .ok (.aload_n 0, 1) := by decide +kernel
theorem dX8_add_24 : decode cX8_add 24 = .ok (.dup, 1) := by decide +kernel
theorem dX8_add_25 : decode cX8_add 25 = .ok (.getfield 24, 3) := by decide +kernel
theorem dX8_add_28 : decode cX8_add 28 = .ok (.iconst 1, 1) := by decide +kernel
theorem dX8_add_29 : decode cX8_add 29 = .ok (.iadd, 1) := by decide +kernel
theorem dX8_add_30 : decode cX8_add 30 = .ok (.putfield 24, 3) := by decide +kernel
theorem dX8_add_33 : decode cX8_add 33 = .ok (.iload_n 1, 1) := by decide +kernel
theorem dX8_add_34 : decode cX8_add 34 = .ok (.invokestatic 37, 3) := by decide +kernel
theorem dX8_add_37 : decode cX8_add 37 = .ok (.ifCond .eq 19, 3) := by decide +kernel
theorem dX8_add_40 : decode cX8_add 40 = .ok (.aload_n 0, 1) := by decide +kernel
theorem dX8_add_41 : decode cX8_add 41 = .ok (.getfield 15, 3) := by decide +kernel
theorem dX8_add_44 : decode cX8_add 44 = .ok (.iload_n 1, 1) := by decide +kernel
theorem dX8_add_45 : decode cX8_add 45 = .ok (.invokestatic 41, 3) := by decide +kernel
theorem dX8_add_48 : decode cX8_add 48 = .ok (.dup2, 1) := by decide +kernel
theorem dX8_add_49 : decode cX8_add 49 = .ok (.iaload, 1) := by decide +kernel
theorem dX8_add_50 : decode cX8_add 50 = .ok (.iconst 1, 1) := by decide +kernel
theorem dX8_add_51 : decode cX8_add 51 = .ok (.iadd, 1) := by decide +kernel
theorem dX8_add_52 : decode cX8_add 52 = .ok (.iastore, 1) := by decide +kernel
theorem dX8_add_53 : decode cX8_add 53 = .ok (.goto 13, 3) := by decide +kernel
theorem dX8_add_56 : decode cX8_add 56 = .ok (.aload_n 0, 1) := by decide +kernel
theorem dX8_add_57 : decode cX8_add 57 = .ok (.dup, 1) := by decide +kernel
theorem dX8_add_58 : decode cX8_add 58 = .ok (.getfield 28, 3) := by decide +kernel
theorem dX8_add_61 : decode cX8_add 61 = .ok (.iconst 1, 1) := by decide +kernel
theorem dX8_add_62 : decode cX8_add 62 = .ok (.iadd, 1) := by decide +kernel
theorem dX8_add_63 : decode cX8_add 63 = .ok (.putfield 28, 3) := by decide +kernel
theorem dX8_add_66 : decode cX8_add 66 = .ok (.return_, 1) := by decide +kernel
theorem dX8_length_0 : decode cX8_length 0 = .ok (.aload_n 0, 1) := by decide +kernel
theorem dX8_length_1 : decode cX8_length 1 = .ok (.getfield 24, 3) := by decide +kernel
theorem dX8_length_4 : decode cX8_length 4 = .ok (.ireturn, 1) := by decide +kernel
theorem dX8_at_0 : decode cX8_at 0 = .ok (.iload_n 1, 1) := by decide +kernel
theorem dX8_at_1 : decode cX8_at 1 = .ok (.ifCond .lt 20, 3) := by decide +kernel
theorem dX8_at_4 : decode cX8_at 4 = .ok (.iload_n 1, 1) := by decide +kernel
theorem dX8_at_5 : decode cX8_at 5 = .ok (.aload_n 0, 1) := by decide +kernel
theorem dX8_at_6 : decode cX8_at 6 = .ok (.getfield 24, 3) := by decide +kernel
theorem dX8_at_9 : decode cX8_at 9 = .ok (.if_icmp .ge 12, 3) := by decide +kernel
theorem dX8_at_12 : decode cX8_at 12 = .ok (.aload_n 0, 1) := by decide +kernel
theorem dX8_at_13 : decode cX8_at 13 = .ok (.getfield 9, 3) := by decide +kernel
theorem dX8_at_16 : decode cX8_at 16 = .ok (.iload_n 1, 1) := by decide +kernel
theorem dX8_at_17 : decode cX8_at 17 = .ok (.iaload, 1) := by decide +kernel
theorem dX8_at_18 : decode cX8_at 18 = .ok (.goto 4, 3) := by decide +kernel
theorem dX8_at_21 : decode cX8_at 21 = .ok (.iconst (-1), 1) := by decide +kernel
theorem dX8_at_22 : decode cX8_at 22 = .ok (.ireturn, 1) := by decide +kernel
theorem dX8_timesOf_0 : decode cX8_timesOf 0 = .ok (.iload_n 1, 1) := by decide +kernel
theorem dX8_timesOf_1 : decode cX8_timesOf 1 = .ok (.invokestatic 45, 3) := by decide +kernel
theorem dX8_timesOf_4 : decode cX8_timesOf 4 = .ok (.ifCond .eq 7, 3) := by decide +kernel
theorem dX8_timesOf_7 : decode cX8_timesOf 7 = .ok (.iconst 0, 1) := by decide +kernel
theorem dX8_timesOf_8 : decode cX8_timesOf 8 = .ok (.goto 9, 3) := by decide +kernel
theorem dX8_timesOf_11 : decode cX8_timesOf 11 = .ok (.aload_n 0, 1) := by decide +kernel
theorem dX8_timesOf_12 : decode cX8_timesOf 12 = .ok (.getfield 15, 3) := by decide +kernel
theorem dX8_timesOf_15 : decode cX8_timesOf 15 = .ok (.iload_n 1, 1) := by decide +kernel
theorem dX8_timesOf_16 : decode cX8_timesOf 16 = .ok (.iaload, 1) := by decide +kernel
theorem dX8_timesOf_17 : decode cX8_timesOf 17 = .ok (.ireturn, 1) := by decide +kernel
theorem dX8_lengthBy_0 : decode cX8_lengthBy 0 = .ok (.aload_n 0, 1) := by decide +kernel
theorem dX8_lengthBy_1 : decode cX8_lengthBy 1 = .ok (.getfield 28, 3) := by decide +kernel
theorem dX8_lengthBy_4 : decode cX8_lengthBy 4 = .ok (.aload_n 0, 1) := by decide +kernel
theorem dX8_lengthBy_5 : decode cX8_lengthBy 5 = .ok (.getfield 15, 3) := by decide +kernel
theorem dX8_lengthBy_8 : decode cX8_lengthBy 8 = .ok (.iconst 0, 1) := by decide +kernel
theorem dX8_lengthBy_9 : decode cX8_lengthBy 9 = .ok (.iaload, 1) := by decide +kernel
theorem dX8_lengthBy_10 : decode cX8_lengthBy 10 = .ok (.iload_n 1, 1) := by decide +kernel
theorem dX8_lengthBy_11 : decode cX8_lengthBy 11 = .ok (.imul, 1) := by decide +kernel
theorem dX8_lengthBy_12 : decode cX8_lengthBy 12 = .ok (.iadd, 1) := by decide +kernel
theorem dX8_lengthBy_13 : decode cX8_lengthBy 13 = .ok (.aload_n 0, 1) := by decide +kernel
theorem dX8_lengthBy_14 : decode cX8_lengthBy 14 = .ok (.getfield 15, 3) := by decide +kernel
theorem dX8_lengthBy_17 : decode cX8_lengthBy 17 = .ok (.iconst 1, 1) := by decide +kernel
theorem dX8_lengthBy_18 : decode cX8_lengthBy 18 = .ok (.iaload, 1) := by decide +kernel
theorem dX8_lengthBy_19 : decode cX8_lengthBy 19 = .ok (.iload_n 2, 1) := by decide +kernel
theorem dX8_lengthBy_20 : decode cX8_lengthBy 20 = .ok (.imul, 1) := by decide +kernel
theorem dX8_lengthBy_21 : decode cX8_lengthBy 21 = .ok (.iadd, 1) := by decide +kernel
theorem dX8_lengthBy_22 : decode cX8_lengthBy 22 = .ok (.aload_n 0, 1) := by decide +kernel
theorem dX8_lengthBy_23 : decode cX8_lengthBy 23 = .ok (.getfield 15, 3) := by decide +kernel
theorem dX8_lengthBy_26 : decode cX8_lengthBy 26 = .ok (.iconst 2, 1) := by decide +kernel
theorem dX8_lengthBy_27 : decode cX8_lengthBy 27 = .ok (.iaload, 1) := by decide +kernel
theorem dX8_lengthBy_28 : decode cX8_lengthBy 28 = .ok (.iload_n 3, 1) := by decide +kernel
theorem dX8_lengthBy_29 : decode cX8_lengthBy 29 = .ok (.imul, 1) := by decide +kernel
theorem dX8_lengthBy_30 : decode cX8_lengthBy 30 = .ok (.iadd, 1) := by decide +kernel
theorem dX8_lengthBy_31 : decode cX8_lengthBy 31 = .ok (.aload_n 0, 1) := by decide +kernel
theorem dX8_lengthBy_32 : decode cX8_lengthBy 32 = .ok (.getfield 15, 3) := by decide +kernel
theorem dX8_lengthBy_35 : decode cX8_lengthBy 35 = .ok (.iconst 3, 1) := by decide +kernel
theorem dX8_lengthBy_36 : decode cX8_lengthBy 36 = .ok (.iaload, 1) := by decide +kernel
theorem dX8_lengthBy_37 : decode cX8_lengthBy 37 = .ok (.iload 4, 2) := by decide +kernel
theorem dX8_lengthBy_39 : decode cX8_lengthBy 39 = .ok (.imul, 1) := by decide +kernel
theorem dX8_lengthBy_40 : decode cX8_lengthBy 40 = .ok (.iadd, 1) := by decide +kernel
theorem dX8_lengthBy_41 : decode cX8_lengthBy 41 = .ok (.ireturn, 1) := by decide +kernel
theorem dX8_canBecome_0 : decode cX8_canBecome 0 = .ok (.aload_n 0, 1) := by decide +kernel
theorem dX8_canBecome_1 : decode cX8_canBecome 1 = .ok (.aload_n 1, 1) := by decide +kernel
theorem dX8_canBecome_2 : decode cX8_canBecome 2 = .ok (.getfield 9, 3) := by decide +kernel
theorem dX8_canBecome_5 : decode cX8_canBecome 5 = .ok (.aload_n 1, 1) := by decide +kernel
theorem dX8_canBecome_6 : decode cX8_canBecome 6 = .ok (.getfield 24, 3) := by decide +kernel
theorem dX8_canBecome_9 : decode cX8_canBecome 9 = .ok (.invokevirtual 48, 3) := by decide +kernel
theorem dX8_canBecome_12 : decode cX8_canBecome 12 = .ok (.ifCond .le 7, 3) := by decide +kernel
theorem dX8_canBecome_15 : decode cX8_canBecome 15 = .ok (.iconst 1, 1) := by decide +kernel
theorem dX8_canBecome_16 : decode cX8_canBecome 16 = .ok (.goto 4, 3) := by decide +kernel
theorem dX8_canBecome_19 : decode cX8_canBecome 19 = .ok (.iconst 0, 1) := by decide +kernel
theorem dX8_canBecome_20 : decode cX8_canBecome 20 = .ok (.ireturn, 1) := by decide +kernel
theorem dX8_waysToMake_0 : decode cX8_waysToMake 0 = .ok (.iload_n 2, 1) := by decide +kernel
theorem dX8_waysToMake_1 : decode cX8_waysToMake 1 = .ok (.aload_n 0, 1) := by decide +kernel
theorem dX8_waysToMake_2 : decode cX8_waysToMake 2 = .ok (.getfield 28, 3) := by decide +kernel
theorem dX8_waysToMake_5 : decode cX8_waysToMake 5 = .ok (.isub, 1) := by decide +kernel
theorem dX8_waysToMake_6 : decode cX8_waysToMake 6 = .ok (.istore_n 3, 1) := by decide +kernel
theorem dX8_waysToMake_7 : decode cX8_waysToMake 7 = .ok (.iconst 0, 1) := by decide +kernel
theorem dX8_waysToMake_8 : decode cX8_waysToMake 8 = .ok (.istore 4, 2) := by decide +kernel
theorem dX8_waysToMake_10 : decode cX8_waysToMake 10 = .ok (.aload_n 0, 1) := by decide +kernel
theorem dX8_waysToMake_11 : decode cX8_waysToMake 11 = .ok (.iconst 0, 1) := by decide +kernel
theorem dX8_waysToMake_12 : decode cX8_waysToMake 12 = .ok (.invokevirtual 52, 3) := by decide +kernel
theorem dX8_waysToMake_15 : decode cX8_waysToMake 15 = .ok (.istore 5, 2) := by decide +kernel
theorem dX8_waysToMake_17 : decode cX8_waysToMake 17 = .ok (.iload 5, 2) := by decide +kernel
theorem dX8_waysToMake_19 : decode cX8_waysToMake 19 = .ok (.aload_n 0, 1) := by decide +kernel
theorem dX8_waysToMake_20 : decode cX8_waysToMake 20 = .ok (.iconst 0, 1) := by decide +kernel
theorem dX8_waysToMake_21 : decode cX8_waysToMake 21 = .ok (.iload_n 3, 1) := by decide +kernel
theorem dX8_waysToMake_22 : decode cX8_waysToMake 22 = .ok (.invokevirtual 55, 3) := by decide +kernel
theorem dX8_waysToMake_25 : decode cX8_waysToMake 25 = .ok (.if_icmp .gt 160, 3) := by decide +kernel
theorem dX8_waysToMake_28 : decode cX8_waysToMake 28 = .ok (.iload_n 3, 1) := by decide +kernel
theorem dX8_waysToMake_29 : decode cX8_waysToMake 29 = .ok (.iload 5, 2) := by decide +kernel
theorem dX8_waysToMake_31 : decode cX8_waysToMake 31 = .ok (.aload_n 0, 1) := by decide +kernel
theorem dX8_waysToMake_32 : decode cX8_waysToMake 32 = .ok (.getfield 15, 3) := by decide +kernel
theorem dX8_waysToMake_35 : decode cX8_waysToMake 35 = .ok (.iconst 0, 1) := by decide +kernel
theorem dX8_waysToMake_36 : decode cX8_waysToMake 36 = .ok (.iaload, 1) := by decide +kernel
theorem dX8_waysToMake_37 : decode cX8_waysToMake 37 = .ok (.imul, 1) := by decide +kernel
theorem dX8_waysToMake_38 : decode cX8_waysToMake 38 = .ok (.isub, 1) := by decide +kernel
theorem dX8_waysToMake_39 : decode cX8_waysToMake 39 = .ok (.istore 6, 2) := by decide +kernel
theorem dX8_waysToMake_41 : decode cX8_waysToMake 41 = .ok (.aload_n 0, 1) := by decide +kernel
theorem dX8_waysToMake_42 : decode cX8_waysToMake 42 = .ok (.iconst 1, 1) := by decide +kernel
theorem dX8_waysToMake_43 : decode cX8_waysToMake 43 = .ok (.invokevirtual 52, 3) := by decide +kernel
theorem dX8_waysToMake_46 : decode cX8_waysToMake 46 = .ok (.istore 7, 2) := by decide +kernel
theorem dX8_waysToMake_48 : decode cX8_waysToMake 48 = .ok (.iload 7, 2) := by decide +kernel
theorem dX8_waysToMake_50 : decode cX8_waysToMake 50 = .ok (.aload_n 0, 1) := by decide +kernel
theorem dX8_waysToMake_51 : decode cX8_waysToMake 51 = .ok (.iconst 1, 1) := by decide +kernel
theorem dX8_waysToMake_52 : decode cX8_waysToMake 52 = .ok (.iload 6, 2) := by decide +kernel
theorem dX8_waysToMake_54 : decode cX8_waysToMake 54 = .ok (.invokevirtual 55, 3) := by decide +kernel
theorem dX8_waysToMake_57 : decode cX8_waysToMake 57 = .ok (.if_icmp .gt 122, 3) := by decide +kernel
theorem dX8_waysToMake_60 : decode cX8_waysToMake 60 = .ok (.iload 6, 2) := by decide +kernel
theorem dX8_waysToMake_62 : decode cX8_waysToMake 62 = .ok (.iload 7, 2) := by decide +kernel
theorem dX8_waysToMake_64 : decode cX8_waysToMake 64 = .ok (.aload_n 0, 1) := by decide +kernel
theorem dX8_waysToMake_65 : decode cX8_waysToMake 65 = .ok (.getfield 15, 3) := by decide +kernel
theorem dX8_waysToMake_68 : decode cX8_waysToMake 68 = .ok (.iconst 1, 1) := by decide +kernel
theorem dX8_waysToMake_69 : decode cX8_waysToMake 69 = .ok (.iaload, 1) := by decide +kernel
theorem dX8_waysToMake_70 : decode cX8_waysToMake 70 = .ok (.imul, 1) := by decide +kernel
theorem dX8_waysToMake_71 : decode cX8_waysToMake 71 = .ok (.isub, 1) := by decide +kernel
theorem dX8_waysToMake_72 : decode cX8_waysToMake 72 = .ok (.istore 8, 2) := by decide +kernel
theorem dX8_waysToMake_74 : decode cX8_waysToMake 74 = .ok (.aload_n 0, 1) := by decide +kernel
theorem dX8_waysToMake_75 : decode cX8_waysToMake 75 = .ok (.iconst 2, 1) := by decide +kernel
theorem dX8_waysToMake_76 : decode cX8_waysToMake 76 = .ok (.invokevirtual 52, 3) := by decide +kernel
theorem dX8_waysToMake_79 : decode cX8_waysToMake 79 = .ok (.istore 9, 2) := by decide +kernel
theorem dX8_waysToMake_81 : decode cX8_waysToMake 81 = .ok (.iload 9, 2) := by decide +kernel
theorem dX8_waysToMake_83 : decode cX8_waysToMake 83 = .ok (.aload_n 0, 1) := by decide +kernel
theorem dX8_waysToMake_84 : decode cX8_waysToMake 84 = .ok (.iconst 2, 1) := by decide +kernel
theorem dX8_waysToMake_85 : decode cX8_waysToMake 85 = .ok (.iload 8, 2) := by decide +kernel
theorem dX8_waysToMake_87 : decode cX8_waysToMake 87 = .ok (.invokevirtual 55, 3) := by decide +kernel
theorem dX8_waysToMake_90 : decode cX8_waysToMake 90 = .ok (.if_icmp .gt 83, 3) := by decide +kernel
theorem dX8_waysToMake_93 : decode cX8_waysToMake 93 = .ok (.iload 8, 2) := by decide +kernel
theorem dX8_waysToMake_95 : decode cX8_waysToMake 95 = .ok (.iload 9, 2) := by decide +kernel
theorem dX8_waysToMake_97 : decode cX8_waysToMake 97 = .ok (.aload_n 0, 1) := by decide +kernel
theorem dX8_waysToMake_98 : decode cX8_waysToMake 98 = .ok (.getfield 15, 3) := by decide +kernel
theorem dX8_waysToMake_101 : decode cX8_waysToMake 101 = .ok (.iconst 2, 1) := by decide +kernel
theorem dX8_waysToMake_102 : decode cX8_waysToMake 102 = .ok (.iaload, 1) := by decide +kernel
theorem dX8_waysToMake_103 : decode cX8_waysToMake 103 = .ok (.imul, 1) := by decide +kernel
theorem dX8_waysToMake_104 : decode cX8_waysToMake 104 = .ok (.isub, 1) := by decide +kernel
theorem dX8_waysToMake_105 : decode cX8_waysToMake 105 = .ok (.istore 10, 2) := by decide +kernel
theorem dX8_waysToMake_107 : decode cX8_waysToMake 107 = .ok (.aload_n 0, 1) := by decide +kernel
theorem dX8_waysToMake_108 : decode cX8_waysToMake 108 = .ok (.iconst 3, 1) := by decide +kernel
theorem dX8_waysToMake_109 : decode cX8_waysToMake 109 = .ok (.iload 10, 2) := by decide +kernel
theorem dX8_waysToMake_111 : decode cX8_waysToMake 111 = .ok (.invokevirtual 55, 3) := by decide +kernel
theorem dX8_waysToMake_114 : decode cX8_waysToMake 114 = .ok (.istore 11, 2) := by decide +kernel
theorem dX8_waysToMake_116 : decode cX8_waysToMake 116 = .ok (.iload 11, 2) := by decide +kernel
theorem dX8_waysToMake_118 : decode cX8_waysToMake 118 = .ok (.aload_n 0, 1) := by decide +kernel
theorem dX8_waysToMake_119 : decode cX8_waysToMake 119 = .ok (.iconst 3, 1) := by decide +kernel
theorem dX8_waysToMake_120 : decode cX8_waysToMake 120 = .ok (.invokevirtual 52, 3) := by decide +kernel
theorem dX8_waysToMake_123 : decode cX8_waysToMake 123 = .ok (.if_icmp .lt 44, 3) := by decide +kernel
theorem dX8_waysToMake_126 : decode cX8_waysToMake 126 = .ok (.iload 11, 2) := by decide +kernel
theorem dX8_waysToMake_128 : decode cX8_waysToMake 128 = .ok (.aload_n 0, 1) := by decide +kernel
theorem dX8_waysToMake_129 : decode cX8_waysToMake 129 = .ok (.getfield 15, 3) := by decide +kernel
theorem dX8_waysToMake_132 : decode cX8_waysToMake 132 = .ok (.iconst 3, 1) := by decide +kernel
theorem dX8_waysToMake_133 : decode cX8_waysToMake 133 = .ok (.iaload, 1) := by decide +kernel
theorem dX8_waysToMake_134 : decode cX8_waysToMake 134 = .ok (.imul, 1) := by decide +kernel
theorem dX8_waysToMake_135 : decode cX8_waysToMake 135 = .ok (.iload 10, 2) := by decide +kernel
theorem dX8_waysToMake_137 : decode cX8_waysToMake 137 = .ok (.if_icmp .eq 6, 3) := by decide +kernel
theorem dX8_waysToMake_140 : decode cX8_waysToMake 140 = .ok (.goto 27, 3) := by decide +kernel
theorem dX8_waysToMake_143 : decode cX8_waysToMake 143 = .ok (.aload_n 0, 1) := by decide +kernel
theorem dX8_waysToMake_144 : decode cX8_waysToMake 144 = .ok (.iload 5, 2) := by decide +kernel
theorem dX8_waysToMake_146 : decode cX8_waysToMake 146 = .ok (.iload 7, 2) := by decide +kernel
theorem dX8_waysToMake_148 : decode cX8_waysToMake 148 = .ok (.iload 9, 2) := by decide +kernel
theorem dX8_waysToMake_150 : decode cX8_waysToMake 150 = .ok (.iload 11, 2) := by decide +kernel
theorem dX8_waysToMake_152 : decode cX8_waysToMake 152 = .ok (.invokevirtual 59, 3) := by decide +kernel
theorem dX8_waysToMake_155 : decode cX8_waysToMake 155 = .ok (.aload_n 0, 1) := by decide +kernel
theorem dX8_waysToMake_156 : decode cX8_waysToMake 156 = .ok (.aload_n 1, 1) := by decide +kernel
theorem dX8_waysToMake_157 : decode cX8_waysToMake 157 = .ok (.iload_n 2, 1) := by decide +kernel
theorem dX8_waysToMake_158 : decode cX8_waysToMake 158 = .ok (.invokevirtual 63, 3) := by decide +kernel
theorem dX8_waysToMake_161 : decode cX8_waysToMake 161 = .ok (.ifCond .eq 6, 3) := by decide +kernel
theorem dX8_waysToMake_164 : decode cX8_waysToMake 164 = .ok (.iinc 4 1, 3) := by decide +kernel
theorem dX8_waysToMake_167 : decode cX8_waysToMake 167 = .ok (.iinc 9 1, 3) := by decide +kernel
theorem dX8_waysToMake_170 : decode cX8_waysToMake 170 = .ok (.goto (-89), 3) := by decide +kernel
theorem dX8_waysToMake_173 : decode cX8_waysToMake 173 = .ok (.iinc 7 1, 3) := by decide +kernel
theorem dX8_waysToMake_176 : decode cX8_waysToMake 176 = .ok (.goto (-128), 3) := by decide +kernel
theorem dX8_waysToMake_179 : decode cX8_waysToMake 179 = .ok (.iinc 5 1, 3) := by decide +kernel
theorem dX8_waysToMake_182 : decode cX8_waysToMake 182 = .ok (.goto (-165), 3) := by decide +kernel
theorem dX8_waysToMake_185 : decode cX8_waysToMake 185 = .ok (.iload 4, 2) := by decide +kernel
theorem dX8_waysToMake_187 : decode cX8_waysToMake 187 = .ok (.ireturn, 1) := by decide +kernel
theorem dX8_setLengths_0 : decode cX8_setLengths 0 = .ok (.aload_n 0, 1) := by decide +kernel
theorem dX8_setLengths_1 : decode cX8_setLengths 1 = .ok (.getfield 18, 3) := by decide +kernel
theorem dX8_setLengths_4 : decode cX8_setLengths 4 = .ok (.iconst 0, 1) := by decide +kernel
theorem dX8_setLengths_5 : decode cX8_setLengths 5 = .ok (.iload_n 1, 1) := by decide +kernel
theorem dX8_setLengths_6 : decode cX8_setLengths 6 = .ok (.iastore, 1) := by decide +kernel
theorem dX8_setLengths_7 : decode cX8_setLengths 7 = .ok (.aload_n 0, 1) := by decide +kernel
theorem dX8_setLengths_8 : decode cX8_setLengths 8 = .ok (.getfield 18, 3) := by decide +kernel
theorem dX8_setLengths_11 : decode cX8_setLengths 11 = .ok (.iconst 1, 1) := by decide +kernel
theorem dX8_setLengths_12 : decode cX8_setLengths 12 = .ok (.iload_n 2, 1) := by decide +kernel
theorem dX8_setLengths_13 : decode cX8_setLengths 13 = .ok (.iastore, 1) := by decide +kernel
theorem dX8_setLengths_14 : decode cX8_setLengths 14 = .ok (.aload_n 0, 1) := by decide +kernel
theorem dX8_setLengths_15 : decode cX8_setLengths 15 = .ok (.getfield 18, 3) := by decide +kernel
theorem dX8_setLengths_18 : decode cX8_setLengths 18 = .ok (.iconst 2, 1) := by decide +kernel
theorem dX8_setLengths_19 : decode cX8_setLengths 19 = .ok (.iload_n 3, 1) := by decide +kernel
theorem dX8_setLengths_20 : decode cX8_setLengths 20 = .ok (.iastore, 1) := by decide +kernel
theorem dX8_setLengths_21 : decode cX8_setLengths 21 = .ok (.aload_n 0, 1) := by decide +kernel
theorem dX8_setLengths_22 : decode cX8_setLengths 22 = .ok (.getfield 18, 3) := by decide +kernel
theorem dX8_setLengths_25 : decode cX8_setLengths 25 = .ok (.iconst 3, 1) := by decide +kernel
theorem dX8_setLengths_26 : decode cX8_setLengths 26 = .ok (.iload 4, 2) := by decide +kernel
theorem dX8_setLengths_28 : decode cX8_setLengths 28 = .ok (.iastore, 1) := by decide +kernel
theorem dX8_setLengths_29 : decode cX8_setLengths 29 = .ok (.return_, 1) := by decide +kernel
theorem dX8_least_0 : decode cX8_least 0 = .ok (.aload_n 0, 1) := by decide +kernel
theorem dX8_least_1 : decode cX8_least 1 = .ok (.getfield 15, 3) := by decide +kernel
theorem dX8_least_4 : decode cX8_least 4 = .ok (.iload_n 1, 1) := by decide +kernel
theorem dX8_least_5 : decode cX8_least 5 = .ok (.iaload, 1) := by decide +kernel
theorem dX8_least_6 : decode cX8_least 6 = .ok (.ifCond .le 7, 3) := by decide +kernel
theorem dX8_least_9 : decode cX8_least 9 = .ok (.iconst 1, 1) := by decide +kernel
theorem dX8_least_10 : decode cX8_least 10 = .ok (.goto 4, 3) := by decide +kernel
theorem dX8_least_13 : decode cX8_least 13 = .ok (.iconst 0, 1) := by decide +kernel
theorem dX8_least_14 : decode cX8_least 14 = .ok (.ireturn, 1) := by decide +kernel
theorem dX8_most_0 : decode cX8_most 0 = .ok (.aload_n 0, 1) := by decide +kernel
theorem dX8_most_1 : decode cX8_most 1 = .ok (.getfield 15, 3) := by decide +kernel
theorem dX8_most_4 : decode cX8_most 4 = .ok (.iload_n 1, 1) := by decide +kernel
theorem dX8_most_5 : decode cX8_most 5 = .ok (.iaload, 1) := by decide +kernel
theorem dX8_most_6 : decode cX8_most 6 = .ok (.ifCond .le 14, 3) := by decide +kernel
theorem dX8_most_9 : decode cX8_most 9 = .ok (.iload_n 2, 1) := by decide +kernel
theorem dX8_most_10 : decode cX8_most 10 = .ok (.aload_n 0, 1) := by decide +kernel
theorem dX8_most_11 : decode cX8_most 11 = .ok (.getfield 15, 3) := by decide +kernel
theorem dX8_most_14 : decode cX8_most 14 = .ok (.iload_n 1, 1) := by decide +kernel
theorem dX8_most_15 : decode cX8_most 15 = .ok (.iaload, 1) := by decide +kernel
theorem dX8_most_16 : decode cX8_most 16 = .ok (.idiv, 1) := by decide +kernel
theorem dX8_most_17 : decode cX8_most 17 = .ok (.goto 4, 3) := by decide +kernel
theorem dX8_most_20 : decode cX8_most 20 = .ok (.iconst 0, 1) := by decide +kernel
theorem dX8_most_21 : decode cX8_most 21 = .ok (.ireturn, 1) := by decide +kernel
theorem dX8_reads_0 : decode cX8_reads 0 = .ok (.aload_n 0, 1) := by decide +kernel
theorem dX8_reads_1 : decode cX8_reads 1 = .ok (.getfield 21, 3) := by decide +kernel
theorem dX8_reads_4 : decode cX8_reads 4 = .ok (.iconst (-1), 1) := by decide +kernel
theorem dX8_reads_5 : decode cX8_reads 5 = .ok (.invokestatic 31, 3) := by decide +kernel
theorem dX8_reads_8 : decode cX8_reads 8 = .ok (.iconst 0, 1) := by decide +kernel
theorem dX8_reads_9 : decode cX8_reads 9 = .ok (.istore_n 3, 1) := by decide +kernel
theorem dX8_reads_10 : decode cX8_reads 10 = .ok (.iconst 0, 1) := by decide +kernel
theorem dX8_reads_11 : decode cX8_reads 11 = .ok (.istore 4, 2) := by decide +kernel
theorem dX8_reads_13 : decode cX8_reads 13 = .ok (.iload 4, 2) := by decide +kernel
theorem dX8_reads_15 : decode cX8_reads 15 = .ok (.aload_n 0, 1) := by decide +kernel
theorem dX8_reads_16 : decode cX8_reads 16 = .ok (.getfield 24, 3) := by decide +kernel
theorem dX8_reads_19 : decode cX8_reads 19 = .ok (.if_icmp .ge 124, 3) := by decide +kernel
theorem dX8_reads_22 : decode cX8_reads 22 = .ok (.iload_n 3, 1) := by decide +kernel
theorem dX8_reads_23 : decode cX8_reads 23 = .ok (.iload_n 2, 1) := by decide +kernel
theorem dX8_reads_24 : decode cX8_reads 24 = .ok (.if_icmp .ge 9, 3) := by decide +kernel
theorem dX8_reads_27 : decode cX8_reads 27 = .ok (.iload_n 3, 1) := by decide +kernel
theorem dX8_reads_28 : decode cX8_reads 28 = .ok (.aload_n 1, 1) := by decide +kernel
theorem dX8_reads_29 : decode cX8_reads 29 = .ok (.arraylength, 1) := by decide +kernel
theorem dX8_reads_30 : decode cX8_reads 30 = .ok (.if_icmp .lt 5, 3) := by decide +kernel
theorem dX8_reads_33 : decode cX8_reads 33 = .ok (.iconst 0, 1) := by decide +kernel
theorem dX8_reads_34 : decode cX8_reads 34 = .ok (.ireturn, 1) := by decide +kernel
theorem dX8_reads_35 : decode cX8_reads 35 = .ok (.aload_n 0, 1) := by decide +kernel
theorem dX8_reads_36 : decode cX8_reads 36 = .ok (.getfield 9, 3) := by decide +kernel
theorem dX8_reads_39 : decode cX8_reads 39 = .ok (.iload 4, 2) := by decide +kernel
theorem dX8_reads_41 : decode cX8_reads 41 = .ok (.iaload, 1) := by decide +kernel
theorem dX8_reads_42 : decode cX8_reads 42 = .ok (.invokestatic 37, 3) := by decide +kernel
theorem dX8_reads_45 : decode cX8_reads 45 = .ok (.ifCond .eq 74, 3) := by decide +kernel
theorem dX8_reads_48 : decode cX8_reads 48 = .ok (.aload_n 0, 1) := by decide +kernel
theorem dX8_reads_49 : decode cX8_reads 49 = .ok (.getfield 9, 3) := by decide +kernel
theorem dX8_reads_52 : decode cX8_reads 52 = .ok (.iload 4, 2) := by decide +kernel
theorem dX8_reads_54 : decode cX8_reads 54 = .ok (.iaload, 1) := by decide +kernel
theorem dX8_reads_55 : decode cX8_reads 55 = .ok (.invokestatic 41, 3) := by decide +kernel
theorem dX8_reads_58 : decode cX8_reads 58 = .ok (.istore 5, 2) := by decide +kernel
theorem dX8_reads_60 : decode cX8_reads 60 = .ok (.aload_n 0, 1) := by decide +kernel
theorem dX8_reads_61 : decode cX8_reads 61 = .ok (.getfield 21, 3) := by decide +kernel
theorem dX8_reads_64 : decode cX8_reads 64 = .ok (.iload 5, 2) := by decide +kernel
theorem dX8_reads_66 : decode cX8_reads 66 = .ok (.iaload, 1) := by decide +kernel
theorem dX8_reads_67 : decode cX8_reads 67 = .ok (.iconst (-1), 1) := by decide +kernel
theorem dX8_reads_68 : decode cX8_reads 68 = .ok (.if_icmp .ne 14, 3) := by decide +kernel
theorem dX8_reads_71 : decode cX8_reads 71 = .ok (.aload_n 0, 1) := by decide +kernel
theorem dX8_reads_72 : decode cX8_reads 72 = .ok (.getfield 21, 3) := by decide +kernel
theorem dX8_reads_75 : decode cX8_reads 75 = .ok (.iload 5, 2) := by decide +kernel
theorem dX8_reads_77 : decode cX8_reads 77 = .ok (.iload_n 3, 1) := by decide +kernel
theorem dX8_reads_78 : decode cX8_reads 78 = .ok (.iastore, 1) := by decide +kernel
theorem dX8_reads_79 : decode cX8_reads 79 = .ok (.goto 27, 3) := by decide +kernel
theorem dX8_reads_82 : decode cX8_reads 82 = .ok (.aload_n 1, 1) := by decide +kernel
theorem dX8_reads_83 : decode cX8_reads 83 = .ok (.aload_n 0, 1) := by decide +kernel
theorem dX8_reads_84 : decode cX8_reads 84 = .ok (.getfield 21, 3) := by decide +kernel
theorem dX8_reads_87 : decode cX8_reads 87 = .ok (.iload 5, 2) := by decide +kernel
theorem dX8_reads_89 : decode cX8_reads 89 = .ok (.iaload, 1) := by decide +kernel
theorem dX8_reads_90 : decode cX8_reads 90 = .ok (.iload_n 3, 1) := by decide +kernel
theorem dX8_reads_91 : decode cX8_reads 91 = .ok (.aload_n 0, 1) := by decide +kernel
theorem dX8_reads_92 : decode cX8_reads 92 = .ok (.getfield 18, 3) := by decide +kernel
theorem dX8_reads_95 : decode cX8_reads 95 = .ok (.iload 5, 2) := by decide +kernel
theorem dX8_reads_97 : decode cX8_reads 97 = .ok (.iaload, 1) := by decide +kernel
theorem dX8_reads_98 : decode cX8_reads 98 = .ok (.invokestatic 67, 3) := by decide +kernel
theorem dX8_reads_101 : decode cX8_reads 101 = .ok (.ifCond .ne 5, 3) := by decide +kernel
theorem dX8_reads_104 : decode cX8_reads 104 = .ok (.iconst 0, 1) := by decide +kernel
theorem dX8_reads_105 : decode cX8_reads 105 = .ok (.ireturn, 1) := by decide +kernel
theorem dX8_reads_106 : decode cX8_reads 106 = .ok (.iload_n 3, 1) := by decide +kernel
theorem dX8_reads_107 : decode cX8_reads 107 = .ok (.aload_n 0, 1) := by decide +kernel
theorem dX8_reads_108 : decode cX8_reads 108 = .ok (.getfield 18, 3) := by decide +kernel
theorem dX8_reads_111 : decode cX8_reads 111 = .ok (.iload 5, 2) := by decide +kernel
theorem dX8_reads_113 : decode cX8_reads 113 = .ok (.iaload, 1) := by decide +kernel
theorem dX8_reads_114 : decode cX8_reads 114 = .ok (.iadd, 1) := by decide +kernel
theorem dX8_reads_115 : decode cX8_reads 115 = .ok (.istore_n 3, 1) := by decide +kernel
theorem dX8_reads_116 : decode cX8_reads 116 = .ok (.goto 21, 3) := by decide +kernel
theorem dX8_reads_119 : decode cX8_reads 119 = .ok (.aload_n 1, 1) := by decide +kernel
theorem dX8_reads_120 : decode cX8_reads 120 = .ok (.iload_n 3, 1) := by decide +kernel
theorem dX8_reads_121 : decode cX8_reads 121 = .ok (.iaload, 1) := by decide +kernel
theorem dX8_reads_122 : decode cX8_reads 122 = .ok (.aload_n 0, 1) := by decide +kernel
theorem dX8_reads_123 : decode cX8_reads 123 = .ok (.getfield 9, 3) := by decide +kernel
theorem dX8_reads_126 : decode cX8_reads 126 = .ok (.iload 4, 2) := by decide +kernel
theorem dX8_reads_128 : decode cX8_reads 128 = .ok (.iaload, 1) := by decide +kernel
theorem dX8_reads_129 : decode cX8_reads 129 = .ok (.if_icmp .eq 5, 3) := by decide +kernel
theorem dX8_reads_132 : decode cX8_reads 132 = .ok (.iconst 0, 1) := by decide +kernel
theorem dX8_reads_133 : decode cX8_reads 133 = .ok (.ireturn, 1) := by decide +kernel
theorem dX8_reads_134 : decode cX8_reads 134 = .ok (.iinc 3 1, 3) := by decide +kernel
theorem dX8_reads_137 : decode cX8_reads 137 = .ok (.iinc 4 1, 3) := by decide +kernel
theorem dX8_reads_140 : decode cX8_reads 140 = .ok (.goto (-127), 3) := by decide +kernel
theorem dX8_reads_143 : decode cX8_reads 143 = .ok (.iload_n 3, 1) := by decide +kernel
theorem dX8_reads_144 : decode cX8_reads 144 = .ok (.iload_n 2, 1) := by decide +kernel
theorem dX8_reads_145 : decode cX8_reads 145 = .ok (.if_icmp .ne 7, 3) := by decide +kernel
theorem dX8_reads_148 : decode cX8_reads 148 = .ok (.iconst 1, 1) := by decide +kernel
theorem dX8_reads_149 : decode cX8_reads 149 = .ok (.goto 4, 3) := by decide +kernel
theorem dX8_reads_152 : decode cX8_reads 152 = .ok (.iconst 0, 1) := by decide +kernel
theorem dX8_reads_153 : decode cX8_reads 153 = .ok (.ireturn, 1) := by decide +kernel
theorem dX9_init_0 : decode cX9_init 0 = .ok (.aload_n 0, 1) := by decide +kernel
theorem dX9_init_1 : decode cX9_init 1 = .ok (.invokespecial 3, 3) := by decide +kernel
theorem dX9_init_4 : decode cX9_init 4 = .ok (.aload_n 0, 1) := by decide +kernel
theorem dX9_init_5 : decode cX9_init 5 = .ok (.bipush 100, 2) := by decide +kernel
theorem dX9_init_7 : decode cX9_init 7 = .ok (.newarray .int, 2) := by decide +kernel
theorem dX9_init_9 : decode cX9_init 9 = .ok (.putfield 9, 3) := by decide +kernel
theorem dX9_init_12 : decode cX9_init 12 = .ok (.aload_n 0, 1) := by decide +kernel
theorem dX9_init_13 : decode cX9_init 13 = .ok (.iconst 0, 1) := by decide +kernel
theorem dX9_init_14 : decode cX9_init 14 = .ok (.putfield 15, 3) := by decide +kernel
theorem dX9_init_17 : decode cX9_init 17 = .ok (.return_, 1) := by decide +kernel
theorem dX9_empty_0 : decode cX9_empty 0 = .ok (.aload_n 0, 1) := by decide +kernel
theorem dX9_empty_1 : decode cX9_empty 1 = .ok (.iconst 0, 1) := by decide +kernel
theorem dX9_empty_2 : decode cX9_empty 2 = .ok (.putfield 15, 3) := by decide +kernel
theorem dX9_empty_5 : decode cX9_empty 5 = .ok (.return_, 1) := by decide +kernel
theorem dX9_length_0 : decode cX9_length 0 = .ok (.aload_n 0, 1) := by decide +kernel
theorem dX9_length_1 : decode cX9_length 1 = .ok (.getfield 15, 3) := by decide +kernel
theorem dX9_length_4 : decode cX9_length 4 = .ok (.ireturn, 1) := by decide +kernel
theorem dX9_hasRoomFor_0 : decode cX9_hasRoomFor 0 = .ok (.iload_n 1, 1) := by decide +kernel
theorem dX9_hasRoomFor_1 : decode cX9_hasRoomFor 1 = .ok (.aload_n 0, 1) := by decide +kernel
theorem dX9_hasRoomFor_2 : decode cX9_hasRoomFor 2 = .ok (.getfield 9, 3) := by decide +kernel
theorem dX9_hasRoomFor_5 : decode cX9_hasRoomFor 5 = .ok (.arraylength, 1) := by decide +kernel
theorem dX9_hasRoomFor_6 : decode cX9_hasRoomFor 6 = .ok (.aload_n 0, 1) := by decide +kernel
theorem dX9_hasRoomFor_7 : decode cX9_hasRoomFor 7 = .ok (.getfield 15, 3) := by decide +kernel
theorem dX9_hasRoomFor_10 : decode cX9_hasRoomFor 10 = .ok (.isub, 1) := by decide +kernel
theorem dX9_hasRoomFor_11 : decode cX9_hasRoomFor 11 = .ok (.if_icmp .gt 7, 3) := by decide +kernel
theorem dX9_hasRoomFor_14 : decode cX9_hasRoomFor 14 = .ok (.iconst 1, 1) := by decide +kernel
theorem dX9_hasRoomFor_15 : decode cX9_hasRoomFor 15 = .ok (.goto 4, 3) := by decide +kernel
theorem dX9_hasRoomFor_18 : decode cX9_hasRoomFor 18 = .ok (.iconst 0, 1) := by decide +kernel
theorem dX9_hasRoomFor_19 : decode cX9_hasRoomFor 19 = .ok (.ireturn, 1) := by decide +kernel
theorem dX9_add_0 : decode cX9_add 0 = .ok (.aload_n 0, 1) := by decide +kernel
theorem dX9_add_1 : decode cX9_add 1 = .ok (.getfield 15, 3) := by decide +kernel
theorem dX9_add_4 : decode cX9_add 4 = .ok (.aload_n 0, 1) := by decide +kernel
theorem dX9_add_5 : decode cX9_add 5 = .ok (.getfield 9, 3) := by decide +kernel
theorem dX9_add_8 : decode cX9_add 8 = .ok (.arraylength, 1) := by decide +kernel
theorem dX9_add_9 : decode cX9_add 9 = .ok (.if_icmp .lt 4, 3) := by decide +kernel
theorem dX9_add_12 : decode cX9_add 12 = .ok (.return_, 1) := by decide +kernel
theorem dX9_add_13 : decode cX9_add 13 = .ok (.aload_n 0, 1) := by decide +kernel
theorem dX9_add_14 : decode cX9_add 14 = .ok (.getfield 9, 3) := by decide +kernel
theorem dX9_add_17 : decode cX9_add 17 = .ok (.aload_n 0, 1) := by decide +kernel
theorem dX9_add_18 : decode cX9_add 18 = .ok (.getfield 15, 3) := by decide +kernel
theorem dX9_add_21 : decode cX9_add 21 = .ok (.iload_n 1, 1) := by decide +kernel
theorem dX9_add_22 : decode cX9_add 22 = .ok (.iastore, 1) := by decide +kernel
theorem dX9_add_23 : decode cX9_add 23 = .ok (.aload_n 0, 1) := by decide +kernel
theorem dX9_add_24 : decode cX9_add 24 = .ok (.dup, 1) := by decide +kernel
theorem dX9_add_25 : decode cX9_add 25 = .ok (.getfield 15, 3) := by decide +kernel
theorem dX9_add_28 : decode cX9_add 28 = .ok (.iconst 1, 1) := by decide +kernel
theorem dX9_add_29 : decode cX9_add 29 = .ok (.iadd, 1) := by decide +kernel
theorem dX9_add_30 : decode cX9_add 30 = .ok (.putfield 15, 3) := by decide +kernel
theorem dX9_add_33 : decode cX9_add 33 = .ok (.return_, 1) := by decide +kernel
theorem dX9_itemOf_0 : decode cX9_itemOf 0 = .ok (.iload_n 0, 1) := by decide +kernel
theorem dX9_itemOf_1 : decode cX9_itemOf 1 = .ok (.bipush 97, 2) := by decide +kernel
theorem dX9_itemOf_3 : decode cX9_itemOf 3 = .ok (.if_icmp .lt 14, 3) := by decide +kernel
theorem dX9_itemOf_6 : decode cX9_itemOf 6 = .ok (.iload_n 0, 1) := by decide +kernel
theorem dX9_itemOf_7 : decode cX9_itemOf 7 = .ok (.bipush 99, 2) := by decide +kernel
theorem dX9_itemOf_9 : decode cX9_itemOf 9 = .ok (.if_icmp .gt 8, 3) := by decide +kernel
theorem dX9_itemOf_12 : decode cX9_itemOf 12 = .ok (.iload_n 0, 1) := by decide +kernel
theorem dX9_itemOf_13 : decode cX9_itemOf 13 = .ok (.bipush 97, 2) := by decide +kernel
theorem dX9_itemOf_15 : decode cX9_itemOf 15 = .ok (.isub, 1) := by decide +kernel
theorem dX9_itemOf_16 : decode cX9_itemOf 16 = .ok (.ireturn, 1) := by decide +kernel
theorem dX9_itemOf_17 : decode cX9_itemOf 17 = .ok (.iload_n 0, 1) := by decide +kernel
theorem dX9_itemOf_18 : decode cX9_itemOf 18 = .ok (.bipush 119, 2) := by decide +kernel
theorem dX9_itemOf_20 : decode cX9_itemOf 20 = .ok (.if_icmp .lt 16, 3) := by decide +kernel
theorem dX9_itemOf_23 : decode cX9_itemOf 23 = .ok (.iload_n 0, 1) := by decide +kernel
theorem dX9_itemOf_24 : decode cX9_itemOf 24 = .ok (.bipush 122, 2) := by decide +kernel
theorem dX9_itemOf_26 : decode cX9_itemOf 26 = .ok (.if_icmp .gt 10, 3) := by decide +kernel
theorem dX9_itemOf_29 : decode cX9_itemOf 29 = .ok (.iload_n 0, 1) := by decide +kernel
theorem dX9_itemOf_30 : decode cX9_itemOf 30 = .ok (.bipush 119, 2) := by decide +kernel
theorem dX9_itemOf_32 : decode cX9_itemOf 32 = .ok (.isub, 1) := by decide +kernel
theorem dX9_itemOf_33 : decode cX9_itemOf 33 = .ok (.iconst 4, 1) := by decide +kernel
theorem dX9_itemOf_34 : decode cX9_itemOf 34 = .ok (.iadd, 1) := by decide +kernel
theorem dX9_itemOf_35 : decode cX9_itemOf 35 = .ok (.ireturn, 1) := by decide +kernel
theorem dX9_itemOf_36 : decode cX9_itemOf 36 = .ok (.iconst (-1), 1) := by decide +kernel
theorem dX9_itemOf_37 : decode cX9_itemOf 37 = .ok (.ireturn, 1) := by decide +kernel
theorem dX9_firstFault_0 : decode cX9_firstFault 0 = .ok (.iconst 0, 1) := by decide +kernel
theorem dX9_firstFault_1 : decode cX9_firstFault 1 = .ok (.istore_n 1, 1) := by decide +kernel
theorem dX9_firstFault_2 : decode cX9_firstFault 2 = .ok (.iconst 0, 1) := by decide +kernel
theorem dX9_firstFault_3 : decode cX9_firstFault 3 = .ok (.istore_n 2, 1) := by decide +kernel
theorem dX9_firstFault_4 : decode cX9_firstFault 4 = .ok (.iconst 0, 1) := by decide +kernel
theorem dX9_firstFault_5 : decode cX9_firstFault 5 = .ok (.istore_n 3, 1) := by decide +kernel
theorem dX9_firstFault_6 : decode cX9_firstFault 6 = .ok (.iconst 0, 1) := by decide +kernel
theorem dX9_firstFault_7 : decode cX9_firstFault 7 = .ok (.istore 4, 2) := by decide +kernel
theorem dX9_firstFault_9 : decode cX9_firstFault 9 = .ok (.iload 4, 2) := by decide +kernel
theorem dX9_firstFault_11 : decode cX9_firstFault 11 = .ok (.aload_n 0, 1) := by decide +kernel
theorem dX9_firstFault_12 : decode cX9_firstFault 12 = .ok (.getfield 15, 3) := by decide +kernel
theorem dX9_firstFault_15 : decode cX9_firstFault 15 = .ok (.if_icmp .ge 97, 3) := by decide +kernel
theorem dX9_firstFault_18 : decode cX9_firstFault 18 = .ok (.aload_n 0, 1) := by decide +kernel
theorem dX9_firstFault_19 : decode cX9_firstFault 19 = .ok (.getfield 9, 3) := by decide +kernel
theorem dX9_firstFault_22 : decode cX9_firstFault 22 = .ok (.iload 4, 2) := by decide +kernel
theorem dX9_firstFault_24 : decode cX9_firstFault 24 = .ok (.iaload, 1) := by decide +kernel
theorem dX9_firstFault_25 : decode cX9_firstFault 25 = .ok (.istore 5, 2) := by decide +kernel
theorem dX9_firstFault_27 : decode cX9_firstFault 27 = .ok (.iload 5, 2) := by decide +kernel
theorem dX9_firstFault_29 : decode cX9_firstFault 29 = .ok (.bipush 32, 2) := by decide +kernel
theorem dX9_firstFault_31 : decode cX9_firstFault 31 = .ok (.if_icmp .ne 6, 3) := by decide +kernel
theorem dX9_firstFault_34 : decode cX9_firstFault 34 = .ok (.goto 72, 3) := by decide +kernel
theorem dX9_firstFault_37 : decode cX9_firstFault 37 = .ok (.iload 5, 2) := by decide +kernel
theorem dX9_firstFault_39 : decode cX9_firstFault 39 = .ok (.invokestatic 19, 3) := by decide +kernel
theorem dX9_firstFault_42 : decode cX9_firstFault 42 = .ok (.iconst (-1), 1) := by decide +kernel
theorem dX9_firstFault_43 : decode cX9_firstFault 43 = .ok (.if_icmp .eq 15, 3) := by decide +kernel
theorem dX9_firstFault_46 : decode cX9_firstFault 46 = .ok (.iload_n 3, 1) := by decide +kernel
theorem dX9_firstFault_47 : decode cX9_firstFault 47 = .ok (.bipush 12, 2) := by decide +kernel
theorem dX9_firstFault_49 : decode cX9_firstFault 49 = .ok (.if_icmp .ge 9, 3) := by decide +kernel
theorem dX9_firstFault_52 : decode cX9_firstFault 52 = .ok (.iinc 3 1, 3) := by decide +kernel
theorem dX9_firstFault_55 : decode cX9_firstFault 55 = .ok (.goto 51, 3) := by decide +kernel
theorem dX9_firstFault_58 : decode cX9_firstFault 58 = .ok (.iload 5, 2) := by decide +kernel
theorem dX9_firstFault_60 : decode cX9_firstFault 60 = .ok (.bipush 61, 2) := by decide +kernel
theorem dX9_firstFault_62 : decode cX9_firstFault 62 = .ok (.if_icmp .ne 14, 3) := by decide +kernel
theorem dX9_firstFault_65 : decode cX9_firstFault 65 = .ok (.iload_n 2, 1) := by decide +kernel
theorem dX9_firstFault_66 : decode cX9_firstFault 66 = .ok (.ifCond .ne 10, 3) := by decide +kernel
theorem dX9_firstFault_69 : decode cX9_firstFault 69 = .ok (.iconst 1, 1) := by decide +kernel
theorem dX9_firstFault_70 : decode cX9_firstFault 70 = .ok (.istore_n 2, 1) := by decide +kernel
theorem dX9_firstFault_71 : decode cX9_firstFault 71 = .ok (.iconst 0, 1) := by decide +kernel
theorem dX9_firstFault_72 : decode cX9_firstFault 72 = .ok (.istore_n 3, 1) := by decide +kernel
theorem dX9_firstFault_73 : decode cX9_firstFault 73 = .ok (.goto 33, 3) := by decide +kernel
theorem dX9_firstFault_76 : decode cX9_firstFault 76 = .ok (.iload 5, 2) := by decide +kernel
theorem dX9_firstFault_78 : decode cX9_firstFault 78 = .ok (.bipush 59, 2) := by decide +kernel
theorem dX9_firstFault_80 : decode cX9_firstFault 80 = .ok (.if_icmp .ne 23, 3) := by decide +kernel
theorem dX9_firstFault_83 : decode cX9_firstFault 83 = .ok (.iload_n 2, 1) := by decide +kernel
theorem dX9_firstFault_84 : decode cX9_firstFault 84 = .ok (.iconst 1, 1) := by decide +kernel
theorem dX9_firstFault_85 : decode cX9_firstFault 85 = .ok (.if_icmp .ne 18, 3) := by decide +kernel
theorem dX9_firstFault_88 : decode cX9_firstFault 88 = .ok (.iload_n 1, 1) := by decide +kernel
theorem dX9_firstFault_89 : decode cX9_firstFault 89 = .ok (.iconst 3, 1) := by decide +kernel
theorem dX9_firstFault_90 : decode cX9_firstFault 90 = .ok (.if_icmp .ge 13, 3) := by decide +kernel
theorem dX9_firstFault_93 : decode cX9_firstFault 93 = .ok (.iinc 1 1, 3) := by decide +kernel
theorem dX9_firstFault_96 : decode cX9_firstFault 96 = .ok (.iconst 0, 1) := by decide +kernel
theorem dX9_firstFault_97 : decode cX9_firstFault 97 = .ok (.istore_n 2, 1) := by decide +kernel
theorem dX9_firstFault_98 : decode cX9_firstFault 98 = .ok (.iconst 0, 1) := by decide +kernel
theorem dX9_firstFault_99 : decode cX9_firstFault 99 = .ok (.istore_n 3, 1) := by decide +kernel
theorem dX9_firstFault_100 : decode cX9_firstFault 100 = .ok (.goto 6, 3) := by decide +kernel
theorem dX9_firstFault_103 : decode cX9_firstFault 103 = .ok (.iload 4, 2) := by decide +kernel
theorem dX9_firstFault_105 : decode cX9_firstFault 105 = .ok (.ireturn, 1) := by decide +kernel
theorem dX9_firstFault_106 : decode cX9_firstFault 106 = .ok (.iinc 4 1, 3) := by decide +kernel
theorem dX9_firstFault_109 : decode cX9_firstFault 109 = .ok (.goto (-100), 3) := by decide +kernel
theorem dX9_firstFault_112 : decode cX9_firstFault 112 = .ok (.iload_n 2, 1) := by decide +kernel
theorem dX9_firstFault_113 : decode cX9_firstFault 113 = .ok (.iconst 1, 1) := by decide +kernel
theorem dX9_firstFault_114 : decode cX9_firstFault 114 = .ok (.if_icmp .ne 7, 3) := by decide +kernel
theorem dX9_firstFault_117 : decode cX9_firstFault 117 = .ok (.iconst (-1), 1) := by decide +kernel
theorem dX9_firstFault_118 : decode cX9_firstFault 118 = .ok (.goto 7, 3) := by decide +kernel
theorem dX9_firstFault_121 : decode cX9_firstFault 121 = .ok (.aload_n 0, 1) := by decide +kernel
theorem dX9_firstFault_122 : decode cX9_firstFault 122 = .ok (.getfield 15, 3) := by decide +kernel
theorem dX9_firstFault_125 : decode cX9_firstFault 125 = .ok (.ireturn, 1) := by decide +kernel
theorem dX9_tellEquations_0 : decode cX9_tellEquations 0 = .ok (.aload_n 1, 1) := by decide +kernel
theorem dX9_tellEquations_1 : decode cX9_tellEquations 1 = .ok (.invokevirtual 23, 3) := by decide +kernel
theorem dX9_tellEquations_4 : decode cX9_tellEquations 4 = .ok (.iconst 0, 1) := by decide +kernel
theorem dX9_tellEquations_5 : decode cX9_tellEquations 5 = .ok (.istore_n 2, 1) := by decide +kernel
theorem dX9_tellEquations_6 : decode cX9_tellEquations 6 = .ok (.iconst 0, 1) := by decide +kernel
theorem dX9_tellEquations_7 : decode cX9_tellEquations 7 = .ok (.istore_n 3, 1) := by decide +kernel
theorem dX9_tellEquations_8 : decode cX9_tellEquations 8 = .ok (.iload_n 3, 1) := by decide +kernel
theorem dX9_tellEquations_9 : decode cX9_tellEquations 9 = .ok (.aload_n 0, 1) := by decide +kernel
theorem dX9_tellEquations_10 : decode cX9_tellEquations 10 = .ok (.getfield 15, 3) := by decide +kernel
theorem dX9_tellEquations_13 : decode cX9_tellEquations 13 = .ok (.if_icmp .ge 67, 3) := by decide +kernel
theorem dX9_tellEquations_16 : decode cX9_tellEquations 16 = .ok (.aload_n 0, 1) := by decide +kernel
theorem dX9_tellEquations_17 : decode cX9_tellEquations 17 = .ok (.getfield 9, 3) := by decide +kernel
theorem dX9_tellEquations_20 : decode cX9_tellEquations 20 = .ok (.iload_n 3, 1) := by decide +kernel
theorem dX9_tellEquations_21 : decode cX9_tellEquations 21 = .ok (.iaload, 1) := by decide +kernel
theorem dX9_tellEquations_22 : decode cX9_tellEquations 22 = .ok (.istore 4, 2) := by decide +kernel
theorem dX9_tellEquations_24 : decode cX9_tellEquations 24 = .ok (.iload 4, 2) := by decide +kernel
theorem dX9_tellEquations_26 : decode cX9_tellEquations 26 = .ok (.bipush 61, 2) := by decide +kernel
theorem dX9_tellEquations_28 : decode cX9_tellEquations 28 = .ok (.if_icmp .ne 8, 3) := by decide +kernel
theorem dX9_tellEquations_31 : decode cX9_tellEquations 31 = .ok (.iconst 1, 1) := by decide +kernel
theorem dX9_tellEquations_32 : decode cX9_tellEquations 32 = .ok (.istore_n 2, 1) := by decide +kernel
theorem dX9_tellEquations_33 : decode cX9_tellEquations 33 = .ok (.goto 41, 3) := by decide +kernel
theorem dX9_tellEquations_36 : decode cX9_tellEquations 36 = .ok (.iload 4, 2) := by decide +kernel
theorem dX9_tellEquations_38 : decode cX9_tellEquations 38 = .ok (.bipush 59, 2) := by decide +kernel
theorem dX9_tellEquations_40 : decode cX9_tellEquations 40 = .ok (.if_icmp .ne 12, 3) := by decide +kernel
theorem dX9_tellEquations_43 : decode cX9_tellEquations 43 = .ok (.iconst 0, 1) := by decide +kernel
theorem dX9_tellEquations_44 : decode cX9_tellEquations 44 = .ok (.istore_n 2, 1) := by decide +kernel
theorem dX9_tellEquations_45 : decode cX9_tellEquations 45 = .ok (.aload_n 1, 1) := by decide +kernel
theorem dX9_tellEquations_46 : decode cX9_tellEquations 46 = .ok (.invokevirtual 28, 3) := by decide +kernel
theorem dX9_tellEquations_49 : decode cX9_tellEquations 49 = .ok (.goto 25, 3) := by decide +kernel
theorem dX9_tellEquations_52 : decode cX9_tellEquations 52 = .ok (.iload 4, 2) := by decide +kernel
theorem dX9_tellEquations_54 : decode cX9_tellEquations 54 = .ok (.invokestatic 19, 3) := by decide +kernel
theorem dX9_tellEquations_57 : decode cX9_tellEquations 57 = .ok (.iconst (-1), 1) := by decide +kernel
theorem dX9_tellEquations_58 : decode cX9_tellEquations 58 = .ok (.if_icmp .eq 16, 3) := by decide +kernel
theorem dX9_tellEquations_61 : decode cX9_tellEquations 61 = .ok (.aload_n 1, 1) := by decide +kernel
theorem dX9_tellEquations_62 : decode cX9_tellEquations 62 = .ok (.iload_n 2, 1) := by decide +kernel
theorem dX9_tellEquations_63 : decode cX9_tellEquations 63 = .ok (.invokevirtual 31, 3) := by decide +kernel
theorem dX9_tellEquations_66 : decode cX9_tellEquations 66 = .ok (.iload 4, 2) := by decide +kernel
theorem dX9_tellEquations_68 : decode cX9_tellEquations 68 = .ok (.invokestatic 19, 3) := by decide +kernel
theorem dX9_tellEquations_71 : decode cX9_tellEquations 71 = .ok (.invokevirtual 35, 3) := by decide +kernel
theorem dX9_tellEquations_74 : decode cX9_tellEquations 74 = .ok (.iinc 3 1, 3) := by decide +kernel
theorem dX9_tellEquations_77 : decode cX9_tellEquations 77 = .ok (.goto (-69), 3) := by decide +kernel
theorem dX9_tellEquations_80 : decode cX9_tellEquations 80 = .ok (.return_, 1) := by decide +kernel
theorem dX9_isOneSide_0 : decode cX9_isOneSide 0 = .ok (.iconst 0, 1) := by decide +kernel
theorem dX9_isOneSide_1 : decode cX9_isOneSide 1 = .ok (.istore_n 1, 1) := by decide +kernel
theorem dX9_isOneSide_2 : decode cX9_isOneSide 2 = .ok (.iconst 0, 1) := by decide +kernel
theorem dX9_isOneSide_3 : decode cX9_isOneSide 3 = .ok (.istore_n 2, 1) := by decide +kernel
theorem dX9_isOneSide_4 : decode cX9_isOneSide 4 = .ok (.iload_n 2, 1) := by decide +kernel
theorem dX9_isOneSide_5 : decode cX9_isOneSide 5 = .ok (.aload_n 0, 1) := by decide +kernel
theorem dX9_isOneSide_6 : decode cX9_isOneSide 6 = .ok (.getfield 15, 3) := by decide +kernel
theorem dX9_isOneSide_9 : decode cX9_isOneSide 9 = .ok (.if_icmp .ge 41, 3) := by decide +kernel
theorem dX9_isOneSide_12 : decode cX9_isOneSide 12 = .ok (.aload_n 0, 1) := by decide +kernel
theorem dX9_isOneSide_13 : decode cX9_isOneSide 13 = .ok (.getfield 9, 3) := by decide +kernel
theorem dX9_isOneSide_16 : decode cX9_isOneSide 16 = .ok (.iload_n 2, 1) := by decide +kernel
theorem dX9_isOneSide_17 : decode cX9_isOneSide 17 = .ok (.iaload, 1) := by decide +kernel
theorem dX9_isOneSide_18 : decode cX9_isOneSide 18 = .ok (.bipush 32, 2) := by decide +kernel
theorem dX9_isOneSide_20 : decode cX9_isOneSide 20 = .ok (.if_icmp .ne 6, 3) := by decide +kernel
theorem dX9_isOneSide_23 : decode cX9_isOneSide 23 = .ok (.goto 21, 3) := by decide +kernel
theorem dX9_isOneSide_26 : decode cX9_isOneSide 26 = .ok (.aload_n 0, 1) := by decide +kernel
theorem dX9_isOneSide_27 : decode cX9_isOneSide 27 = .ok (.getfield 9, 3) := by decide +kernel
theorem dX9_isOneSide_30 : decode cX9_isOneSide 30 = .ok (.iload_n 2, 1) := by decide +kernel
theorem dX9_isOneSide_31 : decode cX9_isOneSide 31 = .ok (.iaload, 1) := by decide +kernel
theorem dX9_isOneSide_32 : decode cX9_isOneSide 32 = .ok (.invokestatic 19, 3) := by decide +kernel
theorem dX9_isOneSide_35 : decode cX9_isOneSide 35 = .ok (.iconst (-1), 1) := by decide +kernel
theorem dX9_isOneSide_36 : decode cX9_isOneSide 36 = .ok (.if_icmp .ne 5, 3) := by decide +kernel
theorem dX9_isOneSide_39 : decode cX9_isOneSide 39 = .ok (.iconst 0, 1) := by decide +kernel
theorem dX9_isOneSide_40 : decode cX9_isOneSide 40 = .ok (.ireturn, 1) := by decide +kernel
theorem dX9_isOneSide_41 : decode cX9_isOneSide 41 = .ok (.iinc 1 1, 3) := by decide +kernel
theorem dX9_isOneSide_44 : decode cX9_isOneSide 44 = .ok (.iinc 2 1, 3) := by decide +kernel
theorem dX9_isOneSide_47 : decode cX9_isOneSide 47 = .ok (.goto (-43), 3) := by decide +kernel
theorem dX9_isOneSide_50 : decode cX9_isOneSide 50 = .ok (.iload_n 1, 1) := by decide +kernel
theorem dX9_isOneSide_51 : decode cX9_isOneSide 51 = .ok (.iconst 1, 1) := by decide +kernel
theorem dX9_isOneSide_52 : decode cX9_isOneSide 52 = .ok (.if_icmp .lt 13, 3) := by decide +kernel
theorem dX9_isOneSide_55 : decode cX9_isOneSide 55 = .ok (.iload_n 1, 1) := by decide +kernel
theorem dX9_isOneSide_56 : decode cX9_isOneSide 56 = .ok (.bipush 12, 2) := by decide +kernel
theorem dX9_isOneSide_58 : decode cX9_isOneSide 58 = .ok (.if_icmp .gt 7, 3) := by decide +kernel
theorem dX9_isOneSide_61 : decode cX9_isOneSide 61 = .ok (.iconst 1, 1) := by decide +kernel
theorem dX9_isOneSide_62 : decode cX9_isOneSide 62 = .ok (.goto 4, 3) := by decide +kernel
theorem dX9_isOneSide_65 : decode cX9_isOneSide 65 = .ok (.iconst 0, 1) := by decide +kernel
theorem dX9_isOneSide_66 : decode cX9_isOneSide 66 = .ok (.ireturn, 1) := by decide +kernel
theorem dX9_tellSide_0 : decode cX9_tellSide 0 = .ok (.aload_n 1, 1) := by decide +kernel
theorem dX9_tellSide_1 : decode cX9_tellSide 1 = .ok (.invokevirtual 41, 3) := by decide +kernel
theorem dX9_tellSide_4 : decode cX9_tellSide 4 = .ok (.iconst 0, 1) := by decide +kernel
theorem dX9_tellSide_5 : decode cX9_tellSide 5 = .ok (.istore_n 2, 1) := by decide +kernel
theorem dX9_tellSide_6 : decode cX9_tellSide 6 = .ok (.iload_n 2, 1) := by decide +kernel
theorem dX9_tellSide_7 : decode cX9_tellSide 7 = .ok (.aload_n 0, 1) := by decide +kernel
theorem dX9_tellSide_8 : decode cX9_tellSide 8 = .ok (.getfield 15, 3) := by decide +kernel
theorem dX9_tellSide_11 : decode cX9_tellSide 11 = .ok (.if_icmp .ge 35, 3) := by decide +kernel
theorem dX9_tellSide_14 : decode cX9_tellSide 14 = .ok (.aload_n 0, 1) := by decide +kernel
theorem dX9_tellSide_15 : decode cX9_tellSide 15 = .ok (.getfield 9, 3) := by decide +kernel
theorem dX9_tellSide_18 : decode cX9_tellSide 18 = .ok (.iload_n 2, 1) := by decide +kernel
theorem dX9_tellSide_19 : decode cX9_tellSide 19 = .ok (.iaload, 1) := by decide +kernel
theorem dX9_tellSide_20 : decode cX9_tellSide 20 = .ok (.invokestatic 19, 3) := by decide +kernel
theorem dX9_tellSide_23 : decode cX9_tellSide 23 = .ok (.iconst (-1), 1) := by decide +kernel
theorem dX9_tellSide_24 : decode cX9_tellSide 24 = .ok (.if_icmp .eq 16, 3) := by decide +kernel
theorem dX9_tellSide_27 : decode cX9_tellSide 27 = .ok (.aload_n 1, 1) := by decide +kernel
theorem dX9_tellSide_28 : decode cX9_tellSide 28 = .ok (.aload_n 0, 1) := by decide +kernel
theorem dX9_tellSide_29 : decode cX9_tellSide 29 = .ok (.getfield 9, 3) := by decide +kernel
theorem dX9_tellSide_32 : decode cX9_tellSide 32 = .ok (.iload_n 2, 1) := by decide +kernel
theorem dX9_tellSide_33 : decode cX9_tellSide 33 = .ok (.iaload, 1) := by decide +kernel
theorem dX9_tellSide_34 : decode cX9_tellSide 34 = .ok (.invokestatic 19, 3) := by decide +kernel
theorem dX9_tellSide_37 : decode cX9_tellSide 37 = .ok (.invokevirtual 35, 3) := by decide +kernel
theorem dX9_tellSide_40 : decode cX9_tellSide 40 = .ok (.iinc 2 1, 3) := by decide +kernel
theorem dX9_tellSide_43 : decode cX9_tellSide 43 = .ok (.goto (-37), 3) := by decide +kernel
theorem dX9_tellSide_46 : decode cX9_tellSide 46 = .ok (.return_, 1) := by decide +kernel
theorem dX10_init_0 : decode cX10_init 0 = .ok (.aload_n 0, 1) := by decide +kernel
theorem dX10_init_1 : decode cX10_init 1 = .ok (.invokespecial 3, 3) := by decide +kernel
theorem dX10_init_4 : decode cX10_init 4 = .ok (.aload_n 0, 1) := by decide +kernel
theorem dX10_init_5 : decode cX10_init 5 = .ok (.bipush 30, 2) := by decide +kernel
theorem dX10_init_7 : decode cX10_init 7 = .ok (.newarray .int, 2) := by decide +kernel
theorem dX10_init_9 : decode cX10_init 9 = .ok (.putfield 11, 3) := by decide +kernel
theorem dX10_init_12 : decode cX10_init 12 = .ok (.aload_n 0, 1) := by decide +kernel
theorem dX10_init_13 : decode cX10_init 13 = .ok (.iconst 0, 1) := by decide +kernel
theorem dX10_init_14 : decode cX10_init 14 = .ok (.putfield 15, 3) := by decide +kernel
theorem dX10_init_17 : decode cX10_init 17 = .ok (.return_, 1) := by decide +kernel
theorem dX10_become_0 : decode cX10_become 0 = .ok (.aload_n 0, 1) := by decide +kernel
theorem dX10_become_1 : decode cX10_become 1 = .ok (.iconst 0, 1) := by decide +kernel
theorem dX10_become_2 : decode cX10_become 2 = .ok (.iload_n 3, 1) := by decide +kernel
theorem dX10_become_3 : decode cX10_become 3 = .ok (.bipush 30, 2) := by decide +kernel
theorem dX10_become_5 : decode cX10_become 5 = .ok (.invokestatic 19, 3) := by decide +kernel
theorem dX10_become_8 : decode cX10_become 8 = .ok (.invokestatic 25, 3) := by decide +kernel
theorem dX10_become_11 : decode cX10_become 11 = .ok (.putfield 15, 3) := by decide +kernel
theorem dX10_become_14 : decode cX10_become 14 = .ok (.iconst 0, 1) := by decide +kernel
theorem dX10_become_15 : decode cX10_become 15 = .ok (.istore 4, 2) := by decide +kernel
theorem dX10_become_17 : decode cX10_become 17 = .ok (.iload 4, 2) := by decide +kernel
theorem dX10_become_19 : decode cX10_become 19 = .ok (.aload_n 0, 1) := by decide +kernel
theorem dX10_become_20 : decode cX10_become 20 = .ok (.getfield 15, 3) := by decide +kernel
theorem dX10_become_23 : decode cX10_become 23 = .ok (.if_icmp .ge 22, 3) := by decide +kernel
theorem dX10_become_26 : decode cX10_become 26 = .ok (.aload_n 0, 1) := by decide +kernel
theorem dX10_become_27 : decode cX10_become 27 = .ok (.getfield 11, 3) := by decide +kernel
theorem dX10_become_30 : decode cX10_become 30 = .ok (.iload 4, 2) := by decide +kernel
theorem dX10_become_32 : decode cX10_become 32 = .ok (.lload_n 1, 1) := by decide +kernel
theorem dX10_become_33 : decode cX10_become 33 = .ok (.iload 4, 2) := by decide +kernel
theorem dX10_become_35 : decode cX10_become 35 = .ok (.invokestatic 28, 3) := by decide +kernel
theorem dX10_become_38 : decode cX10_become 38 = .ok (.iastore, 1) := by decide +kernel
theorem dX10_become_39 : decode cX10_become 39 = .ok (.iinc 4 1, 3) := by decide +kernel
theorem dX10_become_42 : decode cX10_become 42 = .ok (.goto (-25), 3) := by decide +kernel
theorem dX10_become_45 : decode cX10_become 45 = .ok (.return_, 1) := by decide +kernel
theorem dX10_length_0 : decode cX10_length 0 = .ok (.aload_n 0, 1) := by decide +kernel
theorem dX10_length_1 : decode cX10_length 1 = .ok (.getfield 15, 3) := by decide +kernel
theorem dX10_length_4 : decode cX10_length 4 = .ok (.ireturn, 1) := by decide +kernel
theorem dX10_hasPeriod_0 : decode cX10_hasPeriod 0 = .ok (.iconst 0, 1) := by decide +kernel
theorem dX10_hasPeriod_1 : decode cX10_hasPeriod 1 = .ok (.istore_n 2, 1) := by decide +kernel
theorem dX10_hasPeriod_2 : decode cX10_hasPeriod 2 = .ok (.iload_n 2, 1) := by decide +kernel
theorem dX10_hasPeriod_3 : decode cX10_hasPeriod 3 = .ok (.iload_n 1, 1) := by decide +kernel
theorem dX10_hasPeriod_4 : decode cX10_hasPeriod 4 = .ok (.iadd, 1) := by decide +kernel
theorem dX10_hasPeriod_5 : decode cX10_hasPeriod 5 = .ok (.aload_n 0, 1) := by decide +kernel
theorem dX10_hasPeriod_6 : decode cX10_hasPeriod 6 = .ok (.getfield 15, 3) := by decide +kernel
theorem dX10_hasPeriod_9 : decode cX10_hasPeriod 9 = .ok (.if_icmp .ge 28, 3) := by decide +kernel
theorem dX10_hasPeriod_12 : decode cX10_hasPeriod 12 = .ok (.aload_n 0, 1) := by decide +kernel
theorem dX10_hasPeriod_13 : decode cX10_hasPeriod 13 = .ok (.getfield 11, 3) := by decide +kernel
theorem dX10_hasPeriod_16 : decode cX10_hasPeriod 16 = .ok (.iload_n 2, 1) := by decide +kernel
theorem dX10_hasPeriod_17 : decode cX10_hasPeriod 17 = .ok (.iaload, 1) := by decide +kernel
theorem dX10_hasPeriod_18 : decode cX10_hasPeriod 18 = .ok (.aload_n 0, 1) := by decide +kernel
theorem dX10_hasPeriod_19 : decode cX10_hasPeriod 19 = .ok (.getfield 11, 3) := by decide +kernel
theorem dX10_hasPeriod_22 : decode cX10_hasPeriod 22 = .ok (.iload_n 2, 1) := by decide +kernel
theorem dX10_hasPeriod_23 : decode cX10_hasPeriod 23 = .ok (.iload_n 1, 1) := by decide +kernel
theorem dX10_hasPeriod_24 : decode cX10_hasPeriod 24 = .ok (.iadd, 1) := by decide +kernel
theorem dX10_hasPeriod_25 : decode cX10_hasPeriod 25 = .ok (.iaload, 1) := by decide +kernel
theorem dX10_hasPeriod_26 : decode cX10_hasPeriod 26 = .ok (.if_icmp .eq 5, 3) := by decide +kernel
theorem dX10_hasPeriod_29 : decode cX10_hasPeriod 29 = .ok (.iconst 0, 1) := by decide +kernel
theorem dX10_hasPeriod_30 : decode cX10_hasPeriod 30 = .ok (.ireturn, 1) := by decide +kernel
theorem dX10_hasPeriod_31 : decode cX10_hasPeriod 31 = .ok (.iinc 2 1, 3) := by decide +kernel
theorem dX10_hasPeriod_34 : decode cX10_hasPeriod 34 = .ok (.goto (-32), 3) := by decide +kernel
theorem dX10_hasPeriod_37 : decode cX10_hasPeriod 37 = .ok (.iconst 1, 1) := by decide +kernel
theorem dX10_hasPeriod_38 : decode cX10_hasPeriod 38 = .ok (.ireturn, 1) := by decide +kernel
theorem dX10_leastPeriod_0 : decode cX10_leastPeriod 0 = .ok (.iconst 1, 1) := by decide +kernel
theorem dX10_leastPeriod_1 : decode cX10_leastPeriod 1 = .ok (.istore_n 1, 1) := by decide +kernel
theorem dX10_leastPeriod_2 : decode cX10_leastPeriod 2 = .ok (.iload_n 1, 1) := by decide +kernel
theorem dX10_leastPeriod_3 : decode cX10_leastPeriod 3 = .ok (.aload_n 0, 1) := by decide +kernel
theorem dX10_leastPeriod_4 : decode cX10_leastPeriod 4 = .ok (.getfield 15, 3) := by decide +kernel
theorem dX10_leastPeriod_7 : decode cX10_leastPeriod 7 = .ok (.if_icmp .gt 19, 3) := by decide +kernel
theorem dX10_leastPeriod_10 : decode cX10_leastPeriod 10 = .ok (.aload_n 0, 1) := by decide +kernel
theorem dX10_leastPeriod_11 : decode cX10_leastPeriod 11 = .ok (.iload_n 1, 1) := by decide +kernel
theorem dX10_leastPeriod_12 : decode cX10_leastPeriod 12 = .ok (.invokevirtual 32, 3) := by decide +kernel
theorem dX10_leastPeriod_15 : decode cX10_leastPeriod 15 = .ok (.ifCond .eq 5, 3) := by decide +kernel
theorem dX10_leastPeriod_18 : decode cX10_leastPeriod 18 = .ok (.iload_n 1, 1) := by decide +kernel
theorem dX10_leastPeriod_19 : decode cX10_leastPeriod 19 = .ok (.ireturn, 1) := by decide +kernel
theorem dX10_leastPeriod_20 : decode cX10_leastPeriod 20 = .ok (.iinc 1 1, 3) := by decide +kernel
theorem dX10_leastPeriod_23 : decode cX10_leastPeriod 23 = .ok (.goto (-21), 3) := by decide +kernel
theorem dX10_leastPeriod_26 : decode cX10_leastPeriod 26 = .ok (.iconst 0, 1) := by decide +kernel
theorem dX10_leastPeriod_27 : decode cX10_leastPeriod 27 = .ok (.ireturn, 1) := by decide +kernel
theorem dX10_rootLength_0 : decode cX10_rootLength 0 = .ok (.iconst 1, 1) := by decide +kernel
theorem dX10_rootLength_1 : decode cX10_rootLength 1 = .ok (.istore_n 1, 1) := by decide +kernel
theorem dX10_rootLength_2 : decode cX10_rootLength 2 = .ok (.iload_n 1, 1) := by decide +kernel
theorem dX10_rootLength_3 : decode cX10_rootLength 3 = .ok (.aload_n 0, 1) := by decide +kernel
theorem dX10_rootLength_4 : decode cX10_rootLength 4 = .ok (.getfield 15, 3) := by decide +kernel
theorem dX10_rootLength_7 : decode cX10_rootLength 7 = .ok (.if_icmp .gt 28, 3) := by decide +kernel
theorem dX10_rootLength_10 : decode cX10_rootLength 10 = .ok (.aload_n 0, 1) := by decide +kernel
theorem dX10_rootLength_11 : decode cX10_rootLength 11 = .ok (.getfield 15, 3) := by decide +kernel
theorem dX10_rootLength_14 : decode cX10_rootLength 14 = .ok (.iload_n 1, 1) := by decide +kernel
theorem dX10_rootLength_15 : decode cX10_rootLength 15 = .ok (.irem, 1) := by decide +kernel
theorem dX10_rootLength_16 : decode cX10_rootLength 16 = .ok (.ifCond .ne 13, 3) := by decide +kernel
theorem dX10_rootLength_19 : decode cX10_rootLength 19 = .ok (.aload_n 0, 1) := by decide +kernel
theorem dX10_rootLength_20 : decode cX10_rootLength 20 = .ok (.iload_n 1, 1) := by decide +kernel
theorem dX10_rootLength_21 : decode cX10_rootLength 21 = .ok (.invokevirtual 32, 3) := by decide +kernel
theorem dX10_rootLength_24 : decode cX10_rootLength 24 = .ok (.ifCond .eq 5, 3) := by decide +kernel
theorem dX10_rootLength_27 : decode cX10_rootLength 27 = .ok (.iload_n 1, 1) := by decide +kernel
theorem dX10_rootLength_28 : decode cX10_rootLength 28 = .ok (.ireturn, 1) := by decide +kernel
theorem dX10_rootLength_29 : decode cX10_rootLength 29 = .ok (.iinc 1 1, 3) := by decide +kernel
theorem dX10_rootLength_32 : decode cX10_rootLength 32 = .ok (.goto (-30), 3) := by decide +kernel
theorem dX10_rootLength_35 : decode cX10_rootLength 35 = .ok (.iconst 0, 1) := by decide +kernel
theorem dX10_rootLength_36 : decode cX10_rootLength 36 = .ok (.ireturn, 1) := by decide +kernel
theorem dX10_periods_0 : decode cX10_periods 0 = .ok (.iconst 0, 1) := by decide +kernel
theorem dX10_periods_1 : decode cX10_periods 1 = .ok (.istore_n 1, 1) := by decide +kernel
theorem dX10_periods_2 : decode cX10_periods 2 = .ok (.iconst 1, 1) := by decide +kernel
theorem dX10_periods_3 : decode cX10_periods 3 = .ok (.istore_n 2, 1) := by decide +kernel
theorem dX10_periods_4 : decode cX10_periods 4 = .ok (.iload_n 2, 1) := by decide +kernel
theorem dX10_periods_5 : decode cX10_periods 5 = .ok (.aload_n 0, 1) := by decide +kernel
theorem dX10_periods_6 : decode cX10_periods 6 = .ok (.getfield 15, 3) := by decide +kernel
theorem dX10_periods_9 : decode cX10_periods 9 = .ok (.if_icmp .gt 20, 3) := by decide +kernel
theorem dX10_periods_12 : decode cX10_periods 12 = .ok (.aload_n 0, 1) := by decide +kernel
theorem dX10_periods_13 : decode cX10_periods 13 = .ok (.iload_n 2, 1) := by decide +kernel
theorem dX10_periods_14 : decode cX10_periods 14 = .ok (.invokevirtual 32, 3) := by decide +kernel
theorem dX10_periods_17 : decode cX10_periods 17 = .ok (.ifCond .eq 6, 3) := by decide +kernel
theorem dX10_periods_20 : decode cX10_periods 20 = .ok (.iinc 1 1, 3) := by decide +kernel
theorem dX10_periods_23 : decode cX10_periods 23 = .ok (.iinc 2 1, 3) := by decide +kernel
theorem dX10_periods_26 : decode cX10_periods 26 = .ok (.goto (-22), 3) := by decide +kernel
theorem dX10_periods_29 : decode cX10_periods 29 = .ok (.iload_n 1, 1) := by decide +kernel
theorem dX10_periods_30 : decode cX10_periods 30 = .ok (.ireturn, 1) := by decide +kernel
theorem dX10_turnedLetter_0 : decode cX10_turnedLetter 0 = .ok (.iload_n 1, 1) := by decide +kernel
theorem dX10_turnedLetter_1 : decode cX10_turnedLetter 1 = .ok (.iload_n 2, 1) := by decide +kernel
theorem dX10_turnedLetter_2 : decode cX10_turnedLetter 2 = .ok (.iadd, 1) := by decide +kernel
theorem dX10_turnedLetter_3 : decode cX10_turnedLetter 3 = .ok (.aload_n 0, 1) := by decide +kernel
theorem dX10_turnedLetter_4 : decode cX10_turnedLetter 4 = .ok (.getfield 15, 3) := by decide +kernel
theorem dX10_turnedLetter_7 : decode cX10_turnedLetter 7 = .ok (.if_icmp .ge 9, 3) := by decide +kernel
theorem dX10_turnedLetter_10 : decode cX10_turnedLetter 10 = .ok (.iload_n 1, 1) := by decide +kernel
theorem dX10_turnedLetter_11 : decode cX10_turnedLetter 11 = .ok (.iload_n 2, 1) := by decide +kernel
theorem dX10_turnedLetter_12 : decode cX10_turnedLetter 12 = .ok (.iadd, 1) := by decide +kernel
theorem dX10_turnedLetter_13 : decode cX10_turnedLetter 13 = .ok (.goto 11, 3) := by decide +kernel
theorem dX10_turnedLetter_16 : decode cX10_turnedLetter 16 = .ok (.iload_n 1, 1) := by decide +kernel
theorem dX10_turnedLetter_17 : decode cX10_turnedLetter 17 = .ok (.iload_n 2, 1) := by decide +kernel
theorem dX10_turnedLetter_18 : decode cX10_turnedLetter 18 = .ok (.iadd, 1) := by decide +kernel
theorem dX10_turnedLetter_19 : decode cX10_turnedLetter 19 = .ok (.aload_n 0, 1) := by decide +kernel
theorem dX10_turnedLetter_20 : decode cX10_turnedLetter 20 = .ok (.getfield 15, 3) := by decide +kernel
theorem dX10_turnedLetter_23 : decode cX10_turnedLetter 23 = .ok (.isub, 1) := by decide +kernel
theorem dX10_turnedLetter_24 : decode cX10_turnedLetter 24 = .ok (.istore_n 3, 1) := by decide +kernel
theorem dX10_turnedLetter_25 : decode cX10_turnedLetter 25 = .ok (.iload_n 3, 1) := by decide +kernel
theorem dX10_turnedLetter_26 : decode cX10_turnedLetter 26 = .ok (.ifCond .lt 20, 3) := by decide +kernel
theorem dX10_turnedLetter_29 : decode cX10_turnedLetter 29 = .ok (.iload_n 3, 1) := by decide +kernel
theorem dX10_turnedLetter_30 : decode cX10_turnedLetter 30 = .ok (.aload_n 0, 1) := by decide +kernel
theorem dX10_turnedLetter_31 : decode cX10_turnedLetter 31 = .ok (.getfield 15, 3) := by decide +kernel
theorem dX10_turnedLetter_34 : decode cX10_turnedLetter 34 = .ok (.if_icmp .ge 12, 3) := by decide +kernel
theorem dX10_turnedLetter_37 : decode cX10_turnedLetter 37 = .ok (.aload_n 0, 1) := by decide +kernel
theorem dX10_turnedLetter_38 : decode cX10_turnedLetter 38 = .ok (.getfield 11, 3) := by decide +kernel
theorem dX10_turnedLetter_41 : decode cX10_turnedLetter 41 = .ok (.iload_n 3, 1) := by decide +kernel
theorem dX10_turnedLetter_42 : decode cX10_turnedLetter 42 = .ok (.iaload, 1) := by decide +kernel
theorem dX10_turnedLetter_43 : decode cX10_turnedLetter 43 = .ok (.goto 4, 3) := by decide +kernel
theorem dX10_turnedLetter_46 : decode cX10_turnedLetter 46 = .ok (.iconst (-1), 1) := by decide +kernel
theorem dX10_turnedLetter_47 : decode cX10_turnedLetter 47 = .ok (.ireturn, 1) := by decide +kernel
theorem dX10_leastTurn_0 : decode cX10_leastTurn 0 = .ok (.iconst 0, 1) := by decide +kernel
theorem dX10_leastTurn_1 : decode cX10_leastTurn 1 = .ok (.istore_n 1, 1) := by decide +kernel
theorem dX10_leastTurn_2 : decode cX10_leastTurn 2 = .ok (.iconst 1, 1) := by decide +kernel
theorem dX10_leastTurn_3 : decode cX10_leastTurn 3 = .ok (.istore_n 2, 1) := by decide +kernel
theorem dX10_leastTurn_4 : decode cX10_leastTurn 4 = .ok (.iload_n 2, 1) := by decide +kernel
theorem dX10_leastTurn_5 : decode cX10_leastTurn 5 = .ok (.aload_n 0, 1) := by decide +kernel
theorem dX10_leastTurn_6 : decode cX10_leastTurn 6 = .ok (.getfield 15, 3) := by decide +kernel
theorem dX10_leastTurn_9 : decode cX10_leastTurn 9 = .ok (.if_icmp .ge 20, 3) := by decide +kernel
theorem dX10_leastTurn_12 : decode cX10_leastTurn 12 = .ok (.aload_n 0, 1) := by decide +kernel
theorem dX10_leastTurn_13 : decode cX10_leastTurn 13 = .ok (.iload_n 2, 1) := by decide +kernel
theorem dX10_leastTurn_14 : decode cX10_leastTurn 14 = .ok (.iload_n 1, 1) := by decide +kernel
theorem dX10_leastTurn_15 : decode cX10_leastTurn 15 = .ok (.invokevirtual 36, 3) := by decide +kernel
theorem dX10_leastTurn_18 : decode cX10_leastTurn 18 = .ok (.ifCond .eq 5, 3) := by decide +kernel
theorem dX10_leastTurn_21 : decode cX10_leastTurn 21 = .ok (.iload_n 2, 1) := by decide +kernel
theorem dX10_leastTurn_22 : decode cX10_leastTurn 22 = .ok (.istore_n 1, 1) := by decide +kernel
theorem dX10_leastTurn_23 : decode cX10_leastTurn 23 = .ok (.iinc 2 1, 3) := by decide +kernel
theorem dX10_leastTurn_26 : decode cX10_leastTurn 26 = .ok (.goto (-22), 3) := by decide +kernel
theorem dX10_leastTurn_29 : decode cX10_leastTurn 29 = .ok (.iload_n 1, 1) := by decide +kernel
theorem dX10_leastTurn_30 : decode cX10_leastTurn 30 = .ok (.ireturn, 1) := by decide +kernel
theorem dX10_isTurnAhead_0 : decode cX10_isTurnAhead 0 = .ok (.iconst 0, 1) := by decide +kernel
theorem dX10_isTurnAhead_1 : decode cX10_isTurnAhead 1 = .ok (.istore_n 3, 1) := by decide +kernel
theorem dX10_isTurnAhead_2 : decode cX10_isTurnAhead 2 = .ok (.iload_n 3, 1) := by decide +kernel
theorem dX10_isTurnAhead_3 : decode cX10_isTurnAhead 3 = .ok (.aload_n 0, 1) := by decide +kernel
theorem dX10_isTurnAhead_4 : decode cX10_isTurnAhead 4 = .ok (.getfield 15, 3) := by decide +kernel
theorem dX10_isTurnAhead_7 : decode cX10_isTurnAhead 7 = .ok (.if_icmp .ge 40, 3) := by decide +kernel
theorem dX10_isTurnAhead_10 : decode cX10_isTurnAhead 10 = .ok (.aload_n 0, 1) := by decide +kernel
theorem dX10_isTurnAhead_11 : decode cX10_isTurnAhead 11 = .ok (.iload_n 1, 1) := by decide +kernel
theorem dX10_isTurnAhead_12 : decode cX10_isTurnAhead 12 = .ok (.iload_n 3, 1) := by decide +kernel
theorem dX10_isTurnAhead_13 : decode cX10_isTurnAhead 13 = .ok (.invokevirtual 40, 3) := by decide +kernel
theorem dX10_isTurnAhead_16 : decode cX10_isTurnAhead 16 = .ok (.aload_n 0, 1) := by decide +kernel
theorem dX10_isTurnAhead_17 : decode cX10_isTurnAhead 17 = .ok (.iload_n 2, 1) := by decide +kernel
theorem dX10_isTurnAhead_18 : decode cX10_isTurnAhead 18 = .ok (.iload_n 3, 1) := by decide +kernel
theorem dX10_isTurnAhead_19 : decode cX10_isTurnAhead 19 = .ok (.invokevirtual 40, 3) := by decide +kernel
theorem dX10_isTurnAhead_22 : decode cX10_isTurnAhead 22 = .ok (.isub, 1) := by decide +kernel
theorem dX10_isTurnAhead_23 : decode cX10_isTurnAhead 23 = .ok (.istore 4, 2) := by decide +kernel
theorem dX10_isTurnAhead_25 : decode cX10_isTurnAhead 25 = .ok (.iload 4, 2) := by decide +kernel
theorem dX10_isTurnAhead_27 : decode cX10_isTurnAhead 27 = .ok (.ifCond .eq 14, 3) := by decide +kernel
theorem dX10_isTurnAhead_30 : decode cX10_isTurnAhead 30 = .ok (.iload 4, 2) := by decide +kernel
theorem dX10_isTurnAhead_32 : decode cX10_isTurnAhead 32 = .ok (.ifCond .ge 7, 3) := by decide +kernel
theorem dX10_isTurnAhead_35 : decode cX10_isTurnAhead 35 = .ok (.iconst 1, 1) := by decide +kernel
theorem dX10_isTurnAhead_36 : decode cX10_isTurnAhead 36 = .ok (.goto 4, 3) := by decide +kernel
theorem dX10_isTurnAhead_39 : decode cX10_isTurnAhead 39 = .ok (.iconst 0, 1) := by decide +kernel
theorem dX10_isTurnAhead_40 : decode cX10_isTurnAhead 40 = .ok (.ireturn, 1) := by decide +kernel
theorem dX10_isTurnAhead_41 : decode cX10_isTurnAhead 41 = .ok (.iinc 3 1, 3) := by decide +kernel
theorem dX10_isTurnAhead_44 : decode cX10_isTurnAhead 44 = .ok (.goto (-42), 3) := by decide +kernel
theorem dX10_isTurnAhead_47 : decode cX10_isTurnAhead 47 = .ok (.iconst 0, 1) := by decide +kernel
theorem dX10_isTurnAhead_48 : decode cX10_isTurnAhead 48 = .ok (.ireturn, 1) := by decide +kernel
theorem dX10_fallingParts_0 : decode cX10_fallingParts 0 = .ok (.iconst 0, 1) := by decide +kernel
theorem dX10_fallingParts_1 : decode cX10_fallingParts 1 = .ok (.istore_n 1, 1) := by decide +kernel
theorem dX10_fallingParts_2 : decode cX10_fallingParts 2 = .ok (.iconst 0, 1) := by decide +kernel
theorem dX10_fallingParts_3 : decode cX10_fallingParts 3 = .ok (.istore_n 2, 1) := by decide +kernel
theorem dX10_fallingParts_4 : decode cX10_fallingParts 4 = .ok (.iload_n 1, 1) := by decide +kernel
theorem dX10_fallingParts_5 : decode cX10_fallingParts 5 = .ok (.bipush 30, 2) := by decide +kernel
theorem dX10_fallingParts_7 : decode cX10_fallingParts 7 = .ok (.if_icmp .ge 25, 3) := by decide +kernel
theorem dX10_fallingParts_10 : decode cX10_fallingParts 10 = .ok (.iload_n 2, 1) := by decide +kernel
theorem dX10_fallingParts_11 : decode cX10_fallingParts 11 = .ok (.aload_n 0, 1) := by decide +kernel
theorem dX10_fallingParts_12 : decode cX10_fallingParts 12 = .ok (.getfield 15, 3) := by decide +kernel
theorem dX10_fallingParts_15 : decode cX10_fallingParts 15 = .ok (.if_icmp .ge 17, 3) := by decide +kernel
theorem dX10_fallingParts_18 : decode cX10_fallingParts 18 = .ok (.iload_n 2, 1) := by decide +kernel
theorem dX10_fallingParts_19 : decode cX10_fallingParts 19 = .ok (.aload_n 0, 1) := by decide +kernel
theorem dX10_fallingParts_20 : decode cX10_fallingParts 20 = .ok (.iload_n 2, 1) := by decide +kernel
theorem dX10_fallingParts_21 : decode cX10_fallingParts 21 = .ok (.invokevirtual 43, 3) := by decide +kernel
theorem dX10_fallingParts_24 : decode cX10_fallingParts 24 = .ok (.iadd, 1) := by decide +kernel
theorem dX10_fallingParts_25 : decode cX10_fallingParts 25 = .ok (.istore_n 2, 1) := by decide +kernel
theorem dX10_fallingParts_26 : decode cX10_fallingParts 26 = .ok (.iinc 1 1, 3) := by decide +kernel
theorem dX10_fallingParts_29 : decode cX10_fallingParts 29 = .ok (.goto (-25), 3) := by decide +kernel
theorem dX10_fallingParts_32 : decode cX10_fallingParts 32 = .ok (.iload_n 1, 1) := by decide +kernel
theorem dX10_fallingParts_33 : decode cX10_fallingParts 33 = .ok (.ireturn, 1) := by decide +kernel
theorem dX10_fallingPart_0 : decode cX10_fallingPart 0 = .ok (.iconst 0, 1) := by decide +kernel
theorem dX10_fallingPart_1 : decode cX10_fallingPart 1 = .ok (.istore_n 2, 1) := by decide +kernel
theorem dX10_fallingPart_2 : decode cX10_fallingPart 2 = .ok (.iconst 0, 1) := by decide +kernel
theorem dX10_fallingPart_3 : decode cX10_fallingPart 3 = .ok (.istore_n 3, 1) := by decide +kernel
theorem dX10_fallingPart_4 : decode cX10_fallingPart 4 = .ok (.iload_n 3, 1) := by decide +kernel
theorem dX10_fallingPart_5 : decode cX10_fallingPart 5 = .ok (.iload_n 1, 1) := by decide +kernel
theorem dX10_fallingPart_6 : decode cX10_fallingPart 6 = .ok (.if_icmp .ge 31, 3) := by decide +kernel
theorem dX10_fallingPart_9 : decode cX10_fallingPart 9 = .ok (.iload_n 3, 1) := by decide +kernel
theorem dX10_fallingPart_10 : decode cX10_fallingPart 10 = .ok (.bipush 30, 2) := by decide +kernel
theorem dX10_fallingPart_12 : decode cX10_fallingPart 12 = .ok (.if_icmp .ge 25, 3) := by decide +kernel
theorem dX10_fallingPart_15 : decode cX10_fallingPart 15 = .ok (.iload_n 2, 1) := by decide +kernel
theorem dX10_fallingPart_16 : decode cX10_fallingPart 16 = .ok (.aload_n 0, 1) := by decide +kernel
theorem dX10_fallingPart_17 : decode cX10_fallingPart 17 = .ok (.getfield 15, 3) := by decide +kernel
theorem dX10_fallingPart_20 : decode cX10_fallingPart 20 = .ok (.if_icmp .ge 17, 3) := by decide +kernel
theorem dX10_fallingPart_23 : decode cX10_fallingPart 23 = .ok (.iload_n 2, 1) := by decide +kernel
theorem dX10_fallingPart_24 : decode cX10_fallingPart 24 = .ok (.aload_n 0, 1) := by decide +kernel
theorem dX10_fallingPart_25 : decode cX10_fallingPart 25 = .ok (.iload_n 2, 1) := by decide +kernel
theorem dX10_fallingPart_26 : decode cX10_fallingPart 26 = .ok (.invokevirtual 43, 3) := by decide +kernel
theorem dX10_fallingPart_29 : decode cX10_fallingPart 29 = .ok (.iadd, 1) := by decide +kernel
theorem dX10_fallingPart_30 : decode cX10_fallingPart 30 = .ok (.istore_n 2, 1) := by decide +kernel
theorem dX10_fallingPart_31 : decode cX10_fallingPart 31 = .ok (.iinc 3 1, 3) := by decide +kernel
theorem dX10_fallingPart_34 : decode cX10_fallingPart 34 = .ok (.goto (-30), 3) := by decide +kernel
theorem dX10_fallingPart_37 : decode cX10_fallingPart 37 = .ok (.iload_n 2, 1) := by decide +kernel
theorem dX10_fallingPart_38 : decode cX10_fallingPart 38 = .ok (.aload_n 0, 1) := by decide +kernel
theorem dX10_fallingPart_39 : decode cX10_fallingPart 39 = .ok (.getfield 15, 3) := by decide +kernel
theorem dX10_fallingPart_42 : decode cX10_fallingPart 42 = .ok (.if_icmp .ge 11, 3) := by decide +kernel
theorem dX10_fallingPart_45 : decode cX10_fallingPart 45 = .ok (.aload_n 0, 1) := by decide +kernel
theorem dX10_fallingPart_46 : decode cX10_fallingPart 46 = .ok (.iload_n 2, 1) := by decide +kernel
theorem dX10_fallingPart_47 : decode cX10_fallingPart 47 = .ok (.invokevirtual 43, 3) := by decide +kernel
theorem dX10_fallingPart_50 : decode cX10_fallingPart 50 = .ok (.goto 4, 3) := by decide +kernel
theorem dX10_fallingPart_53 : decode cX10_fallingPart 53 = .ok (.iconst (-1), 1) := by decide +kernel
theorem dX10_fallingPart_54 : decode cX10_fallingPart 54 = .ok (.ireturn, 1) := by decide +kernel
theorem dX10_fallingLength_0 : decode cX10_fallingLength 0 = .ok (.iload_n 1, 1) := by decide +kernel
theorem dX10_fallingLength_1 : decode cX10_fallingLength 1 = .ok (.istore_n 2, 1) := by decide +kernel
theorem dX10_fallingLength_2 : decode cX10_fallingLength 2 = .ok (.iload_n 1, 1) := by decide +kernel
theorem dX10_fallingLength_3 : decode cX10_fallingLength 3 = .ok (.iconst 1, 1) := by decide +kernel
theorem dX10_fallingLength_4 : decode cX10_fallingLength 4 = .ok (.iadd, 1) := by decide +kernel
theorem dX10_fallingLength_5 : decode cX10_fallingLength 5 = .ok (.istore_n 3, 1) := by decide +kernel
theorem dX10_fallingLength_6 : decode cX10_fallingLength 6 = .ok (.iload_n 3, 1) := by decide +kernel
theorem dX10_fallingLength_7 : decode cX10_fallingLength 7 = .ok (.aload_n 0, 1) := by decide +kernel
theorem dX10_fallingLength_8 : decode cX10_fallingLength 8 = .ok (.getfield 15, 3) := by decide +kernel
theorem dX10_fallingLength_11 : decode cX10_fallingLength 11 = .ok (.if_icmp .ge 47, 3) := by decide +kernel
theorem dX10_fallingLength_14 : decode cX10_fallingLength 14 = .ok (.aload_n 0, 1) := by decide +kernel
theorem dX10_fallingLength_15 : decode cX10_fallingLength 15 = .ok (.getfield 11, 3) := by decide +kernel
theorem dX10_fallingLength_18 : decode cX10_fallingLength 18 = .ok (.iload_n 2, 1) := by decide +kernel
theorem dX10_fallingLength_19 : decode cX10_fallingLength 19 = .ok (.iaload, 1) := by decide +kernel
theorem dX10_fallingLength_20 : decode cX10_fallingLength 20 = .ok (.aload_n 0, 1) := by decide +kernel
theorem dX10_fallingLength_21 : decode cX10_fallingLength 21 = .ok (.getfield 11, 3) := by decide +kernel
theorem dX10_fallingLength_24 : decode cX10_fallingLength 24 = .ok (.iload_n 3, 1) := by decide +kernel
theorem dX10_fallingLength_25 : decode cX10_fallingLength 25 = .ok (.iaload, 1) := by decide +kernel
theorem dX10_fallingLength_26 : decode cX10_fallingLength 26 = .ok (.if_icmp .gt 32, 3) := by decide +kernel
theorem dX10_fallingLength_29 : decode cX10_fallingLength 29 = .ok (.aload_n 0, 1) := by decide +kernel
theorem dX10_fallingLength_30 : decode cX10_fallingLength 30 = .ok (.getfield 11, 3) := by decide +kernel
theorem dX10_fallingLength_33 : decode cX10_fallingLength 33 = .ok (.iload_n 2, 1) := by decide +kernel
theorem dX10_fallingLength_34 : decode cX10_fallingLength 34 = .ok (.iaload, 1) := by decide +kernel
theorem dX10_fallingLength_35 : decode cX10_fallingLength 35 = .ok (.aload_n 0, 1) := by decide +kernel
theorem dX10_fallingLength_36 : decode cX10_fallingLength 36 = .ok (.getfield 11, 3) := by decide +kernel
theorem dX10_fallingLength_39 : decode cX10_fallingLength 39 = .ok (.iload_n 3, 1) := by decide +kernel
theorem dX10_fallingLength_40 : decode cX10_fallingLength 40 = .ok (.iaload, 1) := by decide +kernel
theorem dX10_fallingLength_41 : decode cX10_fallingLength 41 = .ok (.if_icmp .ge 7, 3) := by decide +kernel
theorem dX10_fallingLength_44 : decode cX10_fallingLength 44 = .ok (.iload_n 1, 1) := by decide +kernel
theorem dX10_fallingLength_45 : decode cX10_fallingLength 45 = .ok (.goto 6, 3) := by decide +kernel
theorem dX10_fallingLength_48 : decode cX10_fallingLength 48 = .ok (.iload_n 2, 1) := by decide +kernel
theorem dX10_fallingLength_49 : decode cX10_fallingLength 49 = .ok (.iconst 1, 1) := by decide +kernel
theorem dX10_fallingLength_50 : decode cX10_fallingLength 50 = .ok (.iadd, 1) := by decide +kernel
theorem dX10_fallingLength_51 : decode cX10_fallingLength 51 = .ok (.istore_n 2, 1) := by decide +kernel
theorem dX10_fallingLength_52 : decode cX10_fallingLength 52 = .ok (.iinc 3 1, 3) := by decide +kernel
theorem dX10_fallingLength_55 : decode cX10_fallingLength 55 = .ok (.goto (-49), 3) := by decide +kernel
theorem dX10_fallingLength_58 : decode cX10_fallingLength 58 = .ok (.iconst 1, 1) := by decide +kernel
theorem dX10_fallingLength_59 : decode cX10_fallingLength 59 = .ok (.iload_n 3, 1) := by decide +kernel
theorem dX10_fallingLength_60 : decode cX10_fallingLength 60 = .ok (.iload_n 2, 1) := by decide +kernel
theorem dX10_fallingLength_61 : decode cX10_fallingLength 61 = .ok (.isub, 1) := by decide +kernel
theorem dX10_fallingLength_62 : decode cX10_fallingLength 62 = .ok (.invokestatic 25, 3) := by decide +kernel
theorem dX10_fallingLength_65 : decode cX10_fallingLength 65 = .ok (.ireturn, 1) := by decide +kernel
theorem dX10_agreesWith_0 : decode cX10_agreesWith 0 = .ok (.aload_n 0, 1) := by decide +kernel
theorem dX10_agreesWith_1 : decode cX10_agreesWith 1 = .ok (.getfield 15, 3) := by decide +kernel
theorem dX10_agreesWith_4 : decode cX10_agreesWith 4 = .ok (.aload_n 1, 1) := by decide +kernel
theorem dX10_agreesWith_5 : decode cX10_agreesWith 5 = .ok (.getfield 15, 3) := by decide +kernel
theorem dX10_agreesWith_8 : decode cX10_agreesWith 8 = .ok (.iadd, 1) := by decide +kernel
theorem dX10_agreesWith_9 : decode cX10_agreesWith 9 = .ok (.istore_n 2, 1) := by decide +kernel
theorem dX10_agreesWith_10 : decode cX10_agreesWith 10 = .ok (.iconst 0, 1) := by decide +kernel
theorem dX10_agreesWith_11 : decode cX10_agreesWith 11 = .ok (.istore_n 3, 1) := by decide +kernel
theorem dX10_agreesWith_12 : decode cX10_agreesWith 12 = .ok (.iload_n 3, 1) := by decide +kernel
theorem dX10_agreesWith_13 : decode cX10_agreesWith 13 = .ok (.iload_n 2, 1) := by decide +kernel
theorem dX10_agreesWith_14 : decode cX10_agreesWith 14 = .ok (.if_icmp .ge 78, 3) := by decide +kernel
theorem dX10_agreesWith_17 : decode cX10_agreesWith 17 = .ok (.iload_n 3, 1) := by decide +kernel
theorem dX10_agreesWith_18 : decode cX10_agreesWith 18 = .ok (.aload_n 0, 1) := by decide +kernel
theorem dX10_agreesWith_19 : decode cX10_agreesWith 19 = .ok (.getfield 15, 3) := by decide +kernel
theorem dX10_agreesWith_22 : decode cX10_agreesWith 22 = .ok (.if_icmp .ge 12, 3) := by decide +kernel
theorem dX10_agreesWith_25 : decode cX10_agreesWith 25 = .ok (.aload_n 0, 1) := by decide +kernel
theorem dX10_agreesWith_26 : decode cX10_agreesWith 26 = .ok (.getfield 11, 3) := by decide +kernel
theorem dX10_agreesWith_29 : decode cX10_agreesWith 29 = .ok (.iload_n 3, 1) := by decide +kernel
theorem dX10_agreesWith_30 : decode cX10_agreesWith 30 = .ok (.iaload, 1) := by decide +kernel
theorem dX10_agreesWith_31 : decode cX10_agreesWith 31 = .ok (.goto 14, 3) := by decide +kernel
theorem dX10_agreesWith_34 : decode cX10_agreesWith 34 = .ok (.aload_n 1, 1) := by decide +kernel
theorem dX10_agreesWith_35 : decode cX10_agreesWith 35 = .ok (.getfield 11, 3) := by decide +kernel
theorem dX10_agreesWith_38 : decode cX10_agreesWith 38 = .ok (.iload_n 3, 1) := by decide +kernel
theorem dX10_agreesWith_39 : decode cX10_agreesWith 39 = .ok (.aload_n 0, 1) := by decide +kernel
theorem dX10_agreesWith_40 : decode cX10_agreesWith 40 = .ok (.getfield 15, 3) := by decide +kernel
theorem dX10_agreesWith_43 : decode cX10_agreesWith 43 = .ok (.isub, 1) := by decide +kernel
theorem dX10_agreesWith_44 : decode cX10_agreesWith 44 = .ok (.iaload, 1) := by decide +kernel
theorem dX10_agreesWith_45 : decode cX10_agreesWith 45 = .ok (.istore 4, 2) := by decide +kernel
theorem dX10_agreesWith_47 : decode cX10_agreesWith 47 = .ok (.iload_n 3, 1) := by decide +kernel
theorem dX10_agreesWith_48 : decode cX10_agreesWith 48 = .ok (.aload_n 1, 1) := by decide +kernel
theorem dX10_agreesWith_49 : decode cX10_agreesWith 49 = .ok (.getfield 15, 3) := by decide +kernel
theorem dX10_agreesWith_52 : decode cX10_agreesWith 52 = .ok (.if_icmp .ge 12, 3) := by decide +kernel
theorem dX10_agreesWith_55 : decode cX10_agreesWith 55 = .ok (.aload_n 1, 1) := by decide +kernel
theorem dX10_agreesWith_56 : decode cX10_agreesWith 56 = .ok (.getfield 11, 3) := by decide +kernel
theorem dX10_agreesWith_59 : decode cX10_agreesWith 59 = .ok (.iload_n 3, 1) := by decide +kernel
theorem dX10_agreesWith_60 : decode cX10_agreesWith 60 = .ok (.iaload, 1) := by decide +kernel
theorem dX10_agreesWith_61 : decode cX10_agreesWith 61 = .ok (.goto 14, 3) := by decide +kernel
theorem dX10_agreesWith_64 : decode cX10_agreesWith 64 = .ok (.aload_n 0, 1) := by decide +kernel
theorem dX10_agreesWith_65 : decode cX10_agreesWith 65 = .ok (.getfield 11, 3) := by decide +kernel
theorem dX10_agreesWith_68 : decode cX10_agreesWith 68 = .ok (.iload_n 3, 1) := by decide +kernel
theorem dX10_agreesWith_69 : decode cX10_agreesWith 69 = .ok (.aload_n 1, 1) := by decide +kernel
theorem dX10_agreesWith_70 : decode cX10_agreesWith 70 = .ok (.getfield 15, 3) := by decide +kernel
theorem dX10_agreesWith_73 : decode cX10_agreesWith 73 = .ok (.isub, 1) := by decide +kernel
theorem dX10_agreesWith_74 : decode cX10_agreesWith 74 = .ok (.iaload, 1) := by decide +kernel
theorem dX10_agreesWith_75 : decode cX10_agreesWith 75 = .ok (.istore 5, 2) := by decide +kernel
theorem dX10_agreesWith_77 : decode cX10_agreesWith 77 = .ok (.iload 4, 2) := by decide +kernel
theorem dX10_agreesWith_79 : decode cX10_agreesWith 79 = .ok (.iload 5, 2) := by decide +kernel
theorem dX10_agreesWith_81 : decode cX10_agreesWith 81 = .ok (.if_icmp .eq 5, 3) := by decide +kernel
theorem dX10_agreesWith_84 : decode cX10_agreesWith 84 = .ok (.iconst 0, 1) := by decide +kernel
theorem dX10_agreesWith_85 : decode cX10_agreesWith 85 = .ok (.ireturn, 1) := by decide +kernel
theorem dX10_agreesWith_86 : decode cX10_agreesWith 86 = .ok (.iinc 3 1, 3) := by decide +kernel
theorem dX10_agreesWith_89 : decode cX10_agreesWith 89 = .ok (.goto (-77), 3) := by decide +kernel
theorem dX10_agreesWith_92 : decode cX10_agreesWith 92 = .ok (.iconst 1, 1) := by decide +kernel
theorem dX10_agreesWith_93 : decode cX10_agreesWith 93 = .ok (.ireturn, 1) := by decide +kernel
theorem dX10_turnInto_0 : decode cX10_turnInto 0 = .ok (.aload_n 0, 1) := by decide +kernel
theorem dX10_turnInto_1 : decode cX10_turnInto 1 = .ok (.getfield 15, 3) := by decide +kernel
theorem dX10_turnInto_4 : decode cX10_turnInto 4 = .ok (.aload_n 1, 1) := by decide +kernel
theorem dX10_turnInto_5 : decode cX10_turnInto 5 = .ok (.getfield 15, 3) := by decide +kernel
theorem dX10_turnInto_8 : decode cX10_turnInto 8 = .ok (.if_icmp .eq 5, 3) := by decide +kernel
theorem dX10_turnInto_11 : decode cX10_turnInto 11 = .ok (.iconst (-1), 1) := by decide +kernel
theorem dX10_turnInto_12 : decode cX10_turnInto 12 = .ok (.ireturn, 1) := by decide +kernel
theorem dX10_turnInto_13 : decode cX10_turnInto 13 = .ok (.aload_n 0, 1) := by decide +kernel
theorem dX10_turnInto_14 : decode cX10_turnInto 14 = .ok (.getfield 15, 3) := by decide +kernel
theorem dX10_turnInto_17 : decode cX10_turnInto 17 = .ok (.ifCond .ne 5, 3) := by decide +kernel
theorem dX10_turnInto_20 : decode cX10_turnInto 20 = .ok (.iconst 0, 1) := by decide +kernel
theorem dX10_turnInto_21 : decode cX10_turnInto 21 = .ok (.ireturn, 1) := by decide +kernel
theorem dX10_turnInto_22 : decode cX10_turnInto 22 = .ok (.iconst 0, 1) := by decide +kernel
theorem dX10_turnInto_23 : decode cX10_turnInto 23 = .ok (.istore_n 2, 1) := by decide +kernel
theorem dX10_turnInto_24 : decode cX10_turnInto 24 = .ok (.iload_n 2, 1) := by decide +kernel
theorem dX10_turnInto_25 : decode cX10_turnInto 25 = .ok (.aload_n 0, 1) := by decide +kernel
theorem dX10_turnInto_26 : decode cX10_turnInto 26 = .ok (.getfield 15, 3) := by decide +kernel
theorem dX10_turnInto_29 : decode cX10_turnInto 29 = .ok (.if_icmp .ge 20, 3) := by decide +kernel
theorem dX10_turnInto_32 : decode cX10_turnInto 32 = .ok (.aload_n 0, 1) := by decide +kernel
theorem dX10_turnInto_33 : decode cX10_turnInto 33 = .ok (.iload_n 2, 1) := by decide +kernel
theorem dX10_turnInto_34 : decode cX10_turnInto 34 = .ok (.aload_n 1, 1) := by decide +kernel
theorem dX10_turnInto_35 : decode cX10_turnInto 35 = .ok (.invokevirtual 47, 3) := by decide +kernel
theorem dX10_turnInto_38 : decode cX10_turnInto 38 = .ok (.ifCond .eq 5, 3) := by decide +kernel
theorem dX10_turnInto_41 : decode cX10_turnInto 41 = .ok (.iload_n 2, 1) := by decide +kernel
theorem dX10_turnInto_42 : decode cX10_turnInto 42 = .ok (.ireturn, 1) := by decide +kernel
theorem dX10_turnInto_43 : decode cX10_turnInto 43 = .ok (.iinc 2 1, 3) := by decide +kernel
theorem dX10_turnInto_46 : decode cX10_turnInto 46 = .ok (.goto (-22), 3) := by decide +kernel
theorem dX10_turnInto_49 : decode cX10_turnInto 49 = .ok (.iconst (-1), 1) := by decide +kernel
theorem dX10_turnInto_50 : decode cX10_turnInto 50 = .ok (.ireturn, 1) := by decide +kernel
theorem dX10_isTurn_0 : decode cX10_isTurn 0 = .ok (.iconst 0, 1) := by decide +kernel
theorem dX10_isTurn_1 : decode cX10_isTurn 1 = .ok (.istore_n 3, 1) := by decide +kernel
theorem dX10_isTurn_2 : decode cX10_isTurn 2 = .ok (.iload_n 3, 1) := by decide +kernel
theorem dX10_isTurn_3 : decode cX10_isTurn 3 = .ok (.aload_n 0, 1) := by decide +kernel
theorem dX10_isTurn_4 : decode cX10_isTurn 4 = .ok (.getfield 15, 3) := by decide +kernel
theorem dX10_isTurn_7 : decode cX10_isTurn 7 = .ok (.if_icmp .ge 34, 3) := by decide +kernel
theorem dX10_isTurn_10 : decode cX10_isTurn 10 = .ok (.iload_n 3, 1) := by decide +kernel
theorem dX10_isTurn_11 : decode cX10_isTurn 11 = .ok (.aload_n 2, 1) := by decide +kernel
theorem dX10_isTurn_12 : decode cX10_isTurn 12 = .ok (.getfield 15, 3) := by decide +kernel
theorem dX10_isTurn_15 : decode cX10_isTurn 15 = .ok (.if_icmp .ge 26, 3) := by decide +kernel
theorem dX10_isTurn_18 : decode cX10_isTurn 18 = .ok (.aload_n 0, 1) := by decide +kernel
theorem dX10_isTurn_19 : decode cX10_isTurn 19 = .ok (.iload_n 1, 1) := by decide +kernel
theorem dX10_isTurn_20 : decode cX10_isTurn 20 = .ok (.iload_n 3, 1) := by decide +kernel
theorem dX10_isTurn_21 : decode cX10_isTurn 21 = .ok (.invokevirtual 40, 3) := by decide +kernel
theorem dX10_isTurn_24 : decode cX10_isTurn 24 = .ok (.aload_n 2, 1) := by decide +kernel
theorem dX10_isTurn_25 : decode cX10_isTurn 25 = .ok (.getfield 11, 3) := by decide +kernel
theorem dX10_isTurn_28 : decode cX10_isTurn 28 = .ok (.iload_n 3, 1) := by decide +kernel
theorem dX10_isTurn_29 : decode cX10_isTurn 29 = .ok (.iaload, 1) := by decide +kernel
theorem dX10_isTurn_30 : decode cX10_isTurn 30 = .ok (.if_icmp .eq 5, 3) := by decide +kernel
theorem dX10_isTurn_33 : decode cX10_isTurn 33 = .ok (.iconst 0, 1) := by decide +kernel
theorem dX10_isTurn_34 : decode cX10_isTurn 34 = .ok (.ireturn, 1) := by decide +kernel
theorem dX10_isTurn_35 : decode cX10_isTurn 35 = .ok (.iinc 3 1, 3) := by decide +kernel
theorem dX10_isTurn_38 : decode cX10_isTurn 38 = .ok (.goto (-36), 3) := by decide +kernel
theorem dX10_isTurn_41 : decode cX10_isTurn 41 = .ok (.iconst 1, 1) := by decide +kernel
theorem dX10_isTurn_42 : decode cX10_isTurn 42 = .ok (.ireturn, 1) := by decide +kernel
theorem dX10_waysBy_0 : decode cX10_waysBy 0 = .ok (.aload_n 1, 1) := by decide +kernel
theorem dX10_waysBy_1 : decode cX10_waysBy 1 = .ok (.aload_n 0, 1) := by decide +kernel
theorem dX10_waysBy_2 : decode cX10_waysBy 2 = .ok (.getfield 11, 3) := by decide +kernel
theorem dX10_waysBy_5 : decode cX10_waysBy 5 = .ok (.aload_n 0, 1) := by decide +kernel
theorem dX10_waysBy_6 : decode cX10_waysBy 6 = .ok (.getfield 15, 3) := by decide +kernel
theorem dX10_waysBy_9 : decode cX10_waysBy 9 = .ok (.invokevirtual 51, 3) := by decide +kernel
theorem dX10_waysBy_12 : decode cX10_waysBy 12 = .ok (.ireturn, 1) := by decide +kernel
theorem dX11_init_0 : decode cX11_init 0 = .ok (.aload_n 0, 1) := by decide +kernel
theorem dX11_init_1 : decode cX11_init 1 = .ok (.invokespecial 1, 3) := by decide +kernel
theorem dX11_init_4 : decode cX11_init 4 = .ok (.aload_n 0, 1) := by decide +kernel
theorem dX11_init_5 : decode cX11_init 5 = .ok (.new 7, 3) := by decide +kernel
theorem dX11_init_8 : decode cX11_init 8 = .ok (.dup, 1) := by decide +kernel
theorem dX11_init_9 : decode cX11_init 9 = .ok (.invokespecial 9, 3) := by decide +kernel
theorem dX11_init_12 : decode cX11_init 12 = .ok (.putfield 10, 3) := by decide +kernel
theorem dX11_init_15 : decode cX11_init 15 = .ok (.aload_n 0, 1) := by decide +kernel
theorem dX11_init_16 : decode cX11_init 16 = .ok (.new 16, 3) := by decide +kernel
theorem dX11_init_19 : decode cX11_init 19 = .ok (.dup, 1) := by decide +kernel
theorem dX11_init_20 : decode cX11_init 20 = .ok (.invokespecial 18, 3) := by decide +kernel
theorem dX11_init_23 : decode cX11_init 23 = .ok (.putfield 19, 3) := by decide +kernel
theorem dX11_init_26 : decode cX11_init 26 = .ok (.aload_n 0, 1) := by decide +kernel
theorem dX11_init_27 : decode cX11_init 27 = .ok (.new 23, 3) := by decide +kernel
theorem dX11_init_30 : decode cX11_init 30 = .ok (.dup, 1) := by decide +kernel
theorem dX11_init_31 : decode cX11_init 31 = .ok (.invokespecial 25, 3) := by decide +kernel
theorem dX11_init_34 : decode cX11_init 34 = .ok (.putfield 26, 3) := by decide +kernel
theorem dX11_init_37 : decode cX11_init 37 = .ok (.aload_n 0, 1) := by decide +kernel
theorem dX11_init_38 : decode cX11_init 38 = .ok (.new 30, 3) := by decide +kernel
theorem dX11_init_41 : decode cX11_init 41 = .ok (.dup, 1) := by decide +kernel
theorem dX11_init_42 : decode cX11_init 42 = .ok (.invokespecial 32, 3) := by decide +kernel
theorem dX11_init_45 : decode cX11_init 45 = .ok (.putfield 33, 3) := by decide +kernel
theorem dX11_init_48 : decode cX11_init 48 = .ok (.aload_n 0, 1) := by decide +kernel
theorem dX11_init_49 : decode cX11_init 49 = .ok (.iconst 4, 1) := by decide +kernel
theorem dX11_init_50 : decode cX11_init 50 = .ok (.anewarray 37, 3) := by decide +kernel
theorem dX11_init_53 : decode cX11_init 53 = .ok (.putfield 39, 3) := by decide +kernel
theorem dX11_init_56 : decode cX11_init 56 = .ok (.aload_n 0, 1) := by decide +kernel
theorem dX11_init_57 : decode cX11_init 57 = .ok (.new 43, 3) := by decide +kernel
theorem dX11_init_60 : decode cX11_init 60 = .ok (.dup, 1) := by decide +kernel
theorem dX11_init_61 : decode cX11_init 61 = .ok (.invokespecial 45, 3) := by decide +kernel
theorem dX11_init_64 : decode cX11_init 64 = .ok (.putfield 46, 3) := by decide +kernel
theorem dX11_init_67 : decode cX11_init 67 = .ok (.aload_n 0, 1) := by decide +kernel
theorem dX11_init_68 : decode cX11_init 68 = .ok (.iconst 4, 1) := by decide +kernel
theorem dX11_init_69 : decode cX11_init 69 = .ok (.anewarray 50, 3) := by decide +kernel
theorem dX11_init_72 : decode cX11_init 72 = .ok (.putfield 52, 3) := by decide +kernel
theorem dX11_init_75 : decode cX11_init 75 = .ok (.aload_n 0, 1) := by decide +kernel
theorem dX11_init_76 : decode cX11_init 76 = .ok (.new 56, 3) := by decide +kernel
theorem dX11_init_79 : decode cX11_init 79 = .ok (.dup, 1) := by decide +kernel
theorem dX11_init_80 : decode cX11_init 80 = .ok (.invokespecial 58, 3) := by decide +kernel
theorem dX11_init_83 : decode cX11_init 83 = .ok (.putfield 59, 3) := by decide +kernel
theorem dX11_init_86 : decode cX11_init 86 = .ok (.iconst 0, 1) := by decide +kernel
theorem dX11_init_87 : decode cX11_init 87 = .ok (.istore_n 1, 1) := by decide +kernel
theorem dX11_init_88 : decode cX11_init 88 = .ok (.iload_n 1, 1) := by decide +kernel
theorem dX11_init_89 : decode cX11_init 89 = .ok (.iconst 4, 1) := by decide +kernel
theorem dX11_init_90 : decode cX11_init 90 = .ok (.if_icmp .ge 35, 3) := by decide +kernel
theorem dX11_init_93 : decode cX11_init 93 = .ok (.aload_n 0, 1) := by decide +kernel
theorem dX11_init_94 : decode cX11_init 94 = .ok (.getfield 39, 3) := by decide +kernel
theorem dX11_init_97 : decode cX11_init 97 = .ok (.iload_n 1, 1) := by decide +kernel
theorem dX11_init_98 : decode cX11_init 98 = .ok (.new 37, 3) := by decide +kernel
theorem dX11_init_101 : decode cX11_init 101 = .ok (.dup, 1) := by decide +kernel
theorem dX11_init_102 : decode cX11_init 102 = .ok (.invokespecial 63, 3) := by decide +kernel
theorem dX11_init_105 : decode cX11_init 105 = .ok (.aastore, 1) := by decide +kernel
theorem dX11_init_106 : decode cX11_init 106 = .ok (.aload_n 0, 1) := by decide +kernel
theorem dX11_init_107 : decode cX11_init 107 = .ok (.getfield 52, 3) := by decide +kernel
theorem dX11_init_110 : decode cX11_init 110 = .ok (.iload_n 1, 1) := by decide +kernel
theorem dX11_init_111 : decode cX11_init 111 = .ok (.new 50, 3) := by decide +kernel
theorem dX11_init_114 : decode cX11_init 114 = .ok (.dup, 1) := by decide +kernel
theorem dX11_init_115 : decode cX11_init 115 = .ok (.invokespecial 64, 3) := by decide +kernel
theorem dX11_init_118 : decode cX11_init 118 = .ok (.aastore, 1) := by decide +kernel
theorem dX11_init_119 : decode cX11_init 119 = .ok (.iinc 1 1, 3) := by decide +kernel
theorem dX11_init_122 : decode cX11_init 122 = .ok (.goto (-34), 3) := by decide +kernel
theorem dX11_init_125 : decode cX11_init 125 = .ok (.return_, 1) := by decide +kernel
theorem dX11_write_0 : decode cX11_write 0 = .ok (.iload_n 3, 1) := by decide +kernel
theorem dX11_write_1 : decode cX11_write 1 = .ok (.iconst 1, 1) := by decide +kernel
theorem dX11_write_2 : decode cX11_write 2 = .ok (.if_icmp .lt 9, 3) := by decide +kernel
theorem dX11_write_5 : decode cX11_write 5 = .ok (.iload_n 3, 1) := by decide +kernel
theorem dX11_write_6 : decode cX11_write 6 = .ok (.bipush 8, 2) := by decide +kernel
theorem dX11_write_8 : decode cX11_write 8 = .ok (.if_icmp .le 6, 3) := by decide +kernel
theorem dX11_write_11 : decode cX11_write 11 = .ok (.bipush (-3), 2) := by decide +kernel
theorem dX11_write_13 : decode cX11_write 13 = .ok (.ireturn, 1) := by decide +kernel
theorem dX11_write_14 : decode cX11_write 14 = .ok (.aload_n 0, 1) := by decide +kernel
theorem dX11_write_15 : decode cX11_write 15 = .ok (.getfield 10, 3) := by decide +kernel
theorem dX11_write_18 : decode cX11_write 18 = .ok (.iload_n 3, 1) := by decide +kernel
theorem dX11_write_19 : decode cX11_write 19 = .ok (.invokevirtual 65, 3) := by decide +kernel
theorem dX11_write_22 : decode cX11_write 22 = .ok (.ifCond .ne 6, 3) := by decide +kernel
theorem dX11_write_25 : decode cX11_write 25 = .ok (.bipush (-5), 2) := by decide +kernel
theorem dX11_write_27 : decode cX11_write 27 = .ok (.ireturn, 1) := by decide +kernel
theorem dX11_write_28 : decode cX11_write 28 = .ok (.iconst 0, 1) := by decide +kernel
theorem dX11_write_29 : decode cX11_write 29 = .ok (.istore 4, 2) := by decide +kernel
theorem dX11_write_31 : decode cX11_write 31 = .ok (.iload 4, 2) := by decide +kernel
theorem dX11_write_33 : decode cX11_write 33 = .ok (.iload_n 3, 1) := by decide +kernel
theorem dX11_write_34 : decode cX11_write 34 = .ok (.if_icmp .ge 28, 3) := by decide +kernel
theorem dX11_write_37 : decode cX11_write 37 = .ok (.aload_n 0, 1) := by decide +kernel
theorem dX11_write_38 : decode cX11_write 38 = .ok (.getfield 10, 3) := by decide +kernel
theorem dX11_write_41 : decode cX11_write 41 = .ok (.lload_n 1, 1) := by decide +kernel
theorem dX11_write_42 : decode cX11_write 42 = .ok (.bipush 8, 2) := by decide +kernel
theorem dX11_write_44 : decode cX11_write 44 = .ok (.iload 4, 2) := by decide +kernel
theorem dX11_write_46 : decode cX11_write 46 = .ok (.imul, 1) := by decide +kernel
theorem dX11_write_47 : decode cX11_write 47 = .ok (.lshr, 1) := by decide +kernel
theorem dX11_write_48 : decode cX11_write 48 = .ok (.ldc2_w 69, 3) := by decide +kernel
theorem dX11_write_51 : decode cX11_write 51 = .ok (.land, 1) := by decide +kernel
theorem dX11_write_52 : decode cX11_write 52 = .ok (.l2i, 1) := by decide +kernel
theorem dX11_write_53 : decode cX11_write 53 = .ok (.invokevirtual 71, 3) := by decide +kernel
theorem dX11_write_56 : decode cX11_write 56 = .ok (.iinc 4 1, 3) := by decide +kernel
theorem dX11_write_59 : decode cX11_write 59 = .ok (.goto (-28), 3) := by decide +kernel
theorem dX11_write_62 : decode cX11_write 62 = .ok (.aload_n 0, 1) := by decide +kernel
theorem dX11_write_63 : decode cX11_write 63 = .ok (.getfield 10, 3) := by decide +kernel
theorem dX11_write_66 : decode cX11_write 66 = .ok (.invokevirtual 75, 3) := by decide +kernel
theorem dX11_write_69 : decode cX11_write 69 = .ok (.ireturn, 1) := by decide +kernel
theorem dX11_erase_0 : decode cX11_erase 0 = .ok (.aload_n 0, 1) := by decide +kernel
theorem dX11_erase_1 : decode cX11_erase 1 = .ok (.getfield 10, 3) := by decide +kernel
theorem dX11_erase_4 : decode cX11_erase 4 = .ok (.invokevirtual 75, 3) := by decide +kernel
theorem dX11_erase_7 : decode cX11_erase 7 = .ok (.istore_n 1, 1) := by decide +kernel
theorem dX11_erase_8 : decode cX11_erase 8 = .ok (.aload_n 0, 1) := by decide +kernel
theorem dX11_erase_9 : decode cX11_erase 9 = .ok (.getfield 10, 3) := by decide +kernel
theorem dX11_erase_12 : decode cX11_erase 12 = .ok (.invokevirtual 79, 3) := by decide +kernel
theorem dX11_erase_15 : decode cX11_erase 15 = .ok (.iload_n 1, 1) := by decide +kernel
theorem dX11_erase_16 : decode cX11_erase 16 = .ok (.ireturn, 1) := by decide +kernel
theorem dX11_fault_0 : decode cX11_fault 0 = .ok (.aload_n 0, 1) := by decide +kernel
theorem dX11_fault_1 : decode cX11_fault 1 = .ok (.getfield 10, 3) := by decide +kernel
theorem dX11_fault_4 : decode cX11_fault 4 = .ok (.invokevirtual 82, 3) := by decide +kernel
theorem dX11_fault_7 : decode cX11_fault 7 = .ok (.ireturn, 1) := by decide +kernel
theorem dX11_take_0 : decode cX11_take 0 = .ok (.aload_n 0, 1) := by decide +kernel
theorem dX11_take_1 : decode cX11_take 1 = .ok (.getfield 10, 3) := by decide +kernel
theorem dX11_take_4 : decode cX11_take 4 = .ok (.invokevirtual 82, 3) := by decide +kernel
theorem dX11_take_7 : decode cX11_take 7 = .ok (.iconst (-1), 1) := by decide +kernel
theorem dX11_take_8 : decode cX11_take 8 = .ok (.if_icmp .eq 6, 3) := by decide +kernel
theorem dX11_take_11 : decode cX11_take 11 = .ok (.bipush (-4), 2) := by decide +kernel
theorem dX11_take_13 : decode cX11_take 13 = .ok (.ireturn, 1) := by decide +kernel
theorem dX11_take_14 : decode cX11_take 14 = .ok (.aload_n 0, 1) := by decide +kernel
theorem dX11_take_15 : decode cX11_take 15 = .ok (.getfield 10, 3) := by decide +kernel
theorem dX11_take_18 : decode cX11_take 18 = .ok (.aload_n 0, 1) := by decide +kernel
theorem dX11_take_19 : decode cX11_take 19 = .ok (.getfield 19, 3) := by decide +kernel
theorem dX11_take_22 : decode cX11_take 22 = .ok (.invokevirtual 85, 3) := by decide +kernel
theorem dX11_take_25 : decode cX11_take 25 = .ok (.aload_n 0, 1) := by decide +kernel
theorem dX11_take_26 : decode cX11_take 26 = .ok (.getfield 10, 3) := by decide +kernel
theorem dX11_take_29 : decode cX11_take 29 = .ok (.invokevirtual 79, 3) := by decide +kernel
theorem dX11_take_32 : decode cX11_take 32 = .ok (.aload_n 0, 1) := by decide +kernel
theorem dX11_take_33 : decode cX11_take 33 = .ok (.getfield 26, 3) := by decide +kernel
theorem dX11_take_36 : decode cX11_take 36 = .ok (.invokevirtual 89, 3) := by decide +kernel
theorem dX11_take_39 : decode cX11_take 39 = .ok (.aload_n 0, 1) := by decide +kernel
theorem dX11_take_40 : decode cX11_take 40 = .ok (.getfield 33, 3) := by decide +kernel
theorem dX11_take_43 : decode cX11_take 43 = .ok (.invokevirtual 92, 3) := by decide +kernel
theorem dX11_take_46 : decode cX11_take 46 = .ok (.aload_n 0, 1) := by decide +kernel
theorem dX11_take_47 : decode cX11_take 47 = .ok (.getfield 19, 3) := by decide +kernel
theorem dX11_take_50 : decode cX11_take 50 = .ok (.invokevirtual 93, 3) := by decide +kernel
theorem dX11_take_53 : decode cX11_take 53 = .ok (.ireturn, 1) := by decide +kernel
theorem dX11_item_0 : decode cX11_item 0 = .ok (.aload_n 0, 1) := by decide +kernel
theorem dX11_item_1 : decode cX11_item 1 = .ok (.getfield 19, 3) := by decide +kernel
theorem dX11_item_4 : decode cX11_item 4 = .ok (.iload_n 1, 1) := by decide +kernel
theorem dX11_item_5 : decode cX11_item 5 = .ok (.invokevirtual 94, 3) := by decide +kernel
theorem dX11_item_8 : decode cX11_item 8 = .ok (.ifCond .ne 6, 3) := by decide +kernel
theorem dX11_item_11 : decode cX11_item 11 = .ok (.bipush (-2), 2) := by decide +kernel
theorem dX11_item_13 : decode cX11_item 13 = .ok (.ireturn, 1) := by decide +kernel
theorem dX11_item_14 : decode cX11_item 14 = .ok (.iload_n 2, 1) := by decide +kernel
theorem dX11_item_15 : decode cX11_item 15 = .ok (.ifCond .lt 12, 3) := by decide +kernel
theorem dX11_item_18 : decode cX11_item 18 = .ok (.iload_n 2, 1) := by decide +kernel
theorem dX11_item_19 : decode cX11_item 19 = .ok (.iconst 1, 1) := by decide +kernel
theorem dX11_item_20 : decode cX11_item 20 = .ok (.if_icmp .gt 7, 3) := by decide +kernel
theorem dX11_item_23 : decode cX11_item 23 = .ok (.iload_n 3, 1) := by decide +kernel
theorem dX11_item_24 : decode cX11_item 24 = .ok (.ifCond .ge 6, 3) := by decide +kernel
theorem dX11_item_27 : decode cX11_item 27 = .ok (.bipush (-3), 2) := by decide +kernel
theorem dX11_item_29 : decode cX11_item 29 = .ok (.ireturn, 1) := by decide +kernel
theorem dX11_item_30 : decode cX11_item 30 = .ok (.aload_n 0, 1) := by decide +kernel
theorem dX11_item_31 : decode cX11_item 31 = .ok (.getfield 19, 3) := by decide +kernel
theorem dX11_item_34 : decode cX11_item 34 = .ok (.iload_n 1, 1) := by decide +kernel
theorem dX11_item_35 : decode cX11_item 35 = .ok (.iload_n 2, 1) := by decide +kernel
theorem dX11_item_36 : decode cX11_item 36 = .ok (.invokevirtual 97, 3) := by decide +kernel
theorem dX11_item_39 : decode cX11_item 39 = .ok (.iload_n 3, 1) := by decide +kernel
theorem dX11_item_40 : decode cX11_item 40 = .ok (.invokevirtual 101, 3) := by decide +kernel
theorem dX11_item_43 : decode cX11_item 43 = .ok (.ireturn, 1) := by decide +kernel
theorem dX11_bounds_0 : decode cX11_bounds 0 = .ok (.iload_n 1, 1) := by decide +kernel
theorem dX11_bounds_1 : decode cX11_bounds 1 = .ok (.invokestatic 105, 3) := by decide +kernel
theorem dX11_bounds_4 : decode cX11_bounds 4 = .ok (.ifCond .eq 6, 3) := by decide +kernel
theorem dX11_bounds_7 : decode cX11_bounds 7 = .ok (.bipush (-2), 2) := by decide +kernel
theorem dX11_bounds_9 : decode cX11_bounds 9 = .ok (.ireturn, 1) := by decide +kernel
theorem dX11_bounds_10 : decode cX11_bounds 10 = .ok (.iload_n 2, 1) := by decide +kernel
theorem dX11_bounds_11 : decode cX11_bounds 11 = .ok (.ifCond .lt 14, 3) := by decide +kernel
theorem dX11_bounds_14 : decode cX11_bounds 14 = .ok (.iload_n 3, 1) := by decide +kernel
theorem dX11_bounds_15 : decode cX11_bounds 15 = .ok (.bipush 8, 2) := by decide +kernel
theorem dX11_bounds_17 : decode cX11_bounds 17 = .ok (.if_icmp .gt 8, 3) := by decide +kernel
theorem dX11_bounds_20 : decode cX11_bounds 20 = .ok (.iload_n 2, 1) := by decide +kernel
theorem dX11_bounds_21 : decode cX11_bounds 21 = .ok (.iload_n 3, 1) := by decide +kernel
theorem dX11_bounds_22 : decode cX11_bounds 22 = .ok (.if_icmp .le 6, 3) := by decide +kernel
theorem dX11_bounds_25 : decode cX11_bounds 25 = .ok (.bipush (-3), 2) := by decide +kernel
theorem dX11_bounds_27 : decode cX11_bounds 27 = .ok (.ireturn, 1) := by decide +kernel
theorem dX11_bounds_28 : decode cX11_bounds 28 = .ok (.iload 4, 2) := by decide +kernel
theorem dX11_bounds_30 : decode cX11_bounds 30 = .ok (.ifCond .lt 10, 3) := by decide +kernel
theorem dX11_bounds_33 : decode cX11_bounds 33 = .ok (.iload 4, 2) := by decide +kernel
theorem dX11_bounds_35 : decode cX11_bounds 35 = .ok (.bipush 7, 2) := by decide +kernel
theorem dX11_bounds_37 : decode cX11_bounds 37 = .ok (.if_icmp .le 6, 3) := by decide +kernel
theorem dX11_bounds_40 : decode cX11_bounds 40 = .ok (.bipush (-3), 2) := by decide +kernel
theorem dX11_bounds_42 : decode cX11_bounds 42 = .ok (.ireturn, 1) := by decide +kernel
theorem dX11_bounds_43 : decode cX11_bounds 43 = .ok (.aload_n 0, 1) := by decide +kernel
theorem dX11_bounds_44 : decode cX11_bounds 44 = .ok (.getfield 26, 3) := by decide +kernel
theorem dX11_bounds_47 : decode cX11_bounds 47 = .ok (.iload_n 1, 1) := by decide +kernel
theorem dX11_bounds_48 : decode cX11_bounds 48 = .ok (.iload_n 2, 1) := by decide +kernel
theorem dX11_bounds_49 : decode cX11_bounds 49 = .ok (.iload_n 3, 1) := by decide +kernel
theorem dX11_bounds_50 : decode cX11_bounds 50 = .ok (.iload 4, 2) := by decide +kernel
theorem dX11_bounds_52 : decode cX11_bounds 52 = .ok (.invokevirtual 108, 3) := by decide +kernel
theorem dX11_bounds_55 : decode cX11_bounds 55 = .ok (.iconst 1, 1) := by decide +kernel
theorem dX11_bounds_56 : decode cX11_bounds 56 = .ok (.ireturn, 1) := by decide +kernel
theorem dX11_answers_0 : decode cX11_answers 0 = .ok (.aload_n 0, 1) := by decide +kernel
theorem dX11_answers_1 : decode cX11_answers 1 = .ok (.getfield 26, 3) := by decide +kernel
theorem dX11_answers_4 : decode cX11_answers 4 = .ok (.aload_n 0, 1) := by decide +kernel
theorem dX11_answers_5 : decode cX11_answers 5 = .ok (.getfield 19, 3) := by decide +kernel
theorem dX11_answers_8 : decode cX11_answers 8 = .ok (.invokevirtual 112, 3) := by decide +kernel
theorem dX11_answers_11 : decode cX11_answers 11 = .ok (.aload_n 0, 1) := by decide +kernel
theorem dX11_answers_12 : decode cX11_answers 12 = .ok (.getfield 26, 3) := by decide +kernel
theorem dX11_answers_15 : decode cX11_answers 15 = .ok (.invokevirtual 115, 3) := by decide +kernel
theorem dX11_answers_18 : decode cX11_answers 18 = .ok (.invokestatic 119, 3) := by decide +kernel
theorem dX11_answers_21 : decode cX11_answers 21 = .ok (.ireturn, 1) := by decide +kernel
theorem dX11_answer_0 : decode cX11_answer 0 = .ok (.iload_n 2, 1) := by decide +kernel
theorem dX11_answer_1 : decode cX11_answer 1 = .ok (.invokestatic 105, 3) := by decide +kernel
theorem dX11_answer_4 : decode cX11_answer 4 = .ok (.ifCond .eq 6, 3) := by decide +kernel
theorem dX11_answer_7 : decode cX11_answer 7 = .ok (.bipush (-2), 2) := by decide +kernel
theorem dX11_answer_9 : decode cX11_answer 9 = .ok (.ireturn, 1) := by decide +kernel
theorem dX11_answer_10 : decode cX11_answer 10 = .ok (.iload_n 1, 1) := by decide +kernel
theorem dX11_answer_11 : decode cX11_answer 11 = .ok (.ifCond .lt 14, 3) := by decide +kernel
theorem dX11_answer_14 : decode cX11_answer 14 = .ok (.iload_n 1, 1) := by decide +kernel
theorem dX11_answer_15 : decode cX11_answer 15 = .ok (.ldc 123, 2) := by decide +kernel
theorem dX11_answer_17 : decode cX11_answer 17 = .ok (.if_icmp .gt 8, 3) := by decide +kernel
theorem dX11_answer_20 : decode cX11_answer 20 = .ok (.iload_n 3, 1) := by decide +kernel
theorem dX11_answer_21 : decode cX11_answer 21 = .ok (.iconst (-1), 1) := by decide +kernel
theorem dX11_answer_22 : decode cX11_answer 22 = .ok (.if_icmp .ge 6, 3) := by decide +kernel
theorem dX11_answer_25 : decode cX11_answer 25 = .ok (.bipush (-3), 2) := by decide +kernel
theorem dX11_answer_27 : decode cX11_answer 27 = .ok (.ireturn, 1) := by decide +kernel
theorem dX11_answer_28 : decode cX11_answer 28 = .ok (.aload_n 0, 1) := by decide +kernel
theorem dX11_answer_29 : decode cX11_answer 29 = .ok (.getfield 26, 3) := by decide +kernel
theorem dX11_answer_32 : decode cX11_answer 32 = .ok (.aload_n 0, 1) := by decide +kernel
theorem dX11_answer_33 : decode cX11_answer 33 = .ok (.getfield 19, 3) := by decide +kernel
theorem dX11_answer_36 : decode cX11_answer 36 = .ok (.invokevirtual 112, 3) := by decide +kernel
theorem dX11_answer_39 : decode cX11_answer 39 = .ok (.aload_n 0, 1) := by decide +kernel
theorem dX11_answer_40 : decode cX11_answer 40 = .ok (.getfield 26, 3) := by decide +kernel
theorem dX11_answer_43 : decode cX11_answer 43 = .ok (.aload_n 0, 1) := by decide +kernel
theorem dX11_answer_44 : decode cX11_answer 44 = .ok (.getfield 19, 3) := by decide +kernel
theorem dX11_answer_47 : decode cX11_answer 47 = .ok (.iload_n 1, 1) := by decide +kernel
theorem dX11_answer_48 : decode cX11_answer 48 = .ok (.iload_n 2, 1) := by decide +kernel
theorem dX11_answer_49 : decode cX11_answer 49 = .ok (.iload_n 3, 1) := by decide +kernel
theorem dX11_answer_50 : decode cX11_answer 50 = .ok (.invokevirtual 124, 3) := by decide +kernel
theorem dX11_answer_53 : decode cX11_answer 53 = .ok (.ireturn, 1) := by decide +kernel
theorem dX11_tell_0 : decode cX11_tell 0 = .ok (.iload_n 1, 1) := by decide +kernel
theorem dX11_tell_1 : decode cX11_tell 1 = .ok (.invokestatic 105, 3) := by decide +kernel
theorem dX11_tell_4 : decode cX11_tell 4 = .ok (.ifCond .eq 6, 3) := by decide +kernel
theorem dX11_tell_7 : decode cX11_tell 7 = .ok (.bipush (-2), 2) := by decide +kernel
theorem dX11_tell_9 : decode cX11_tell 9 = .ok (.ireturn, 1) := by decide +kernel
theorem dX11_tell_10 : decode cX11_tell 10 = .ok (.iload_n 3, 1) := by decide +kernel
theorem dX11_tell_11 : decode cX11_tell 11 = .ok (.ifCond .lt 18, 3) := by decide +kernel
theorem dX11_tell_14 : decode cX11_tell 14 = .ok (.iload_n 3, 1) := by decide +kernel
theorem dX11_tell_15 : decode cX11_tell 15 = .ok (.bipush 8, 2) := by decide +kernel
theorem dX11_tell_17 : decode cX11_tell 17 = .ok (.if_icmp .gt 12, 3) := by decide +kernel
theorem dX11_tell_20 : decode cX11_tell 20 = .ok (.iload_n 2, 1) := by decide +kernel
theorem dX11_tell_21 : decode cX11_tell 21 = .ok (.i2l, 1) := by decide +kernel
theorem dX11_tell_22 : decode cX11_tell 22 = .ok (.iload_n 3, 1) := by decide +kernel
theorem dX11_tell_23 : decode cX11_tell 23 = .ok (.invokestatic 128, 3) := by decide +kernel
theorem dX11_tell_26 : decode cX11_tell 26 = .ok (.ifCond .eq 6, 3) := by decide +kernel
theorem dX11_tell_29 : decode cX11_tell 29 = .ok (.bipush (-3), 2) := by decide +kernel
theorem dX11_tell_31 : decode cX11_tell 31 = .ok (.ireturn, 1) := by decide +kernel
theorem dX11_tell_32 : decode cX11_tell 32 = .ok (.aload_n 0, 1) := by decide +kernel
theorem dX11_tell_33 : decode cX11_tell 33 = .ok (.getfield 26, 3) := by decide +kernel
theorem dX11_tell_36 : decode cX11_tell 36 = .ok (.iload_n 1, 1) := by decide +kernel
theorem dX11_tell_37 : decode cX11_tell 37 = .ok (.iload_n 2, 1) := by decide +kernel
theorem dX11_tell_38 : decode cX11_tell 38 = .ok (.iload_n 3, 1) := by decide +kernel
theorem dX11_tell_39 : decode cX11_tell 39 = .ok (.invokevirtual 132, 3) := by decide +kernel
theorem dX11_tell_42 : decode cX11_tell 42 = .ok (.iconst 1, 1) := by decide +kernel
theorem dX11_tell_43 : decode cX11_tell 43 = .ok (.ireturn, 1) := by decide +kernel
theorem dX11_rank_0 : decode cX11_rank 0 = .ok (.aload_n 0, 1) := by decide +kernel
theorem dX11_rank_1 : decode cX11_rank 1 = .ok (.getfield 26, 3) := by decide +kernel
theorem dX11_rank_4 : decode cX11_rank 4 = .ok (.aload_n 0, 1) := by decide +kernel
theorem dX11_rank_5 : decode cX11_rank 5 = .ok (.getfield 19, 3) := by decide +kernel
theorem dX11_rank_8 : decode cX11_rank 8 = .ok (.invokevirtual 112, 3) := by decide +kernel
theorem dX11_rank_11 : decode cX11_rank 11 = .ok (.aload_n 0, 1) := by decide +kernel
theorem dX11_rank_12 : decode cX11_rank 12 = .ok (.getfield 26, 3) := by decide +kernel
theorem dX11_rank_15 : decode cX11_rank 15 = .ok (.aload_n 0, 1) := by decide +kernel
theorem dX11_rank_16 : decode cX11_rank 16 = .ok (.getfield 19, 3) := by decide +kernel
theorem dX11_rank_19 : decode cX11_rank 19 = .ok (.invokevirtual 136, 3) := by decide +kernel
theorem dX11_rank_22 : decode cX11_rank 22 = .ok (.invokestatic 119, 3) := by decide +kernel
theorem dX11_rank_25 : decode cX11_rank 25 = .ok (.ireturn, 1) := by decide +kernel
theorem dX11_sure_0 : decode cX11_sure 0 = .ok (.iload_n 1, 1) := by decide +kernel
theorem dX11_sure_1 : decode cX11_sure 1 = .ok (.invokestatic 105, 3) := by decide +kernel
theorem dX11_sure_4 : decode cX11_sure 4 = .ok (.ifCond .eq 6, 3) := by decide +kernel
theorem dX11_sure_7 : decode cX11_sure 7 = .ok (.bipush (-2), 2) := by decide +kernel
theorem dX11_sure_9 : decode cX11_sure 9 = .ok (.ireturn, 1) := by decide +kernel
theorem dX11_sure_10 : decode cX11_sure 10 = .ok (.iload_n 2, 1) := by decide +kernel
theorem dX11_sure_11 : decode cX11_sure 11 = .ok (.ifCond .lt 9, 3) := by decide +kernel
theorem dX11_sure_14 : decode cX11_sure 14 = .ok (.iload_n 2, 1) := by decide +kernel
theorem dX11_sure_15 : decode cX11_sure 15 = .ok (.bipush 8, 2) := by decide +kernel
theorem dX11_sure_17 : decode cX11_sure 17 = .ok (.if_icmp .lt 6, 3) := by decide +kernel
theorem dX11_sure_20 : decode cX11_sure 20 = .ok (.bipush (-3), 2) := by decide +kernel
theorem dX11_sure_22 : decode cX11_sure 22 = .ok (.ireturn, 1) := by decide +kernel
theorem dX11_sure_23 : decode cX11_sure 23 = .ok (.aload_n 0, 1) := by decide +kernel
theorem dX11_sure_24 : decode cX11_sure 24 = .ok (.getfield 26, 3) := by decide +kernel
theorem dX11_sure_27 : decode cX11_sure 27 = .ok (.aload_n 0, 1) := by decide +kernel
theorem dX11_sure_28 : decode cX11_sure 28 = .ok (.getfield 19, 3) := by decide +kernel
theorem dX11_sure_31 : decode cX11_sure 31 = .ok (.invokevirtual 112, 3) := by decide +kernel
theorem dX11_sure_34 : decode cX11_sure 34 = .ok (.aload_n 0, 1) := by decide +kernel
theorem dX11_sure_35 : decode cX11_sure 35 = .ok (.getfield 26, 3) := by decide +kernel
theorem dX11_sure_38 : decode cX11_sure 38 = .ok (.iload_n 1, 1) := by decide +kernel
theorem dX11_sure_39 : decode cX11_sure 39 = .ok (.iload_n 2, 1) := by decide +kernel
theorem dX11_sure_40 : decode cX11_sure 40 = .ok (.invokevirtual 140, 3) := by decide +kernel
theorem dX11_sure_43 : decode cX11_sure 43 = .ok (.ireturn, 1) := by decide +kernel
theorem dX11_met_0 : decode cX11_met 0 = .ok (.aload_n 0, 1) := by decide +kernel
theorem dX11_met_1 : decode cX11_met 1 = .ok (.getfield 19, 3) := by decide +kernel
theorem dX11_met_4 : decode cX11_met 4 = .ok (.iload_n 1, 1) := by decide +kernel
theorem dX11_met_5 : decode cX11_met 5 = .ok (.invokevirtual 94, 3) := by decide +kernel
theorem dX11_met_8 : decode cX11_met 8 = .ok (.ifCond .ne 6, 3) := by decide +kernel
theorem dX11_met_11 : decode cX11_met 11 = .ok (.bipush (-2), 2) := by decide +kernel
theorem dX11_met_13 : decode cX11_met 13 = .ok (.ireturn, 1) := by decide +kernel
theorem dX11_met_14 : decode cX11_met 14 = .ok (.aload_n 0, 1) := by decide +kernel
theorem dX11_met_15 : decode cX11_met 15 = .ok (.getfield 33, 3) := by decide +kernel
theorem dX11_met_18 : decode cX11_met 18 = .ok (.aload_n 0, 1) := by decide +kernel
theorem dX11_met_19 : decode cX11_met 19 = .ok (.getfield 19, 3) := by decide +kernel
theorem dX11_met_22 : decode cX11_met 22 = .ok (.iload_n 1, 1) := by decide +kernel
theorem dX11_met_23 : decode cX11_met 23 = .ok (.invokevirtual 144, 3) := by decide +kernel
theorem dX11_met_26 : decode cX11_met 26 = .ok (.istore_n 2, 1) := by decide +kernel
theorem dX11_met_27 : decode cX11_met 27 = .ok (.iload_n 2, 1) := by decide +kernel
theorem dX11_met_28 : decode cX11_met 28 = .ok (.ifCond .eq 7, 3) := by decide +kernel
theorem dX11_met_31 : decode cX11_met 31 = .ok (.iload_n 2, 1) := by decide +kernel
theorem dX11_met_32 : decode cX11_met 32 = .ok (.goto 11, 3) := by decide +kernel
theorem dX11_met_35 : decode cX11_met 35 = .ok (.aload_n 0, 1) := by decide +kernel
theorem dX11_met_36 : decode cX11_met 36 = .ok (.getfield 33, 3) := by decide +kernel
theorem dX11_met_39 : decode cX11_met 39 = .ok (.iload_n 1, 1) := by decide +kernel
theorem dX11_met_40 : decode cX11_met 40 = .ok (.invokevirtual 148, 3) := by decide +kernel
theorem dX11_met_43 : decode cX11_met 43 = .ok (.ireturn, 1) := by decide +kernel
theorem dX11_fewest_0 : decode cX11_fewest 0 = .ok (.aload_n 0, 1) := by decide +kernel
theorem dX11_fewest_1 : decode cX11_fewest 1 = .ok (.getfield 19, 3) := by decide +kernel
theorem dX11_fewest_4 : decode cX11_fewest 4 = .ok (.iload_n 1, 1) := by decide +kernel
theorem dX11_fewest_5 : decode cX11_fewest 5 = .ok (.invokevirtual 94, 3) := by decide +kernel
theorem dX11_fewest_8 : decode cX11_fewest 8 = .ok (.ifCond .ne 6, 3) := by decide +kernel
theorem dX11_fewest_11 : decode cX11_fewest 11 = .ok (.bipush (-2), 2) := by decide +kernel
theorem dX11_fewest_13 : decode cX11_fewest 13 = .ok (.ireturn, 1) := by decide +kernel
theorem dX11_fewest_14 : decode cX11_fewest 14 = .ok (.aload_n 0, 1) := by decide +kernel
theorem dX11_fewest_15 : decode cX11_fewest 15 = .ok (.getfield 33, 3) := by decide +kernel
theorem dX11_fewest_18 : decode cX11_fewest 18 = .ok (.aload_n 0, 1) := by decide +kernel
theorem dX11_fewest_19 : decode cX11_fewest 19 = .ok (.getfield 19, 3) := by decide +kernel
theorem dX11_fewest_22 : decode cX11_fewest 22 = .ok (.iload_n 1, 1) := by decide +kernel
theorem dX11_fewest_23 : decode cX11_fewest 23 = .ok (.invokevirtual 144, 3) := by decide +kernel
theorem dX11_fewest_26 : decode cX11_fewest 26 = .ok (.istore_n 2, 1) := by decide +kernel
theorem dX11_fewest_27 : decode cX11_fewest 27 = .ok (.iload_n 2, 1) := by decide +kernel
theorem dX11_fewest_28 : decode cX11_fewest 28 = .ok (.ifCond .eq 7, 3) := by decide +kernel
theorem dX11_fewest_31 : decode cX11_fewest 31 = .ok (.iload_n 2, 1) := by decide +kernel
theorem dX11_fewest_32 : decode cX11_fewest 32 = .ok (.goto 11, 3) := by decide +kernel
theorem dX11_fewest_35 : decode cX11_fewest 35 = .ok (.aload_n 0, 1) := by decide +kernel
theorem dX11_fewest_36 : decode cX11_fewest 36 = .ok (.getfield 33, 3) := by decide +kernel
theorem dX11_fewest_39 : decode cX11_fewest 39 = .ok (.iload_n 1, 1) := by decide +kernel
theorem dX11_fewest_40 : decode cX11_fewest 40 = .ok (.invokevirtual 151, 3) := by decide +kernel
theorem dX11_fewest_43 : decode cX11_fewest 43 = .ok (.ireturn, 1) := by decide +kernel
theorem dX11_ring_0 : decode cX11_ring 0 = .ok (.aload_n 0, 1) := by decide +kernel
theorem dX11_ring_1 : decode cX11_ring 1 = .ok (.getfield 19, 3) := by decide +kernel
theorem dX11_ring_4 : decode cX11_ring 4 = .ok (.iload_n 1, 1) := by decide +kernel
theorem dX11_ring_5 : decode cX11_ring 5 = .ok (.invokevirtual 94, 3) := by decide +kernel
theorem dX11_ring_8 : decode cX11_ring 8 = .ok (.ifCond .ne 6, 3) := by decide +kernel
theorem dX11_ring_11 : decode cX11_ring 11 = .ok (.bipush (-2), 2) := by decide +kernel
theorem dX11_ring_13 : decode cX11_ring 13 = .ok (.ireturn, 1) := by decide +kernel
theorem dX11_ring_14 : decode cX11_ring 14 = .ok (.aload_n 0, 1) := by decide +kernel
theorem dX11_ring_15 : decode cX11_ring 15 = .ok (.getfield 33, 3) := by decide +kernel
theorem dX11_ring_18 : decode cX11_ring 18 = .ok (.aload_n 0, 1) := by decide +kernel
theorem dX11_ring_19 : decode cX11_ring 19 = .ok (.getfield 19, 3) := by decide +kernel
theorem dX11_ring_22 : decode cX11_ring 22 = .ok (.iload_n 1, 1) := by decide +kernel
theorem dX11_ring_23 : decode cX11_ring 23 = .ok (.invokevirtual 144, 3) := by decide +kernel
theorem dX11_ring_26 : decode cX11_ring 26 = .ok (.istore_n 2, 1) := by decide +kernel
theorem dX11_ring_27 : decode cX11_ring 27 = .ok (.iload_n 2, 1) := by decide +kernel
theorem dX11_ring_28 : decode cX11_ring 28 = .ok (.ifCond .eq 7, 3) := by decide +kernel
theorem dX11_ring_31 : decode cX11_ring 31 = .ok (.iload_n 2, 1) := by decide +kernel
theorem dX11_ring_32 : decode cX11_ring 32 = .ok (.goto 11, 3) := by decide +kernel
theorem dX11_ring_35 : decode cX11_ring 35 = .ok (.aload_n 0, 1) := by decide +kernel
theorem dX11_ring_36 : decode cX11_ring 36 = .ok (.getfield 33, 3) := by decide +kernel
theorem dX11_ring_39 : decode cX11_ring 39 = .ok (.iload_n 1, 1) := by decide +kernel
theorem dX11_ring_40 : decode cX11_ring 40 = .ok (.invokevirtual 154, 3) := by decide +kernel
theorem dX11_ring_43 : decode cX11_ring 43 = .ok (.ireturn, 1) := by decide +kernel
theorem dX11_putting_0 : decode cX11_putting 0 = .ok (.aload_n 0, 1) := by decide +kernel
theorem dX11_putting_1 : decode cX11_putting 1 = .ok (.getfield 19, 3) := by decide +kernel
theorem dX11_putting_4 : decode cX11_putting 4 = .ok (.iload_n 1, 1) := by decide +kernel
theorem dX11_putting_5 : decode cX11_putting 5 = .ok (.invokevirtual 94, 3) := by decide +kernel
theorem dX11_putting_8 : decode cX11_putting 8 = .ok (.ifCond .ne 6, 3) := by decide +kernel
theorem dX11_putting_11 : decode cX11_putting 11 = .ok (.bipush (-2), 2) := by decide +kernel
theorem dX11_putting_13 : decode cX11_putting 13 = .ok (.ireturn, 1) := by decide +kernel
theorem dX11_putting_14 : decode cX11_putting 14 = .ok (.iload_n 2, 1) := by decide +kernel
theorem dX11_putting_15 : decode cX11_putting 15 = .ok (.ifCond .ge 6, 3) := by decide +kernel
theorem dX11_putting_18 : decode cX11_putting 18 = .ok (.bipush (-3), 2) := by decide +kernel
theorem dX11_putting_20 : decode cX11_putting 20 = .ok (.ireturn, 1) := by decide +kernel
theorem dX11_putting_21 : decode cX11_putting 21 = .ok (.aload_n 0, 1) := by decide +kernel
theorem dX11_putting_22 : decode cX11_putting 22 = .ok (.getfield 33, 3) := by decide +kernel
theorem dX11_putting_25 : decode cX11_putting 25 = .ok (.aload_n 0, 1) := by decide +kernel
theorem dX11_putting_26 : decode cX11_putting 26 = .ok (.getfield 19, 3) := by decide +kernel
theorem dX11_putting_29 : decode cX11_putting 29 = .ok (.iload_n 1, 1) := by decide +kernel
theorem dX11_putting_30 : decode cX11_putting 30 = .ok (.invokevirtual 144, 3) := by decide +kernel
theorem dX11_putting_33 : decode cX11_putting 33 = .ok (.istore_n 3, 1) := by decide +kernel
theorem dX11_putting_34 : decode cX11_putting 34 = .ok (.iload_n 3, 1) := by decide +kernel
theorem dX11_putting_35 : decode cX11_putting 35 = .ok (.ifCond .eq 7, 3) := by decide +kernel
theorem dX11_putting_38 : decode cX11_putting 38 = .ok (.iload_n 3, 1) := by decide +kernel
theorem dX11_putting_39 : decode cX11_putting 39 = .ok (.goto 12, 3) := by decide +kernel
theorem dX11_putting_42 : decode cX11_putting 42 = .ok (.aload_n 0, 1) := by decide +kernel
theorem dX11_putting_43 : decode cX11_putting 43 = .ok (.getfield 33, 3) := by decide +kernel
theorem dX11_putting_46 : decode cX11_putting 46 = .ok (.iload_n 1, 1) := by decide +kernel
theorem dX11_putting_47 : decode cX11_putting 47 = .ok (.iload_n 2, 1) := by decide +kernel
theorem dX11_putting_48 : decode cX11_putting 48 = .ok (.invokevirtual 157, 3) := by decide +kernel
theorem dX11_putting_51 : decode cX11_putting 51 = .ok (.ireturn, 1) := by decide +kernel
theorem dX11_found_0 : decode cX11_found 0 = .ok (.aload_n 0, 1) := by decide +kernel
theorem dX11_found_1 : decode cX11_found 1 = .ok (.getfield 19, 3) := by decide +kernel
theorem dX11_found_4 : decode cX11_found 4 = .ok (.iload_n 1, 1) := by decide +kernel
theorem dX11_found_5 : decode cX11_found 5 = .ok (.invokevirtual 94, 3) := by decide +kernel
theorem dX11_found_8 : decode cX11_found 8 = .ok (.ifCond .eq 10, 3) := by decide +kernel
theorem dX11_found_11 : decode cX11_found 11 = .ok (.iload_n 2, 1) := by decide +kernel
theorem dX11_found_12 : decode cX11_found 12 = .ok (.invokestatic 105, 3) := by decide +kernel
theorem dX11_found_15 : decode cX11_found 15 = .ok (.ifCond .eq 6, 3) := by decide +kernel
theorem dX11_found_18 : decode cX11_found 18 = .ok (.bipush (-2), 2) := by decide +kernel
theorem dX11_found_20 : decode cX11_found 20 = .ok (.ireturn, 1) := by decide +kernel
theorem dX11_found_21 : decode cX11_found 21 = .ok (.iload_n 3, 1) := by decide +kernel
theorem dX11_found_22 : decode cX11_found 22 = .ok (.iconst (-1), 1) := by decide +kernel
theorem dX11_found_23 : decode cX11_found 23 = .ok (.if_icmp .ge 6, 3) := by decide +kernel
theorem dX11_found_26 : decode cX11_found 26 = .ok (.bipush (-3), 2) := by decide +kernel
theorem dX11_found_28 : decode cX11_found 28 = .ok (.ireturn, 1) := by decide +kernel
theorem dX11_found_29 : decode cX11_found 29 = .ok (.aload_n 0, 1) := by decide +kernel
theorem dX11_found_30 : decode cX11_found 30 = .ok (.getfield 33, 3) := by decide +kernel
theorem dX11_found_33 : decode cX11_found 33 = .ok (.aload_n 0, 1) := by decide +kernel
theorem dX11_found_34 : decode cX11_found 34 = .ok (.getfield 19, 3) := by decide +kernel
theorem dX11_found_37 : decode cX11_found 37 = .ok (.iload_n 1, 1) := by decide +kernel
theorem dX11_found_38 : decode cX11_found 38 = .ok (.invokevirtual 144, 3) := by decide +kernel
theorem dX11_found_41 : decode cX11_found 41 = .ok (.istore 4, 2) := by decide +kernel
theorem dX11_found_43 : decode cX11_found 43 = .ok (.iload 4, 2) := by decide +kernel
theorem dX11_found_45 : decode cX11_found 45 = .ok (.ifCond .eq 8, 3) := by decide +kernel
theorem dX11_found_48 : decode cX11_found 48 = .ok (.iload 4, 2) := by decide +kernel
theorem dX11_found_50 : decode cX11_found 50 = .ok (.goto 13, 3) := by decide +kernel
theorem dX11_found_53 : decode cX11_found 53 = .ok (.aload_n 0, 1) := by decide +kernel
theorem dX11_found_54 : decode cX11_found 54 = .ok (.getfield 33, 3) := by decide +kernel
theorem dX11_found_57 : decode cX11_found 57 = .ok (.iload_n 1, 1) := by decide +kernel
theorem dX11_found_58 : decode cX11_found 58 = .ok (.iload_n 2, 1) := by decide +kernel
theorem dX11_found_59 : decode cX11_found 59 = .ok (.iload_n 3, 1) := by decide +kernel
theorem dX11_found_60 : decode cX11_found 60 = .ok (.invokevirtual 160, 3) := by decide +kernel
theorem dX11_found_63 : decode cX11_found 63 = .ok (.ireturn, 1) := by decide +kernel
theorem dX11_word_0 : decode cX11_word 0 = .ok (.iload_n 1, 1) := by decide +kernel
theorem dX11_word_1 : decode cX11_word 1 = .ok (.invokestatic 105, 3) := by decide +kernel
theorem dX11_word_4 : decode cX11_word 4 = .ok (.ifCond .eq 6, 3) := by decide +kernel
theorem dX11_word_7 : decode cX11_word 7 = .ok (.bipush (-2), 2) := by decide +kernel
theorem dX11_word_9 : decode cX11_word 9 = .ok (.ireturn, 1) := by decide +kernel
theorem dX11_word_10 : decode cX11_word 10 = .ok (.iload 4, 2) := by decide +kernel
theorem dX11_word_12 : decode cX11_word 12 = .ok (.ifCond .lt 19, 3) := by decide +kernel
theorem dX11_word_15 : decode cX11_word 15 = .ok (.iload 4, 2) := by decide +kernel
theorem dX11_word_17 : decode cX11_word 17 = .ok (.bipush 30, 2) := by decide +kernel
theorem dX11_word_19 : decode cX11_word 19 = .ok (.if_icmp .gt 12, 3) := by decide +kernel
theorem dX11_word_22 : decode cX11_word 22 = .ok (.lload_n 2, 1) := by decide +kernel
theorem dX11_word_23 : decode cX11_word 23 = .ok (.iload 4, 2) := by decide +kernel
theorem dX11_word_25 : decode cX11_word 25 = .ok (.invokestatic 128, 3) := by decide +kernel
theorem dX11_word_28 : decode cX11_word 28 = .ok (.ifCond .eq 6, 3) := by decide +kernel
theorem dX11_word_31 : decode cX11_word 31 = .ok (.bipush (-3), 2) := by decide +kernel
theorem dX11_word_33 : decode cX11_word 33 = .ok (.ireturn, 1) := by decide +kernel
theorem dX11_word_34 : decode cX11_word 34 = .ok (.aload_n 0, 1) := by decide +kernel
theorem dX11_word_35 : decode cX11_word 35 = .ok (.getfield 39, 3) := by decide +kernel
theorem dX11_word_38 : decode cX11_word 38 = .ok (.iload_n 1, 1) := by decide +kernel
theorem dX11_word_39 : decode cX11_word 39 = .ok (.aaload, 1) := by decide +kernel
theorem dX11_word_40 : decode cX11_word 40 = .ok (.lload_n 2, 1) := by decide +kernel
theorem dX11_word_41 : decode cX11_word 41 = .ok (.iload 4, 2) := by decide +kernel
theorem dX11_word_43 : decode cX11_word 43 = .ok (.invokevirtual 164, 3) := by decide +kernel
theorem dX11_word_46 : decode cX11_word 46 = .ok (.iconst 1, 1) := by decide +kernel
theorem dX11_word_47 : decode cX11_word 47 = .ok (.ireturn, 1) := by decide +kernel
theorem dX11_of_0 : decode cX11_of 0 = .ok (.iload_n 1, 1) := by decide +kernel
theorem dX11_of_1 : decode cX11_of 1 = .ok (.invokestatic 105, 3) := by decide +kernel
theorem dX11_of_4 : decode cX11_of 4 = .ok (.ifCond .eq 6, 3) := by decide +kernel
theorem dX11_of_7 : decode cX11_of 7 = .ok (.bipush (-2), 2) := by decide +kernel
theorem dX11_of_9 : decode cX11_of 9 = .ok (.ireturn, 1) := by decide +kernel
theorem dX11_of_10 : decode cX11_of 10 = .ok (.aload_n 0, 1) := by decide +kernel
theorem dX11_of_11 : decode cX11_of 11 = .ok (.getfield 39, 3) := by decide +kernel
theorem dX11_of_14 : decode cX11_of 14 = .ok (.iload_n 1, 1) := by decide +kernel
theorem dX11_of_15 : decode cX11_of 15 = .ok (.aaload, 1) := by decide +kernel
theorem dX11_of_16 : decode cX11_of 16 = .ok (.astore_n 3, 1) := by decide +kernel
theorem dX11_of_17 : decode cX11_of 17 = .ok (.iload_n 2, 1) := by decide +kernel
theorem dX11_of_18 : decode cX11_of 18 = .ok (.ifCond .ne 8, 3) := by decide +kernel
theorem dX11_of_21 : decode cX11_of 21 = .ok (.aload_n 3, 1) := by decide +kernel
theorem dX11_of_22 : decode cX11_of 22 = .ok (.invokevirtual 168, 3) := by decide +kernel
theorem dX11_of_25 : decode cX11_of 25 = .ok (.ireturn, 1) := by decide +kernel
theorem dX11_of_26 : decode cX11_of 26 = .ok (.iload_n 2, 1) := by decide +kernel
theorem dX11_of_27 : decode cX11_of 27 = .ok (.iconst 1, 1) := by decide +kernel
theorem dX11_of_28 : decode cX11_of 28 = .ok (.if_icmp .ne 8, 3) := by decide +kernel
theorem dX11_of_31 : decode cX11_of 31 = .ok (.aload_n 3, 1) := by decide +kernel
theorem dX11_of_32 : decode cX11_of 32 = .ok (.invokevirtual 169, 3) := by decide +kernel
theorem dX11_of_35 : decode cX11_of 35 = .ok (.ireturn, 1) := by decide +kernel
theorem dX11_of_36 : decode cX11_of 36 = .ok (.iload_n 2, 1) := by decide +kernel
theorem dX11_of_37 : decode cX11_of 37 = .ok (.iconst 2, 1) := by decide +kernel
theorem dX11_of_38 : decode cX11_of 38 = .ok (.if_icmp .ne 13, 3) := by decide +kernel
theorem dX11_of_41 : decode cX11_of 41 = .ok (.aload_n 3, 1) := by decide +kernel
theorem dX11_of_42 : decode cX11_of 42 = .ok (.invokevirtual 168, 3) := by decide +kernel
theorem dX11_of_45 : decode cX11_of 45 = .ok (.aload_n 3, 1) := by decide +kernel
theorem dX11_of_46 : decode cX11_of 46 = .ok (.invokevirtual 172, 3) := by decide +kernel
theorem dX11_of_49 : decode cX11_of 49 = .ok (.isub, 1) := by decide +kernel
theorem dX11_of_50 : decode cX11_of 50 = .ok (.ireturn, 1) := by decide +kernel
theorem dX11_of_51 : decode cX11_of 51 = .ok (.iload_n 2, 1) := by decide +kernel
theorem dX11_of_52 : decode cX11_of 52 = .ok (.iconst 3, 1) := by decide +kernel
theorem dX11_of_53 : decode cX11_of 53 = .ok (.if_icmp .ne 8, 3) := by decide +kernel
theorem dX11_of_56 : decode cX11_of 56 = .ok (.aload_n 3, 1) := by decide +kernel
theorem dX11_of_57 : decode cX11_of 57 = .ok (.invokevirtual 175, 3) := by decide +kernel
theorem dX11_of_60 : decode cX11_of 60 = .ok (.ireturn, 1) := by decide +kernel
theorem dX11_of_61 : decode cX11_of 61 = .ok (.iload_n 2, 1) := by decide +kernel
theorem dX11_of_62 : decode cX11_of 62 = .ok (.iconst 4, 1) := by decide +kernel
theorem dX11_of_63 : decode cX11_of 63 = .ok (.if_icmp .ne 8, 3) := by decide +kernel
theorem dX11_of_66 : decode cX11_of 66 = .ok (.aload_n 3, 1) := by decide +kernel
theorem dX11_of_67 : decode cX11_of 67 = .ok (.invokevirtual 178, 3) := by decide +kernel
theorem dX11_of_70 : decode cX11_of 70 = .ok (.ireturn, 1) := by decide +kernel
theorem dX11_of_71 : decode cX11_of 71 = .ok (.iload_n 2, 1) := by decide +kernel
theorem dX11_of_72 : decode cX11_of 72 = .ok (.iconst 5, 1) := by decide +kernel
theorem dX11_of_73 : decode cX11_of 73 = .ok (.if_icmp .ne 8, 3) := by decide +kernel
theorem dX11_of_76 : decode cX11_of 76 = .ok (.aload_n 3, 1) := by decide +kernel
theorem dX11_of_77 : decode cX11_of 77 = .ok (.invokevirtual 172, 3) := by decide +kernel
theorem dX11_of_80 : decode cX11_of 80 = .ok (.ireturn, 1) := by decide +kernel
theorem dX11_of_81 : decode cX11_of 81 = .ok (.iload_n 2, 1) := by decide +kernel
theorem dX11_of_82 : decode cX11_of 82 = .ok (.bipush 6, 2) := by decide +kernel
theorem dX11_of_84 : decode cX11_of 84 = .ok (.if_icmp .ne 8, 3) := by decide +kernel
theorem dX11_of_87 : decode cX11_of 87 = .ok (.aload_n 3, 1) := by decide +kernel
theorem dX11_of_88 : decode cX11_of 88 = .ok (.invokevirtual 181, 3) := by decide +kernel
theorem dX11_of_91 : decode cX11_of 91 = .ok (.ireturn, 1) := by decide +kernel
theorem dX11_of_92 : decode cX11_of 92 = .ok (.bipush (-3), 2) := by decide +kernel
theorem dX11_of_94 : decode cX11_of 94 = .ok (.ireturn, 1) := by decide +kernel
theorem dX11_part_0 : decode cX11_part 0 = .ok (.iload_n 1, 1) := by decide +kernel
theorem dX11_part_1 : decode cX11_part 1 = .ok (.invokestatic 105, 3) := by decide +kernel
theorem dX11_part_4 : decode cX11_part 4 = .ok (.ifCond .eq 6, 3) := by decide +kernel
theorem dX11_part_7 : decode cX11_part 7 = .ok (.bipush (-2), 2) := by decide +kernel
theorem dX11_part_9 : decode cX11_part 9 = .ok (.ireturn, 1) := by decide +kernel
theorem dX11_part_10 : decode cX11_part 10 = .ok (.iload_n 2, 1) := by decide +kernel
theorem dX11_part_11 : decode cX11_part 11 = .ok (.ifCond .ge 6, 3) := by decide +kernel
theorem dX11_part_14 : decode cX11_part 14 = .ok (.bipush (-3), 2) := by decide +kernel
theorem dX11_part_16 : decode cX11_part 16 = .ok (.ireturn, 1) := by decide +kernel
theorem dX11_part_17 : decode cX11_part 17 = .ok (.aload_n 0, 1) := by decide +kernel
theorem dX11_part_18 : decode cX11_part 18 = .ok (.getfield 39, 3) := by decide +kernel
theorem dX11_part_21 : decode cX11_part 21 = .ok (.iload_n 1, 1) := by decide +kernel
theorem dX11_part_22 : decode cX11_part 22 = .ok (.aaload, 1) := by decide +kernel
theorem dX11_part_23 : decode cX11_part 23 = .ok (.iload_n 2, 1) := by decide +kernel
theorem dX11_part_24 : decode cX11_part 24 = .ok (.invokevirtual 184, 3) := by decide +kernel
theorem dX11_part_27 : decode cX11_part 27 = .ok (.ireturn, 1) := by decide +kernel
theorem dX11_agree_0 : decode cX11_agree 0 = .ok (.iload_n 1, 1) := by decide +kernel
theorem dX11_agree_1 : decode cX11_agree 1 = .ok (.invokestatic 105, 3) := by decide +kernel
theorem dX11_agree_4 : decode cX11_agree 4 = .ok (.ifCond .ne 10, 3) := by decide +kernel
theorem dX11_agree_7 : decode cX11_agree 7 = .ok (.iload_n 2, 1) := by decide +kernel
theorem dX11_agree_8 : decode cX11_agree 8 = .ok (.invokestatic 105, 3) := by decide +kernel
theorem dX11_agree_11 : decode cX11_agree 11 = .ok (.ifCond .eq 6, 3) := by decide +kernel
theorem dX11_agree_14 : decode cX11_agree 14 = .ok (.bipush (-2), 2) := by decide +kernel
theorem dX11_agree_16 : decode cX11_agree 16 = .ok (.ireturn, 1) := by decide +kernel
theorem dX11_agree_17 : decode cX11_agree 17 = .ok (.aload_n 0, 1) := by decide +kernel
theorem dX11_agree_18 : decode cX11_agree 18 = .ok (.getfield 39, 3) := by decide +kernel
theorem dX11_agree_21 : decode cX11_agree 21 = .ok (.iload_n 1, 1) := by decide +kernel
theorem dX11_agree_22 : decode cX11_agree 22 = .ok (.aaload, 1) := by decide +kernel
theorem dX11_agree_23 : decode cX11_agree 23 = .ok (.aload_n 0, 1) := by decide +kernel
theorem dX11_agree_24 : decode cX11_agree 24 = .ok (.getfield 39, 3) := by decide +kernel
theorem dX11_agree_27 : decode cX11_agree 27 = .ok (.iload_n 2, 1) := by decide +kernel
theorem dX11_agree_28 : decode cX11_agree 28 = .ok (.aaload, 1) := by decide +kernel
theorem dX11_agree_29 : decode cX11_agree 29 = .ok (.invokevirtual 187, 3) := by decide +kernel
theorem dX11_agree_32 : decode cX11_agree 32 = .ok (.ifCond .eq 7, 3) := by decide +kernel
theorem dX11_agree_35 : decode cX11_agree 35 = .ok (.iconst 1, 1) := by decide +kernel
theorem dX11_agree_36 : decode cX11_agree 36 = .ok (.goto 4, 3) := by decide +kernel
theorem dX11_agree_39 : decode cX11_agree 39 = .ok (.iconst 0, 1) := by decide +kernel
theorem dX11_agree_40 : decode cX11_agree 40 = .ok (.ireturn, 1) := by decide +kernel
theorem dX11_turned_0 : decode cX11_turned 0 = .ok (.iload_n 1, 1) := by decide +kernel
theorem dX11_turned_1 : decode cX11_turned 1 = .ok (.invokestatic 105, 3) := by decide +kernel
theorem dX11_turned_4 : decode cX11_turned 4 = .ok (.ifCond .ne 10, 3) := by decide +kernel
theorem dX11_turned_7 : decode cX11_turned 7 = .ok (.iload_n 2, 1) := by decide +kernel
theorem dX11_turned_8 : decode cX11_turned 8 = .ok (.invokestatic 105, 3) := by decide +kernel
theorem dX11_turned_11 : decode cX11_turned 11 = .ok (.ifCond .eq 6, 3) := by decide +kernel
theorem dX11_turned_14 : decode cX11_turned 14 = .ok (.bipush (-2), 2) := by decide +kernel
theorem dX11_turned_16 : decode cX11_turned 16 = .ok (.ireturn, 1) := by decide +kernel
theorem dX11_turned_17 : decode cX11_turned 17 = .ok (.aload_n 0, 1) := by decide +kernel
theorem dX11_turned_18 : decode cX11_turned 18 = .ok (.getfield 39, 3) := by decide +kernel
theorem dX11_turned_21 : decode cX11_turned 21 = .ok (.iload_n 1, 1) := by decide +kernel
theorem dX11_turned_22 : decode cX11_turned 22 = .ok (.aaload, 1) := by decide +kernel
theorem dX11_turned_23 : decode cX11_turned 23 = .ok (.aload_n 0, 1) := by decide +kernel
theorem dX11_turned_24 : decode cX11_turned 24 = .ok (.getfield 39, 3) := by decide +kernel
theorem dX11_turned_27 : decode cX11_turned 27 = .ok (.iload_n 2, 1) := by decide +kernel
theorem dX11_turned_28 : decode cX11_turned 28 = .ok (.aaload, 1) := by decide +kernel
theorem dX11_turned_29 : decode cX11_turned 29 = .ok (.invokevirtual 191, 3) := by decide +kernel
theorem dX11_turned_32 : decode cX11_turned 32 = .ok (.ireturn, 1) := by decide +kernel
theorem dX11_classes_0 : decode cX11_classes 0 = .ok (.iload_n 1, 1) := by decide +kernel
theorem dX11_classes_1 : decode cX11_classes 1 = .ok (.iconst 1, 1) := by decide +kernel
theorem dX11_classes_2 : decode cX11_classes 2 = .ok (.if_icmp .lt 20, 3) := by decide +kernel
theorem dX11_classes_5 : decode cX11_classes 5 = .ok (.iload_n 1, 1) := by decide +kernel
theorem dX11_classes_6 : decode cX11_classes 6 = .ok (.bipush 60, 2) := by decide +kernel
theorem dX11_classes_8 : decode cX11_classes 8 = .ok (.if_icmp .gt 14, 3) := by decide +kernel
theorem dX11_classes_11 : decode cX11_classes 11 = .ok (.iload_n 2, 1) := by decide +kernel
theorem dX11_classes_12 : decode cX11_classes 12 = .ok (.iconst 1, 1) := by decide +kernel
theorem dX11_classes_13 : decode cX11_classes 13 = .ok (.if_icmp .lt 9, 3) := by decide +kernel
theorem dX11_classes_16 : decode cX11_classes 16 = .ok (.iload_n 2, 1) := by decide +kernel
theorem dX11_classes_17 : decode cX11_classes 17 = .ok (.bipush 60, 2) := by decide +kernel
theorem dX11_classes_19 : decode cX11_classes 19 = .ok (.if_icmp .le 6, 3) := by decide +kernel
theorem dX11_classes_22 : decode cX11_classes 22 = .ok (.bipush (-3), 2) := by decide +kernel
theorem dX11_classes_24 : decode cX11_classes 24 = .ok (.ireturn, 1) := by decide +kernel
theorem dX11_classes_25 : decode cX11_classes 25 = .ok (.iload_n 3, 1) := by decide +kernel
theorem dX11_classes_26 : decode cX11_classes 26 = .ok (.iconst 1, 1) := by decide +kernel
theorem dX11_classes_27 : decode cX11_classes 27 = .ok (.if_icmp .lt 21, 3) := by decide +kernel
theorem dX11_classes_30 : decode cX11_classes 30 = .ok (.iload_n 3, 1) := by decide +kernel
theorem dX11_classes_31 : decode cX11_classes 31 = .ok (.bipush 60, 2) := by decide +kernel
theorem dX11_classes_33 : decode cX11_classes 33 = .ok (.if_icmp .gt 15, 3) := by decide +kernel
theorem dX11_classes_36 : decode cX11_classes 36 = .ok (.iload 4, 2) := by decide +kernel
theorem dX11_classes_38 : decode cX11_classes 38 = .ok (.iconst (-1), 1) := by decide +kernel
theorem dX11_classes_39 : decode cX11_classes 39 = .ok (.if_icmp .lt 9, 3) := by decide +kernel
theorem dX11_classes_42 : decode cX11_classes 42 = .ok (.iload 4, 2) := by decide +kernel
theorem dX11_classes_44 : decode cX11_classes 44 = .ok (.iload_n 3, 1) := by decide +kernel
theorem dX11_classes_45 : decode cX11_classes 45 = .ok (.if_icmp .lt 6, 3) := by decide +kernel
theorem dX11_classes_48 : decode cX11_classes 48 = .ok (.bipush (-3), 2) := by decide +kernel
theorem dX11_classes_50 : decode cX11_classes 50 = .ok (.ireturn, 1) := by decide +kernel
theorem dX11_classes_51 : decode cX11_classes 51 = .ok (.aload_n 0, 1) := by decide +kernel
theorem dX11_classes_52 : decode cX11_classes 52 = .ok (.getfield 46, 3) := by decide +kernel
theorem dX11_classes_55 : decode cX11_classes 55 = .ok (.iload_n 3, 1) := by decide +kernel
theorem dX11_classes_56 : decode cX11_classes 56 = .ok (.invokevirtual 195, 3) := by decide +kernel
theorem dX11_classes_59 : decode cX11_classes 59 = .ok (.aload_n 0, 1) := by decide +kernel
theorem dX11_classes_60 : decode cX11_classes 60 = .ok (.getfield 46, 3) := by decide +kernel
theorem dX11_classes_63 : decode cX11_classes 63 = .ok (.iload_n 1, 1) := by decide +kernel
theorem dX11_classes_64 : decode cX11_classes 64 = .ok (.invokevirtual 198, 3) := by decide +kernel
theorem dX11_classes_67 : decode cX11_classes 67 = .ok (.aload_n 0, 1) := by decide +kernel
theorem dX11_classes_68 : decode cX11_classes 68 = .ok (.getfield 46, 3) := by decide +kernel
theorem dX11_classes_71 : decode cX11_classes 71 = .ok (.iload_n 2, 1) := by decide +kernel
theorem dX11_classes_72 : decode cX11_classes 72 = .ok (.invokevirtual 198, 3) := by decide +kernel
theorem dX11_classes_75 : decode cX11_classes 75 = .ok (.aload_n 0, 1) := by decide +kernel
theorem dX11_classes_76 : decode cX11_classes 76 = .ok (.getfield 46, 3) := by decide +kernel
theorem dX11_classes_79 : decode cX11_classes 79 = .ok (.iload 4, 2) := by decide +kernel
theorem dX11_classes_81 : decode cX11_classes 81 = .ok (.iconst (-1), 1) := by decide +kernel
theorem dX11_classes_82 : decode cX11_classes 82 = .ok (.if_icmp .ne 7, 3) := by decide +kernel
theorem dX11_classes_85 : decode cX11_classes 85 = .ok (.iload_n 3, 1) := by decide +kernel
theorem dX11_classes_86 : decode cX11_classes 86 = .ok (.goto 12, 3) := by decide +kernel
theorem dX11_classes_89 : decode cX11_classes 89 = .ok (.aload_n 0, 1) := by decide +kernel
theorem dX11_classes_90 : decode cX11_classes 90 = .ok (.getfield 46, 3) := by decide +kernel
theorem dX11_classes_93 : decode cX11_classes 93 = .ok (.iload 4, 2) := by decide +kernel
theorem dX11_classes_95 : decode cX11_classes 95 = .ok (.invokevirtual 201, 3) := by decide +kernel
theorem dX11_classes_98 : decode cX11_classes 98 = .ok (.invokevirtual 204, 3) := by decide +kernel
theorem dX11_classes_101 : decode cX11_classes 101 = .ok (.ireturn, 1) := by decide +kernel
theorem dX11_pattern_0 : decode cX11_pattern 0 = .ok (.iload_n 1, 1) := by decide +kernel
theorem dX11_pattern_1 : decode cX11_pattern 1 = .ok (.invokestatic 105, 3) := by decide +kernel
theorem dX11_pattern_4 : decode cX11_pattern 4 = .ok (.ifCond .eq 6, 3) := by decide +kernel
theorem dX11_pattern_7 : decode cX11_pattern 7 = .ok (.bipush (-2), 2) := by decide +kernel
theorem dX11_pattern_9 : decode cX11_pattern 9 = .ok (.ireturn, 1) := by decide +kernel
theorem dX11_pattern_10 : decode cX11_pattern 10 = .ok (.aload_n 0, 1) := by decide +kernel
theorem dX11_pattern_11 : decode cX11_pattern 11 = .ok (.getfield 10, 3) := by decide +kernel
theorem dX11_pattern_14 : decode cX11_pattern 14 = .ok (.invokevirtual 207, 3) := by decide +kernel
theorem dX11_pattern_17 : decode cX11_pattern 17 = .ok (.ifCond .ne 6, 3) := by decide +kernel
theorem dX11_pattern_20 : decode cX11_pattern 20 = .ok (.bipush (-4), 2) := by decide +kernel
theorem dX11_pattern_22 : decode cX11_pattern 22 = .ok (.ireturn, 1) := by decide +kernel
theorem dX11_pattern_23 : decode cX11_pattern 23 = .ok (.aload_n 0, 1) := by decide +kernel
theorem dX11_pattern_24 : decode cX11_pattern 24 = .ok (.getfield 10, 3) := by decide +kernel
theorem dX11_pattern_27 : decode cX11_pattern 27 = .ok (.aload_n 0, 1) := by decide +kernel
theorem dX11_pattern_28 : decode cX11_pattern 28 = .ok (.getfield 52, 3) := by decide +kernel
theorem dX11_pattern_31 : decode cX11_pattern 31 = .ok (.iload_n 1, 1) := by decide +kernel
theorem dX11_pattern_32 : decode cX11_pattern 32 = .ok (.aaload, 1) := by decide +kernel
theorem dX11_pattern_33 : decode cX11_pattern 33 = .ok (.invokevirtual 211, 3) := by decide +kernel
theorem dX11_pattern_36 : decode cX11_pattern 36 = .ok (.aload_n 0, 1) := by decide +kernel
theorem dX11_pattern_37 : decode cX11_pattern 37 = .ok (.getfield 10, 3) := by decide +kernel
theorem dX11_pattern_40 : decode cX11_pattern 40 = .ok (.invokevirtual 79, 3) := by decide +kernel
theorem dX11_pattern_43 : decode cX11_pattern 43 = .ok (.aload_n 0, 1) := by decide +kernel
theorem dX11_pattern_44 : decode cX11_pattern 44 = .ok (.getfield 52, 3) := by decide +kernel
theorem dX11_pattern_47 : decode cX11_pattern 47 = .ok (.iload_n 1, 1) := by decide +kernel
theorem dX11_pattern_48 : decode cX11_pattern 48 = .ok (.aaload, 1) := by decide +kernel
theorem dX11_pattern_49 : decode cX11_pattern 49 = .ok (.invokevirtual 215, 3) := by decide +kernel
theorem dX11_pattern_52 : decode cX11_pattern 52 = .ok (.ireturn, 1) := by decide +kernel
theorem dX11_makes_0 : decode cX11_makes 0 = .ok (.iload_n 1, 1) := by decide +kernel
theorem dX11_makes_1 : decode cX11_makes 1 = .ok (.invokestatic 105, 3) := by decide +kernel
theorem dX11_makes_4 : decode cX11_makes 4 = .ok (.ifCond .ne 10, 3) := by decide +kernel
theorem dX11_makes_7 : decode cX11_makes 7 = .ok (.iload_n 2, 1) := by decide +kernel
theorem dX11_makes_8 : decode cX11_makes 8 = .ok (.invokestatic 105, 3) := by decide +kernel
theorem dX11_makes_11 : decode cX11_makes 11 = .ok (.ifCond .eq 6, 3) := by decide +kernel
theorem dX11_makes_14 : decode cX11_makes 14 = .ok (.bipush (-2), 2) := by decide +kernel
theorem dX11_makes_16 : decode cX11_makes 16 = .ok (.ireturn, 1) := by decide +kernel
theorem dX11_makes_17 : decode cX11_makes 17 = .ok (.aload_n 0, 1) := by decide +kernel
theorem dX11_makes_18 : decode cX11_makes 18 = .ok (.getfield 52, 3) := by decide +kernel
theorem dX11_makes_21 : decode cX11_makes 21 = .ok (.iload_n 1, 1) := by decide +kernel
theorem dX11_makes_22 : decode cX11_makes 22 = .ok (.aaload, 1) := by decide +kernel
theorem dX11_makes_23 : decode cX11_makes 23 = .ok (.invokevirtual 215, 3) := by decide +kernel
theorem dX11_makes_26 : decode cX11_makes 26 = .ok (.ifCond .ne 6, 3) := by decide +kernel
theorem dX11_makes_29 : decode cX11_makes 29 = .ok (.bipush (-4), 2) := by decide +kernel
theorem dX11_makes_31 : decode cX11_makes 31 = .ok (.ireturn, 1) := by decide +kernel
theorem dX11_makes_32 : decode cX11_makes 32 = .ok (.aload_n 0, 1) := by decide +kernel
theorem dX11_makes_33 : decode cX11_makes 33 = .ok (.getfield 39, 3) := by decide +kernel
theorem dX11_makes_36 : decode cX11_makes 36 = .ok (.iload_n 2, 1) := by decide +kernel
theorem dX11_makes_37 : decode cX11_makes 37 = .ok (.aaload, 1) := by decide +kernel
theorem dX11_makes_38 : decode cX11_makes 38 = .ok (.aload_n 0, 1) := by decide +kernel
theorem dX11_makes_39 : decode cX11_makes 39 = .ok (.getfield 52, 3) := by decide +kernel
theorem dX11_makes_42 : decode cX11_makes 42 = .ok (.iload_n 1, 1) := by decide +kernel
theorem dX11_makes_43 : decode cX11_makes 43 = .ok (.aaload, 1) := by decide +kernel
theorem dX11_makes_44 : decode cX11_makes 44 = .ok (.invokevirtual 216, 3) := by decide +kernel
theorem dX11_makes_47 : decode cX11_makes 47 = .ok (.ireturn, 1) := by decide +kernel
theorem dX11_carries_0 : decode cX11_carries 0 = .ok (.iload_n 1, 1) := by decide +kernel
theorem dX11_carries_1 : decode cX11_carries 1 = .ok (.invokestatic 105, 3) := by decide +kernel
theorem dX11_carries_4 : decode cX11_carries 4 = .ok (.ifCond .ne 10, 3) := by decide +kernel
theorem dX11_carries_7 : decode cX11_carries 7 = .ok (.iload_n 2, 1) := by decide +kernel
theorem dX11_carries_8 : decode cX11_carries 8 = .ok (.invokestatic 105, 3) := by decide +kernel
theorem dX11_carries_11 : decode cX11_carries 11 = .ok (.ifCond .eq 6, 3) := by decide +kernel
theorem dX11_carries_14 : decode cX11_carries 14 = .ok (.bipush (-2), 2) := by decide +kernel
theorem dX11_carries_16 : decode cX11_carries 16 = .ok (.ireturn, 1) := by decide +kernel
theorem dX11_carries_17 : decode cX11_carries 17 = .ok (.aload_n 0, 1) := by decide +kernel
theorem dX11_carries_18 : decode cX11_carries 18 = .ok (.getfield 52, 3) := by decide +kernel
theorem dX11_carries_21 : decode cX11_carries 21 = .ok (.iload_n 1, 1) := by decide +kernel
theorem dX11_carries_22 : decode cX11_carries 22 = .ok (.aaload, 1) := by decide +kernel
theorem dX11_carries_23 : decode cX11_carries 23 = .ok (.invokevirtual 215, 3) := by decide +kernel
theorem dX11_carries_26 : decode cX11_carries 26 = .ok (.ifCond .eq 15, 3) := by decide +kernel
theorem dX11_carries_29 : decode cX11_carries 29 = .ok (.aload_n 0, 1) := by decide +kernel
theorem dX11_carries_30 : decode cX11_carries 30 = .ok (.getfield 52, 3) := by decide +kernel
theorem dX11_carries_33 : decode cX11_carries 33 = .ok (.iload_n 2, 1) := by decide +kernel
theorem dX11_carries_34 : decode cX11_carries 34 = .ok (.aaload, 1) := by decide +kernel
theorem dX11_carries_35 : decode cX11_carries 35 = .ok (.invokevirtual 215, 3) := by decide +kernel
theorem dX11_carries_38 : decode cX11_carries 38 = .ok (.ifCond .ne 6, 3) := by decide +kernel
theorem dX11_carries_41 : decode cX11_carries 41 = .ok (.bipush (-4), 2) := by decide +kernel
theorem dX11_carries_43 : decode cX11_carries 43 = .ok (.ireturn, 1) := by decide +kernel
theorem dX11_carries_44 : decode cX11_carries 44 = .ok (.aload_n 0, 1) := by decide +kernel
theorem dX11_carries_45 : decode cX11_carries 45 = .ok (.getfield 52, 3) := by decide +kernel
theorem dX11_carries_48 : decode cX11_carries 48 = .ok (.iload_n 1, 1) := by decide +kernel
theorem dX11_carries_49 : decode cX11_carries 49 = .ok (.aaload, 1) := by decide +kernel
theorem dX11_carries_50 : decode cX11_carries 50 = .ok (.aload_n 0, 1) := by decide +kernel
theorem dX11_carries_51 : decode cX11_carries 51 = .ok (.getfield 52, 3) := by decide +kernel
theorem dX11_carries_54 : decode cX11_carries 54 = .ok (.iload_n 2, 1) := by decide +kernel
theorem dX11_carries_55 : decode cX11_carries 55 = .ok (.aaload, 1) := by decide +kernel
theorem dX11_carries_56 : decode cX11_carries 56 = .ok (.invokevirtual 220, 3) := by decide +kernel
theorem dX11_carries_59 : decode cX11_carries 59 = .ok (.ifCond .eq 7, 3) := by decide +kernel
theorem dX11_carries_62 : decode cX11_carries 62 = .ok (.iconst 1, 1) := by decide +kernel
theorem dX11_carries_63 : decode cX11_carries 63 = .ok (.goto 4, 3) := by decide +kernel
theorem dX11_carries_66 : decode cX11_carries 66 = .ok (.iconst 0, 1) := by decide +kernel
theorem dX11_carries_67 : decode cX11_carries 67 = .ok (.ireturn, 1) := by decide +kernel
theorem dX11_sample_0 : decode cX11_sample 0 = .ok (.iload_n 2, 1) := by decide +kernel
theorem dX11_sample_1 : decode cX11_sample 1 = .ok (.iconst 1, 1) := by decide +kernel
theorem dX11_sample_2 : decode cX11_sample 2 = .ok (.if_icmp .lt 18, 3) := by decide +kernel
theorem dX11_sample_5 : decode cX11_sample 5 = .ok (.iload_n 2, 1) := by decide +kernel
theorem dX11_sample_6 : decode cX11_sample 6 = .ok (.bipush 8, 2) := by decide +kernel
theorem dX11_sample_8 : decode cX11_sample 8 = .ok (.if_icmp .gt 12, 3) := by decide +kernel
theorem dX11_sample_11 : decode cX11_sample 11 = .ok (.iload_n 1, 1) := by decide +kernel
theorem dX11_sample_12 : decode cX11_sample 12 = .ok (.i2l, 1) := by decide +kernel
theorem dX11_sample_13 : decode cX11_sample 13 = .ok (.iload_n 2, 1) := by decide +kernel
theorem dX11_sample_14 : decode cX11_sample 14 = .ok (.invokestatic 128, 3) := by decide +kernel
theorem dX11_sample_17 : decode cX11_sample 17 = .ok (.ifCond .eq 6, 3) := by decide +kernel
theorem dX11_sample_20 : decode cX11_sample 20 = .ok (.bipush (-3), 2) := by decide +kernel
theorem dX11_sample_22 : decode cX11_sample 22 = .ok (.ireturn, 1) := by decide +kernel
theorem dX11_sample_23 : decode cX11_sample 23 = .ok (.aload_n 0, 1) := by decide +kernel
theorem dX11_sample_24 : decode cX11_sample 24 = .ok (.getfield 59, 3) := by decide +kernel
theorem dX11_sample_27 : decode cX11_sample 27 = .ok (.invokevirtual 224, 3) := by decide +kernel
theorem dX11_sample_30 : decode cX11_sample 30 = .ok (.ifCond .eq 6, 3) := by decide +kernel
theorem dX11_sample_33 : decode cX11_sample 33 = .ok (.bipush (-5), 2) := by decide +kernel
theorem dX11_sample_35 : decode cX11_sample 35 = .ok (.ireturn, 1) := by decide +kernel
theorem dX11_sample_36 : decode cX11_sample 36 = .ok (.aload_n 0, 1) := by decide +kernel
theorem dX11_sample_37 : decode cX11_sample 37 = .ok (.getfield 59, 3) := by decide +kernel
theorem dX11_sample_40 : decode cX11_sample 40 = .ok (.iload_n 1, 1) := by decide +kernel
theorem dX11_sample_41 : decode cX11_sample 41 = .ok (.iload_n 2, 1) := by decide +kernel
theorem dX11_sample_42 : decode cX11_sample 42 = .ok (.invokevirtual 227, 3) := by decide +kernel
theorem dX11_sample_45 : decode cX11_sample 45 = .ok (.aload_n 0, 1) := by decide +kernel
theorem dX11_sample_46 : decode cX11_sample 46 = .ok (.getfield 59, 3) := by decide +kernel
theorem dX11_sample_49 : decode cX11_sample 49 = .ok (.invokevirtual 230, 3) := by decide +kernel
theorem dX11_sample_52 : decode cX11_sample 52 = .ok (.ireturn, 1) := by decide +kernel
theorem dX11_clear_0 : decode cX11_clear 0 = .ok (.aload_n 0, 1) := by decide +kernel
theorem dX11_clear_1 : decode cX11_clear 1 = .ok (.getfield 59, 3) := by decide +kernel
theorem dX11_clear_4 : decode cX11_clear 4 = .ok (.invokevirtual 230, 3) := by decide +kernel
theorem dX11_clear_7 : decode cX11_clear 7 = .ok (.istore_n 1, 1) := by decide +kernel
theorem dX11_clear_8 : decode cX11_clear 8 = .ok (.aload_n 0, 1) := by decide +kernel
theorem dX11_clear_9 : decode cX11_clear 9 = .ok (.getfield 59, 3) := by decide +kernel
theorem dX11_clear_12 : decode cX11_clear 12 = .ok (.invokevirtual 231, 3) := by decide +kernel
theorem dX11_clear_15 : decode cX11_clear 15 = .ok (.iload_n 1, 1) := by decide +kernel
theorem dX11_clear_16 : decode cX11_clear 16 = .ok (.ireturn, 1) := by decide +kernel
theorem dX11_common_0 : decode cX11_common 0 = .ok (.iload_n 1, 1) := by decide +kernel
theorem dX11_common_1 : decode cX11_common 1 = .ok (.iconst (-1), 1) := by decide +kernel
theorem dX11_common_2 : decode cX11_common 2 = .ok (.if_icmp .ge 6, 3) := by decide +kernel
theorem dX11_common_5 : decode cX11_common 5 = .ok (.bipush (-3), 2) := by decide +kernel
theorem dX11_common_7 : decode cX11_common 7 = .ok (.ireturn, 1) := by decide +kernel
theorem dX11_common_8 : decode cX11_common 8 = .ok (.aload_n 0, 1) := by decide +kernel
theorem dX11_common_9 : decode cX11_common 9 = .ok (.getfield 59, 3) := by decide +kernel
theorem dX11_common_12 : decode cX11_common 12 = .ok (.invokevirtual 230, 3) := by decide +kernel
theorem dX11_common_15 : decode cX11_common 15 = .ok (.ifCond .ne 6, 3) := by decide +kernel
theorem dX11_common_18 : decode cX11_common 18 = .ok (.bipush (-4), 2) := by decide +kernel
theorem dX11_common_20 : decode cX11_common 20 = .ok (.ireturn, 1) := by decide +kernel
theorem dX11_common_21 : decode cX11_common 21 = .ok (.aload_n 0, 1) := by decide +kernel
theorem dX11_common_22 : decode cX11_common 22 = .ok (.getfield 59, 3) := by decide +kernel
theorem dX11_common_25 : decode cX11_common 25 = .ok (.iload_n 1, 1) := by decide +kernel
theorem dX11_common_26 : decode cX11_common 26 = .ok (.invokevirtual 232, 3) := by decide +kernel
theorem dX11_common_29 : decode cX11_common 29 = .ok (.ireturn, 1) := by decide +kernel
theorem dX11_count_0 : decode cX11_count 0 = .ok (.iload_n 1, 1) := by decide +kernel
theorem dX11_count_1 : decode cX11_count 1 = .ok (.ifCond .ne 11, 3) := by decide +kernel
theorem dX11_count_4 : decode cX11_count 4 = .ok (.aload_n 0, 1) := by decide +kernel
theorem dX11_count_5 : decode cX11_count 5 = .ok (.getfield 19, 3) := by decide +kernel
theorem dX11_count_8 : decode cX11_count 8 = .ok (.invokevirtual 93, 3) := by decide +kernel
theorem dX11_count_11 : decode cX11_count 11 = .ok (.ireturn, 1) := by decide +kernel
theorem dX11_count_12 : decode cX11_count 12 = .ok (.iload_n 1, 1) := by decide +kernel
theorem dX11_count_13 : decode cX11_count 13 = .ok (.iconst 1, 1) := by decide +kernel
theorem dX11_count_14 : decode cX11_count 14 = .ok (.if_icmp .ne 11, 3) := by decide +kernel
theorem dX11_count_17 : decode cX11_count 17 = .ok (.aload_n 0, 1) := by decide +kernel
theorem dX11_count_18 : decode cX11_count 18 = .ok (.getfield 10, 3) := by decide +kernel
theorem dX11_count_21 : decode cX11_count 21 = .ok (.invokevirtual 75, 3) := by decide +kernel
theorem dX11_count_24 : decode cX11_count 24 = .ok (.ireturn, 1) := by decide +kernel
theorem dX11_count_25 : decode cX11_count 25 = .ok (.iload_n 1, 1) := by decide +kernel
theorem dX11_count_26 : decode cX11_count 26 = .ok (.iconst 2, 1) := by decide +kernel
theorem dX11_count_27 : decode cX11_count 27 = .ok (.if_icmp .ne 11, 3) := by decide +kernel
theorem dX11_count_30 : decode cX11_count 30 = .ok (.aload_n 0, 1) := by decide +kernel
theorem dX11_count_31 : decode cX11_count 31 = .ok (.getfield 19, 3) := by decide +kernel
theorem dX11_count_34 : decode cX11_count 34 = .ok (.invokevirtual 235, 3) := by decide +kernel
theorem dX11_count_37 : decode cX11_count 37 = .ok (.ireturn, 1) := by decide +kernel
theorem dX11_count_38 : decode cX11_count 38 = .ok (.iload_n 1, 1) := by decide +kernel
theorem dX11_count_39 : decode cX11_count 39 = .ok (.iconst 3, 1) := by decide +kernel
theorem dX11_count_40 : decode cX11_count 40 = .ok (.if_icmp .ne 11, 3) := by decide +kernel
theorem dX11_count_43 : decode cX11_count 43 = .ok (.aload_n 0, 1) := by decide +kernel
theorem dX11_count_44 : decode cX11_count 44 = .ok (.getfield 59, 3) := by decide +kernel
theorem dX11_count_47 : decode cX11_count 47 = .ok (.invokevirtual 230, 3) := by decide +kernel
theorem dX11_count_50 : decode cX11_count 50 = .ok (.ireturn, 1) := by decide +kernel
theorem dX11_count_51 : decode cX11_count 51 = .ok (.iload_n 1, 1) := by decide +kernel
theorem dX11_count_52 : decode cX11_count 52 = .ok (.iconst 4, 1) := by decide +kernel
theorem dX11_count_53 : decode cX11_count 53 = .ok (.if_icmp .ne 8, 3) := by decide +kernel
theorem dX11_count_56 : decode cX11_count 56 = .ok (.aload_n 0, 1) := by decide +kernel
theorem dX11_count_57 : decode cX11_count 57 = .ok (.invokevirtual 238, 3) := by decide +kernel
theorem dX11_count_60 : decode cX11_count 60 = .ok (.ireturn, 1) := by decide +kernel
theorem dX11_count_61 : decode cX11_count 61 = .ok (.bipush (-3), 2) := by decide +kernel
theorem dX11_count_63 : decode cX11_count 63 = .ok (.ireturn, 1) := by decide +kernel
theorem dX11_patternsWithItems_0 : decode cX11_patternsWithItems 0 = .ok (.iconst 0, 1) := by decide +kernel
theorem dX11_patternsWithItems_1 : decode cX11_patternsWithItems 1 = .ok (.istore_n 1, 1) := by decide +kernel
theorem dX11_patternsWithItems_2 : decode cX11_patternsWithItems 2 = .ok (.iconst 0, 1) := by decide +kernel
theorem dX11_patternsWithItems_3 : decode cX11_patternsWithItems 3 = .ok (.istore_n 2, 1) := by decide +kernel
theorem dX11_patternsWithItems_4 : decode cX11_patternsWithItems 4 = .ok (.iload_n 2, 1) := by decide +kernel
theorem dX11_patternsWithItems_5 : decode cX11_patternsWithItems 5 = .ok (.iconst 4, 1) := by decide +kernel
theorem dX11_patternsWithItems_6 : decode cX11_patternsWithItems 6 = .ok (.if_icmp .ge 24, 3) := by decide +kernel
theorem dX11_patternsWithItems_9 : decode cX11_patternsWithItems 9 = .ok (.aload_n 0, 1) := by decide +kernel
theorem dX11_patternsWithItems_10 : decode cX11_patternsWithItems 10 = .ok (.getfield 52, 3) := by decide +kernel
theorem dX11_patternsWithItems_13 : decode cX11_patternsWithItems 13 = .ok (.iload_n 2, 1) := by decide +kernel
theorem dX11_patternsWithItems_14 : decode cX11_patternsWithItems 14 = .ok (.aaload, 1) := by decide +kernel
theorem dX11_patternsWithItems_15 : decode cX11_patternsWithItems 15 = .ok (.invokevirtual 215, 3) := by decide +kernel
theorem dX11_patternsWithItems_18 : decode cX11_patternsWithItems 18 = .ok (.ifCond .le 6, 3) := by decide +kernel
theorem dX11_patternsWithItems_21 : decode cX11_patternsWithItems 21 = .ok (.iinc 1 1, 3) := by decide +kernel
theorem dX11_patternsWithItems_24 : decode cX11_patternsWithItems 24 = .ok (.iinc 2 1, 3) := by decide +kernel
theorem dX11_patternsWithItems_27 : decode cX11_patternsWithItems 27 = .ok (.goto (-23), 3) := by decide +kernel
theorem dX11_patternsWithItems_30 : decode cX11_patternsWithItems 30 = .ok (.iload_n 1, 1) := by decide +kernel
theorem dX11_patternsWithItems_31 : decode cX11_patternsWithItems 31 = .ok (.ireturn, 1) := by decide +kernel
theorem dX11_isNoneOfFour_0 : decode cX11_isNoneOfFour 0 = .ok (.iload_n 0, 1) := by decide +kernel
theorem dX11_isNoneOfFour_1 : decode cX11_isNoneOfFour 1 = .ok (.ifCond .lt 8, 3) := by decide +kernel
theorem dX11_isNoneOfFour_4 : decode cX11_isNoneOfFour 4 = .ok (.iload_n 0, 1) := by decide +kernel
theorem dX11_isNoneOfFour_5 : decode cX11_isNoneOfFour 5 = .ok (.iconst 4, 1) := by decide +kernel
theorem dX11_isNoneOfFour_6 : decode cX11_isNoneOfFour 6 = .ok (.if_icmp .lt 7, 3) := by decide +kernel
theorem dX11_isNoneOfFour_9 : decode cX11_isNoneOfFour 9 = .ok (.iconst 1, 1) := by decide +kernel
theorem dX11_isNoneOfFour_10 : decode cX11_isNoneOfFour 10 = .ok (.goto 4, 3) := by decide +kernel
theorem dX11_isNoneOfFour_13 : decode cX11_isNoneOfFour 13 = .ok (.iconst 0, 1) := by decide +kernel
theorem dX11_isNoneOfFour_14 : decode cX11_isNoneOfFour 14 = .ok (.ireturn, 1) := by decide +kernel
theorem dX11_isUnknown_0 : decode cX11_isUnknown 0 = .ok (.iload_n 0, 1) := by decide +kernel
theorem dX11_isUnknown_1 : decode cX11_isUnknown 1 = .ok (.iconst 4, 1) := by decide +kernel
theorem dX11_isUnknown_2 : decode cX11_isUnknown 2 = .ok (.if_icmp .lt 7, 3) := by decide +kernel
theorem dX11_isUnknown_5 : decode cX11_isUnknown 5 = .ok (.iconst 1, 1) := by decide +kernel
theorem dX11_isUnknown_6 : decode cX11_isUnknown 6 = .ok (.goto 4, 3) := by decide +kernel
theorem dX11_isUnknown_9 : decode cX11_isUnknown 9 = .ok (.iconst 0, 1) := by decide +kernel
theorem dX11_isUnknown_10 : decode cX11_isUnknown 10 = .ok (.ireturn, 1) := by decide +kernel
theorem dX11_unknownOf_0 : decode cX11_unknownOf 0 = .ok (.iload_n 0, 1) := by decide +kernel
theorem dX11_unknownOf_1 : decode cX11_unknownOf 1 = .ok (.iconst 3, 1) := by decide +kernel
theorem dX11_unknownOf_2 : decode cX11_unknownOf 2 = .ok (.iand, 1) := by decide +kernel
theorem dX11_unknownOf_3 : decode cX11_unknownOf 3 = .ok (.ireturn, 1) := by decide +kernel
theorem dX11_letterOf_0 : decode cX11_letterOf 0 = .ok (.lload_n 0, 1) := by decide +kernel
theorem dX11_letterOf_1 : decode cX11_letterOf 1 = .ok (.iconst 2, 1) := by decide +kernel
theorem dX11_letterOf_2 : decode cX11_letterOf 2 = .ok (.iload_n 2, 1) := by decide +kernel
theorem dX11_letterOf_3 : decode cX11_letterOf 3 = .ok (.imul, 1) := by decide +kernel
theorem dX11_letterOf_4 : decode cX11_letterOf 4 = .ok (.lshr, 1) := by decide +kernel
theorem dX11_letterOf_5 : decode cX11_letterOf 5 = .ok (.ldc2_w 241, 3) := by decide +kernel
theorem dX11_letterOf_8 : decode cX11_letterOf 8 = .ok (.land, 1) := by decide +kernel
theorem dX11_letterOf_9 : decode cX11_letterOf 9 = .ok (.l2i, 1) := by decide +kernel
theorem dX11_letterOf_10 : decode cX11_letterOf 10 = .ok (.ireturn, 1) := by decide +kernel
theorem dX11_hasNoLetter_0 : decode cX11_hasNoLetter 0 = .ok (.iconst 0, 1) := by decide +kernel
theorem dX11_hasNoLetter_1 : decode cX11_hasNoLetter 1 = .ok (.istore_n 3, 1) := by decide +kernel
theorem dX11_hasNoLetter_2 : decode cX11_hasNoLetter 2 = .ok (.iload_n 3, 1) := by decide +kernel
theorem dX11_hasNoLetter_3 : decode cX11_hasNoLetter 3 = .ok (.iload_n 2, 1) := by decide +kernel
theorem dX11_hasNoLetter_4 : decode cX11_hasNoLetter 4 = .ok (.if_icmp .ge 20, 3) := by decide +kernel
theorem dX11_hasNoLetter_7 : decode cX11_hasNoLetter 7 = .ok (.lload_n 0, 1) := by decide +kernel
theorem dX11_hasNoLetter_8 : decode cX11_hasNoLetter 8 = .ok (.iload_n 3, 1) := by decide +kernel
theorem dX11_hasNoLetter_9 : decode cX11_hasNoLetter 9 = .ok (.invokestatic 243, 3) := by decide +kernel
theorem dX11_hasNoLetter_12 : decode cX11_hasNoLetter 12 = .ok (.iconst 3, 1) := by decide +kernel
theorem dX11_hasNoLetter_13 : decode cX11_hasNoLetter 13 = .ok (.if_icmp .ne 5, 3) := by decide +kernel
theorem dX11_hasNoLetter_16 : decode cX11_hasNoLetter 16 = .ok (.iconst 1, 1) := by decide +kernel
theorem dX11_hasNoLetter_17 : decode cX11_hasNoLetter 17 = .ok (.ireturn, 1) := by decide +kernel
theorem dX11_hasNoLetter_18 : decode cX11_hasNoLetter 18 = .ok (.iinc 3 1, 3) := by decide +kernel
theorem dX11_hasNoLetter_21 : decode cX11_hasNoLetter 21 = .ok (.goto (-19), 3) := by decide +kernel
theorem dX11_hasNoLetter_24 : decode cX11_hasNoLetter 24 = .ok (.iconst 0, 1) := by decide +kernel
theorem dX11_hasNoLetter_25 : decode cX11_hasNoLetter 25 = .ok (.ireturn, 1) := by decide +kernel
theorem dX11_capped_0 : decode cX11_capped 0 = .ok (.lload_n 0, 1) := by decide +kernel
theorem dX11_capped_1 : decode cX11_capped 1 = .ok (.ldc2_w 247, 3) := by decide +kernel
theorem dX11_capped_4 : decode cX11_capped 4 = .ok (.lcmp, 1) := by decide +kernel
theorem dX11_capped_5 : decode cX11_capped 5 = .ok (.ifCond .lt 8, 3) := by decide +kernel
theorem dX11_capped_8 : decode cX11_capped 8 = .ok (.ldc 249, 2) := by decide +kernel
theorem dX11_capped_10 : decode cX11_capped 10 = .ok (.goto 5, 3) := by decide +kernel
theorem dX11_capped_13 : decode cX11_capped 13 = .ok (.lload_n 0, 1) := by decide +kernel
theorem dX11_capped_14 : decode cX11_capped 14 = .ok (.l2i, 1) := by decide +kernel
theorem dX11_capped_15 : decode cX11_capped 15 = .ok (.ireturn, 1) := by decide +kernel
theorem dX11_sameStretch_0 : decode cX11_sameStretch 0 = .ok (.iload_n 1, 1) := by decide +kernel
theorem dX11_sameStretch_1 : decode cX11_sameStretch 1 = .ok (.ifCond .lt 23, 3) := by decide +kernel
theorem dX11_sameStretch_4 : decode cX11_sameStretch 4 = .ok (.iload_n 2, 1) := by decide +kernel
theorem dX11_sameStretch_5 : decode cX11_sameStretch 5 = .ok (.ifCond .lt 19, 3) := by decide +kernel
theorem dX11_sameStretch_8 : decode cX11_sameStretch 8 = .ok (.iload_n 1, 1) := by decide +kernel
theorem dX11_sameStretch_9 : decode cX11_sameStretch 9 = .ok (.iload_n 3, 1) := by decide +kernel
theorem dX11_sameStretch_10 : decode cX11_sameStretch 10 = .ok (.iadd, 1) := by decide +kernel
theorem dX11_sameStretch_11 : decode cX11_sameStretch 11 = .ok (.aload_n 0, 1) := by decide +kernel
theorem dX11_sameStretch_12 : decode cX11_sameStretch 12 = .ok (.arraylength, 1) := by decide +kernel
theorem dX11_sameStretch_13 : decode cX11_sameStretch 13 = .ok (.if_icmp .gt 11, 3) := by decide +kernel
theorem dX11_sameStretch_16 : decode cX11_sameStretch 16 = .ok (.iload_n 2, 1) := by decide +kernel
theorem dX11_sameStretch_17 : decode cX11_sameStretch 17 = .ok (.iload_n 3, 1) := by decide +kernel
theorem dX11_sameStretch_18 : decode cX11_sameStretch 18 = .ok (.iadd, 1) := by decide +kernel
theorem dX11_sameStretch_19 : decode cX11_sameStretch 19 = .ok (.aload_n 0, 1) := by decide +kernel
theorem dX11_sameStretch_20 : decode cX11_sameStretch 20 = .ok (.arraylength, 1) := by decide +kernel
theorem dX11_sameStretch_21 : decode cX11_sameStretch 21 = .ok (.if_icmp .le 5, 3) := by decide +kernel
theorem dX11_sameStretch_24 : decode cX11_sameStretch 24 = .ok (.iconst 0, 1) := by decide +kernel
theorem dX11_sameStretch_25 : decode cX11_sameStretch 25 = .ok (.ireturn, 1) := by decide +kernel
theorem dX11_sameStretch_26 : decode cX11_sameStretch 26 = .ok (.iconst 0, 1) := by decide +kernel
theorem dX11_sameStretch_27 : decode cX11_sameStretch 27 = .ok (.istore 4, 2) := by decide +kernel
theorem dX11_sameStretch_29 : decode cX11_sameStretch 29 = .ok (.iload 4, 2) := by decide +kernel
theorem dX11_sameStretch_31 : decode cX11_sameStretch 31 = .ok (.iload_n 3, 1) := by decide +kernel
theorem dX11_sameStretch_32 : decode cX11_sameStretch 32 = .ok (.if_icmp .ge 26, 3) := by decide +kernel
theorem dX11_sameStretch_35 : decode cX11_sameStretch 35 = .ok (.aload_n 0, 1) := by decide +kernel
theorem dX11_sameStretch_36 : decode cX11_sameStretch 36 = .ok (.iload_n 1, 1) := by decide +kernel
theorem dX11_sameStretch_37 : decode cX11_sameStretch 37 = .ok (.iload 4, 2) := by decide +kernel
theorem dX11_sameStretch_39 : decode cX11_sameStretch 39 = .ok (.iadd, 1) := by decide +kernel
theorem dX11_sameStretch_40 : decode cX11_sameStretch 40 = .ok (.iaload, 1) := by decide +kernel
theorem dX11_sameStretch_41 : decode cX11_sameStretch 41 = .ok (.aload_n 0, 1) := by decide +kernel
theorem dX11_sameStretch_42 : decode cX11_sameStretch 42 = .ok (.iload_n 2, 1) := by decide +kernel
theorem dX11_sameStretch_43 : decode cX11_sameStretch 43 = .ok (.iload 4, 2) := by decide +kernel
theorem dX11_sameStretch_45 : decode cX11_sameStretch 45 = .ok (.iadd, 1) := by decide +kernel
theorem dX11_sameStretch_46 : decode cX11_sameStretch 46 = .ok (.iaload, 1) := by decide +kernel
theorem dX11_sameStretch_47 : decode cX11_sameStretch 47 = .ok (.if_icmp .eq 5, 3) := by decide +kernel
theorem dX11_sameStretch_50 : decode cX11_sameStretch 50 = .ok (.iconst 0, 1) := by decide +kernel
theorem dX11_sameStretch_51 : decode cX11_sameStretch 51 = .ok (.ireturn, 1) := by decide +kernel
theorem dX11_sameStretch_52 : decode cX11_sameStretch 52 = .ok (.iinc 4 1, 3) := by decide +kernel
theorem dX11_sameStretch_55 : decode cX11_sameStretch 55 = .ok (.goto (-26), 3) := by decide +kernel
theorem dX11_sameStretch_58 : decode cX11_sameStretch 58 = .ok (.iconst 1, 1) := by decide +kernel
theorem dX11_sameStretch_59 : decode cX11_sameStretch 59 = .ok (.ireturn, 1) := by decide +kernel
