/-! decode rows -/
theorem dX8_laysPairs_68 : decode cX8_laysPairs 68 = .ok (.istore_n 1, 1) := by decide +kernel
theorem dX8_laysPairs_69 : decode cX8_laysPairs 69 = .ok (.iload_n 1, 1) := by decide +kernel
theorem dX8_laysPairs_70 : decode cX8_laysPairs 70 = .ok (.sipush 18377, 3) := by decide +kernel
theorem dX8_laysPairs_73 : decode cX8_laysPairs 73 = .ok (.if_icmp .ge 16, 3) := by decide +kernel
theorem dX8_laysPairs_76 : decode cX8_laysPairs 76 = .ok (.aload_n 0, 1) := by decide +kernel
theorem dX8_laysPairs_77 : decode cX8_laysPairs 77 = .ok (.getfield 36, 3) := by decide +kernel
theorem dX8_laysPairs_80 : decode cX8_laysPairs 80 = .ok (.iload_n 1, 1) := by decide +kernel
theorem dX8_laysPairs_81 : decode cX8_laysPairs 81 = .ok (.iconst 0, 1) := by decide +kernel
theorem dX8_laysPairs_82 : decode cX8_laysPairs 82 = .ok (.bastore, 1) := by decide +kernel
theorem dX8_laysPairs_83 : decode cX8_laysPairs 83 = .ok (.iinc 1 1, 3) := by decide +kernel
theorem dX8_laysPairs_86 : decode cX8_laysPairs 86 = .ok (.goto (-17), 3) := by decide +kernel
theorem dX8_laysPairs_89 : decode cX8_laysPairs 89 = .ok (.iconst 0, 1) := by decide +kernel
theorem dX8_laysPairs_90 : decode cX8_laysPairs 90 = .ok (.istore_n 1, 1) := by decide +kernel
theorem dX8_laysPairs_91 : decode cX8_laysPairs 91 = .ok (.iload_n 1, 1) := by decide +kernel
theorem dX8_laysPairs_92 : decode cX8_laysPairs 92 = .ok (.sipush 549, 3) := by decide +kernel
theorem dX8_laysPairs_95 : decode cX8_laysPairs 95 = .ok (.if_icmp .ge 78, 3) := by decide +kernel
theorem dX8_laysPairs_98 : decode cX8_laysPairs 98 = .ok (.iconst 0, 1) := by decide +kernel
theorem dX8_laysPairs_99 : decode cX8_laysPairs 99 = .ok (.istore_n 2, 1) := by decide +kernel
theorem dX8_laysPairs_100 : decode cX8_laysPairs 100 = .ok (.iload_n 2, 1) := by decide +kernel
theorem dX8_laysPairs_101 : decode cX8_laysPairs 101 = .ok (.sipush 549, 3) := by decide +kernel
theorem dX8_laysPairs_104 : decode cX8_laysPairs 104 = .ok (.if_icmp .ge 63, 3) := by decide +kernel
theorem dX8_laysPairs_107 : decode cX8_laysPairs 107 = .ok (.aload_n 0, 1) := by decide +kernel
theorem dX8_laysPairs_108 : decode cX8_laysPairs 108 = .ok (.getfield 32, 3) := by decide +kernel
theorem dX8_laysPairs_111 : decode cX8_laysPairs 111 = .ok (.iload_n 1, 1) := by decide +kernel
theorem dX8_laysPairs_112 : decode cX8_laysPairs 112 = .ok (.bipush 61, 2) := by decide +kernel
theorem dX8_laysPairs_114 : decode cX8_laysPairs 114 = .ok (.irem, 1) := by decide +kernel
theorem dX8_laysPairs_115 : decode cX8_laysPairs 115 = .ok (.baload, 1) := by decide +kernel
theorem dX8_laysPairs_116 : decode cX8_laysPairs 116 = .ok (.ifCond .eq 51, 3) := by decide +kernel
theorem dX8_laysPairs_119 : decode cX8_laysPairs 119 = .ok (.aload_n 0, 1) := by decide +kernel
theorem dX8_laysPairs_120 : decode cX8_laysPairs 120 = .ok (.getfield 32, 3) := by decide +kernel
theorem dX8_laysPairs_123 : decode cX8_laysPairs 123 = .ok (.iload_n 2, 1) := by decide +kernel
theorem dX8_laysPairs_124 : decode cX8_laysPairs 124 = .ok (.bipush 61, 2) := by decide +kernel
theorem dX8_laysPairs_126 : decode cX8_laysPairs 126 = .ok (.irem, 1) := by decide +kernel
theorem dX8_laysPairs_127 : decode cX8_laysPairs 127 = .ok (.baload, 1) := by decide +kernel
theorem dX8_laysPairs_128 : decode cX8_laysPairs 128 = .ok (.ifCond .eq 33, 3) := by decide +kernel
theorem dX8_laysPairs_131 : decode cX8_laysPairs 131 = .ok (.aload_n 0, 1) := by decide +kernel
theorem dX8_laysPairs_132 : decode cX8_laysPairs 132 = .ok (.iload_n 1, 1) := by decide +kernel
theorem dX8_laysPairs_133 : decode cX8_laysPairs 133 = .ok (.bipush 61, 2) := by decide +kernel
theorem dX8_laysPairs_135 : decode cX8_laysPairs 135 = .ok (.idiv, 1) := by decide +kernel
theorem dX8_laysPairs_136 : decode cX8_laysPairs 136 = .ok (.iconst 1, 1) := by decide +kernel
theorem dX8_laysPairs_137 : decode cX8_laysPairs 137 = .ok (.iadd, 1) := by decide +kernel
theorem dX8_laysPairs_138 : decode cX8_laysPairs 138 = .ok (.iload_n 1, 1) := by decide +kernel
theorem dX8_laysPairs_139 : decode cX8_laysPairs 139 = .ok (.bipush 61, 2) := by decide +kernel
theorem dX8_laysPairs_141 : decode cX8_laysPairs 141 = .ok (.irem, 1) := by decide +kernel
theorem dX8_laysPairs_142 : decode cX8_laysPairs 142 = .ok (.bipush 30, 2) := by decide +kernel
theorem dX8_laysPairs_144 : decode cX8_laysPairs 144 = .ok (.isub, 1) := by decide +kernel
theorem dX8_laysPairs_145 : decode cX8_laysPairs 145 = .ok (.iload_n 2, 1) := by decide +kernel
theorem dX8_laysPairs_146 : decode cX8_laysPairs 146 = .ok (.bipush 61, 2) := by decide +kernel
theorem dX8_laysPairs_148 : decode cX8_laysPairs 148 = .ok (.idiv, 1) := by decide +kernel
theorem dX8_laysPairs_149 : decode cX8_laysPairs 149 = .ok (.iconst 1, 1) := by decide +kernel
theorem dX8_laysPairs_150 : decode cX8_laysPairs 150 = .ok (.iadd, 1) := by decide +kernel
theorem dX8_laysPairs_151 : decode cX8_laysPairs 151 = .ok (.iload_n 2, 1) := by decide +kernel
theorem dX8_laysPairs_152 : decode cX8_laysPairs 152 = .ok (.bipush 61, 2) := by decide +kernel
theorem dX8_laysPairs_154 : decode cX8_laysPairs 154 = .ok (.irem, 1) := by decide +kernel
theorem dX8_laysPairs_155 : decode cX8_laysPairs 155 = .ok (.bipush 30, 2) := by decide +kernel
theorem dX8_laysPairs_157 : decode cX8_laysPairs 157 = .ok (.isub, 1) := by decide +kernel
theorem dX8_laysPairs_158 : decode cX8_laysPairs 158 = .ok (.invokevirtual 173, 3) := by decide +kernel
theorem dX8_laysPairs_161 : decode cX8_laysPairs 161 = .ok (.iinc 2 1, 3) := by decide +kernel
theorem dX8_laysPairs_164 : decode cX8_laysPairs 164 = .ok (.goto (-64), 3) := by decide +kernel
theorem dX8_laysPairs_167 : decode cX8_laysPairs 167 = .ok (.iinc 1 1, 3) := by decide +kernel
theorem dX8_laysPairs_170 : decode cX8_laysPairs 170 = .ok (.goto (-79), 3) := by decide +kernel
theorem dX8_laysPairs_173 : decode cX8_laysPairs 173 = .ok (.return_, 1) := by decide +kernel
theorem dX8_laysPair_0 : decode cX8_laysPair 0 = .ok (.aload_n 0, 1) := by decide +kernel
theorem dX8_laysPair_1 : decode cX8_laysPair 1 = .ok (.getfield 36, 3) := by decide +kernel
theorem dX8_laysPair_4 : decode cX8_laysPair 4 = .ok (.sipush 1081, 3) := by decide +kernel
theorem dX8_laysPair_7 : decode cX8_laysPair 7 = .ok (.iload_n 1, 1) := by decide +kernel
theorem dX8_laysPair_8 : decode cX8_laysPair 8 = .ok (.iload_n 3, 1) := by decide +kernel
theorem dX8_laysPair_9 : decode cX8_laysPair 9 = .ok (.iadd, 1) := by decide +kernel
theorem dX8_laysPair_10 : decode cX8_laysPair 10 = .ok (.iconst 2, 1) := by decide +kernel
theorem dX8_laysPair_11 : decode cX8_laysPair 11 = .ok (.isub, 1) := by decide +kernel
theorem dX8_laysPair_12 : decode cX8_laysPair 12 = .ok (.imul, 1) := by decide +kernel
theorem dX8_laysPair_13 : decode cX8_laysPair 13 = .ok (.iload_n 1, 1) := by decide +kernel
theorem dX8_laysPair_14 : decode cX8_laysPair 14 = .ok (.iload_n 2, 1) := by decide +kernel
theorem dX8_laysPair_15 : decode cX8_laysPair 15 = .ok (.imul, 1) := by decide +kernel
theorem dX8_laysPair_16 : decode cX8_laysPair 16 = .ok (.iadd, 1) := by decide +kernel
theorem dX8_laysPair_17 : decode cX8_laysPair 17 = .ok (.iload_n 3, 1) := by decide +kernel
theorem dX8_laysPair_18 : decode cX8_laysPair 18 = .ok (.iload 4, 2) := by decide +kernel
theorem dX8_laysPair_20 : decode cX8_laysPair 20 = .ok (.imul, 1) := by decide +kernel
theorem dX8_laysPair_21 : decode cX8_laysPair 21 = .ok (.iadd, 1) := by decide +kernel
theorem dX8_laysPair_22 : decode cX8_laysPair 22 = .ok (.sipush 540, 3) := by decide +kernel
theorem dX8_laysPair_25 : decode cX8_laysPair 25 = .ok (.iadd, 1) := by decide +kernel
theorem dX8_laysPair_26 : decode cX8_laysPair 26 = .ok (.iconst 1, 1) := by decide +kernel
theorem dX8_laysPair_27 : decode cX8_laysPair 27 = .ok (.bastore, 1) := by decide +kernel
theorem dX8_laysPair_28 : decode cX8_laysPair 28 = .ok (.return_, 1) := by decide +kernel
theorem dX8_canBend_0 : decode cX8_canBend 0 = .ok (.iload_n 1, 1) := by decide +kernel
theorem dX8_canBend_1 : decode cX8_canBend 1 = .ok (.iconst 2, 1) := by decide +kernel
theorem dX8_canBend_2 : decode cX8_canBend 2 = .ok (.if_icmp .ge 30, 3) := by decide +kernel
theorem dX8_canBend_5 : decode cX8_canBend 5 = .ok (.iload_n 1, 1) := by decide +kernel
theorem dX8_canBend_6 : decode cX8_canBend 6 = .ok (.ifCond .ne 19, 3) := by decide +kernel
theorem dX8_canBend_9 : decode cX8_canBend 9 = .ok (.iload_n 2, 1) := by decide +kernel
theorem dX8_canBend_10 : decode cX8_canBend 10 = .ok (.ifCond .ne 11, 3) := by decide +kernel
theorem dX8_canBend_13 : decode cX8_canBend 13 = .ok (.iload_n 3, 1) := by decide +kernel
theorem dX8_canBend_14 : decode cX8_canBend 14 = .ok (.ifCond .ne 7, 3) := by decide +kernel
theorem dX8_canBend_17 : decode cX8_canBend 17 = .ok (.iconst 1, 1) := by decide +kernel
theorem dX8_canBend_18 : decode cX8_canBend 18 = .ok (.goto 13, 3) := by decide +kernel
theorem dX8_canBend_21 : decode cX8_canBend 21 = .ok (.iconst 0, 1) := by decide +kernel
theorem dX8_canBend_22 : decode cX8_canBend 22 = .ok (.goto 9, 3) := by decide +kernel
theorem dX8_canBend_25 : decode cX8_canBend 25 = .ok (.aload_n 0, 1) := by decide +kernel
theorem dX8_canBend_26 : decode cX8_canBend 26 = .ok (.iload_n 2, 1) := by decide +kernel
theorem dX8_canBend_27 : decode cX8_canBend 27 = .ok (.iload_n 3, 1) := by decide +kernel
theorem dX8_canBend_28 : decode cX8_canBend 28 = .ok (.invokevirtual 177, 3) := by decide +kernel
theorem dX8_canBend_31 : decode cX8_canBend 31 = .ok (.ireturn, 1) := by decide +kernel
theorem dX8_canBend_32 : decode cX8_canBend 32 = .ok (.iload_n 1, 1) := by decide +kernel
theorem dX8_canBend_33 : decode cX8_canBend 33 = .ok (.iconst 2, 1) := by decide +kernel
theorem dX8_canBend_34 : decode cX8_canBend 34 = .ok (.if_icmp .ne 10, 3) := by decide +kernel
theorem dX8_canBend_37 : decode cX8_canBend 37 = .ok (.aload_n 0, 1) := by decide +kernel
theorem dX8_canBend_38 : decode cX8_canBend 38 = .ok (.iload_n 2, 1) := by decide +kernel
theorem dX8_canBend_39 : decode cX8_canBend 39 = .ok (.iload_n 3, 1) := by decide +kernel
theorem dX8_canBend_40 : decode cX8_canBend 40 = .ok (.invokevirtual 180, 3) := by decide +kernel
theorem dX8_canBend_43 : decode cX8_canBend 43 = .ok (.ireturn, 1) := by decide +kernel
theorem dX8_canBend_44 : decode cX8_canBend 44 = .ok (.iconst 0, 1) := by decide +kernel
theorem dX8_canBend_45 : decode cX8_canBend 45 = .ok (.istore 4, 2) := by decide +kernel
theorem dX8_canBend_47 : decode cX8_canBend 47 = .ok (.iconst 0, 1) := by decide +kernel
theorem dX8_canBend_48 : decode cX8_canBend 48 = .ok (.istore 5, 2) := by decide +kernel
theorem dX8_canBend_50 : decode cX8_canBend 50 = .ok (.iload 5, 2) := by decide +kernel
theorem dX8_canBend_52 : decode cX8_canBend 52 = .ok (.sipush 549, 3) := by decide +kernel
theorem dX8_canBend_55 : decode cX8_canBend 55 = .ok (.if_icmp .ge 68, 3) := by decide +kernel
theorem dX8_canBend_58 : decode cX8_canBend 58 = .ok (.iload 4, 2) := by decide +kernel
theorem dX8_canBend_60 : decode cX8_canBend 60 = .ok (.ifCond .ne 63, 3) := by decide +kernel
theorem dX8_canBend_63 : decode cX8_canBend 63 = .ok (.aload_n 0, 1) := by decide +kernel
theorem dX8_canBend_64 : decode cX8_canBend 64 = .ok (.getfield 32, 3) := by decide +kernel
theorem dX8_canBend_67 : decode cX8_canBend 67 = .ok (.iload 5, 2) := by decide +kernel
theorem dX8_canBend_69 : decode cX8_canBend 69 = .ok (.bipush 61, 2) := by decide +kernel
theorem dX8_canBend_71 : decode cX8_canBend 71 = .ok (.irem, 1) := by decide +kernel
theorem dX8_canBend_72 : decode cX8_canBend 72 = .ok (.baload, 1) := by decide +kernel
theorem dX8_canBend_73 : decode cX8_canBend 73 = .ok (.ifCond .eq 41, 3) := by decide +kernel
theorem dX8_canBend_76 : decode cX8_canBend 76 = .ok (.aload_n 0, 1) := by decide +kernel
theorem dX8_canBend_77 : decode cX8_canBend 77 = .ok (.iload_n 2, 1) := by decide +kernel
theorem dX8_canBend_78 : decode cX8_canBend 78 = .ok (.iload 5, 2) := by decide +kernel
theorem dX8_canBend_80 : decode cX8_canBend 80 = .ok (.bipush 61, 2) := by decide +kernel
theorem dX8_canBend_82 : decode cX8_canBend 82 = .ok (.idiv, 1) := by decide +kernel
theorem dX8_canBend_83 : decode cX8_canBend 83 = .ok (.isub, 1) := by decide +kernel
theorem dX8_canBend_84 : decode cX8_canBend 84 = .ok (.iconst 1, 1) := by decide +kernel
theorem dX8_canBend_85 : decode cX8_canBend 85 = .ok (.isub, 1) := by decide +kernel
theorem dX8_canBend_86 : decode cX8_canBend 86 = .ok (.iload_n 3, 1) := by decide +kernel
theorem dX8_canBend_87 : decode cX8_canBend 87 = .ok (.iload 5, 2) := by decide +kernel
theorem dX8_canBend_89 : decode cX8_canBend 89 = .ok (.bipush 61, 2) := by decide +kernel
theorem dX8_canBend_91 : decode cX8_canBend 91 = .ok (.idiv, 1) := by decide +kernel
theorem dX8_canBend_92 : decode cX8_canBend 92 = .ok (.iconst 1, 1) := by decide +kernel
theorem dX8_canBend_93 : decode cX8_canBend 93 = .ok (.iadd, 1) := by decide +kernel
theorem dX8_canBend_94 : decode cX8_canBend 94 = .ok (.iload 5, 2) := by decide +kernel
theorem dX8_canBend_96 : decode cX8_canBend 96 = .ok (.bipush 61, 2) := by decide +kernel
theorem dX8_canBend_98 : decode cX8_canBend 98 = .ok (.irem, 1) := by decide +kernel
theorem dX8_canBend_99 : decode cX8_canBend 99 = .ok (.bipush 30, 2) := by decide +kernel
theorem dX8_canBend_101 : decode cX8_canBend 101 = .ok (.isub, 1) := by decide +kernel
theorem dX8_canBend_102 : decode cX8_canBend 102 = .ok (.imul, 1) := by decide +kernel
theorem dX8_canBend_103 : decode cX8_canBend 103 = .ok (.isub, 1) := by decide +kernel
theorem dX8_canBend_104 : decode cX8_canBend 104 = .ok (.invokevirtual 180, 3) := by decide +kernel
theorem dX8_canBend_107 : decode cX8_canBend 107 = .ok (.ifCond .eq 7, 3) := by decide +kernel
theorem dX8_canBend_110 : decode cX8_canBend 110 = .ok (.iconst 1, 1) := by decide +kernel
theorem dX8_canBend_111 : decode cX8_canBend 111 = .ok (.goto 4, 3) := by decide +kernel
theorem dX8_canBend_114 : decode cX8_canBend 114 = .ok (.iconst 0, 1) := by decide +kernel
theorem dX8_canBend_115 : decode cX8_canBend 115 = .ok (.istore 4, 2) := by decide +kernel
theorem dX8_canBend_117 : decode cX8_canBend 117 = .ok (.iinc 5 1, 3) := by decide +kernel
theorem dX8_canBend_120 : decode cX8_canBend 120 = .ok (.goto (-70), 3) := by decide +kernel
theorem dX8_canBend_123 : decode cX8_canBend 123 = .ok (.iload 4, 2) := by decide +kernel
theorem dX8_canBend_125 : decode cX8_canBend 125 = .ok (.ireturn, 1) := by decide +kernel
theorem dX8_lays_0 : decode cX8_lays 0 = .ok (.aload_n 0, 1) := by decide +kernel
theorem dX8_lays_1 : decode cX8_lays 1 = .ok (.iload_n 1, 1) := by decide +kernel
theorem dX8_lays_2 : decode cX8_lays 2 = .ok (.putfield 183, 3) := by decide +kernel
theorem dX8_lays_5 : decode cX8_lays 5 = .ok (.iload_n 2, 1) := by decide +kernel
theorem dX8_lays_6 : decode cX8_lays 6 = .ok (.istore 4, 2) := by decide +kernel
theorem dX8_lays_8 : decode cX8_lays 8 = .ok (.iload_n 3, 1) := by decide +kernel
theorem dX8_lays_9 : decode cX8_lays 9 = .ok (.istore 5, 2) := by decide +kernel
theorem dX8_lays_11 : decode cX8_lays 11 = .ok (.iconst 0, 1) := by decide +kernel
theorem dX8_lays_12 : decode cX8_lays 12 = .ok (.istore 6, 2) := by decide +kernel
theorem dX8_lays_14 : decode cX8_lays 14 = .ok (.iload 6, 2) := by decide +kernel
theorem dX8_lays_16 : decode cX8_lays 16 = .ok (.iload_n 1, 1) := by decide +kernel
theorem dX8_lays_17 : decode cX8_lays 17 = .ok (.if_icmp .ge 118, 3) := by decide +kernel
theorem dX8_lays_20 : decode cX8_lays 20 = .ok (.iconst 0, 1) := by decide +kernel
theorem dX8_lays_21 : decode cX8_lays 21 = .ok (.istore 7, 2) := by decide +kernel
theorem dX8_lays_23 : decode cX8_lays 23 = .ok (.aload_n 0, 1) := by decide +kernel
theorem dX8_lays_24 : decode cX8_lays 24 = .ok (.iload_n 1, 1) := by decide +kernel
theorem dX8_lays_25 : decode cX8_lays 25 = .ok (.iload 6, 2) := by decide +kernel
theorem dX8_lays_27 : decode cX8_lays 27 = .ok (.isub, 1) := by decide +kernel
theorem dX8_lays_28 : decode cX8_lays 28 = .ok (.iconst 1, 1) := by decide +kernel
theorem dX8_lays_29 : decode cX8_lays 29 = .ok (.isub, 1) := by decide +kernel
theorem dX8_lays_30 : decode cX8_lays 30 = .ok (.iload 4, 2) := by decide +kernel
theorem dX8_lays_32 : decode cX8_lays 32 = .ok (.iload 7, 2) := by decide +kernel
theorem dX8_lays_34 : decode cX8_lays 34 = .ok (.invokestatic 186, 3) := by decide +kernel
theorem dX8_lays_37 : decode cX8_lays 37 = .ok (.isub, 1) := by decide +kernel
theorem dX8_lays_38 : decode cX8_lays 38 = .ok (.iload 5, 2) := by decide +kernel
theorem dX8_lays_40 : decode cX8_lays 40 = .ok (.aload_n 0, 1) := by decide +kernel
theorem dX8_lays_41 : decode cX8_lays 41 = .ok (.iload 7, 2) := by decide +kernel
theorem dX8_lays_43 : decode cX8_lays 43 = .ok (.invokevirtual 189, 3) := by decide +kernel
theorem dX8_lays_46 : decode cX8_lays 46 = .ok (.isub, 1) := by decide +kernel
theorem dX8_lays_47 : decode cX8_lays 47 = .ok (.invokevirtual 192, 3) := by decide +kernel
theorem dX8_lays_50 : decode cX8_lays 50 = .ok (.ifCond .ne 9, 3) := by decide +kernel
theorem dX8_lays_53 : decode cX8_lays 53 = .ok (.iinc 7 1, 3) := by decide +kernel
theorem dX8_lays_56 : decode cX8_lays 56 = .ok (.goto (-33), 3) := by decide +kernel
theorem dX8_lays_59 : decode cX8_lays 59 = .ok (.aload_n 0, 1) := by decide +kernel
theorem dX8_lays_60 : decode cX8_lays 60 = .ok (.getfield 39, 3) := by decide +kernel
theorem dX8_lays_63 : decode cX8_lays 63 = .ok (.iconst 3, 1) := by decide +kernel
theorem dX8_lays_64 : decode cX8_lays 64 = .ok (.iload 6, 2) := by decide +kernel
theorem dX8_lays_66 : decode cX8_lays 66 = .ok (.imul, 1) := by decide +kernel
theorem dX8_lays_67 : decode cX8_lays 67 = .ok (.iload 7, 2) := by decide +kernel
theorem dX8_lays_69 : decode cX8_lays 69 = .ok (.invokestatic 186, 3) := by decide +kernel
theorem dX8_lays_72 : decode cX8_lays 72 = .ok (.iastore, 1) := by decide +kernel
theorem dX8_lays_73 : decode cX8_lays 73 = .ok (.aload_n 0, 1) := by decide +kernel
theorem dX8_lays_74 : decode cX8_lays 74 = .ok (.getfield 39, 3) := by decide +kernel
theorem dX8_lays_77 : decode cX8_lays 77 = .ok (.iconst 3, 1) := by decide +kernel
theorem dX8_lays_78 : decode cX8_lays 78 = .ok (.iload 6, 2) := by decide +kernel
theorem dX8_lays_80 : decode cX8_lays 80 = .ok (.imul, 1) := by decide +kernel
theorem dX8_lays_81 : decode cX8_lays 81 = .ok (.iconst 1, 1) := by decide +kernel
theorem dX8_lays_82 : decode cX8_lays 82 = .ok (.iadd, 1) := by decide +kernel
theorem dX8_lays_83 : decode cX8_lays 83 = .ok (.iload 7, 2) := by decide +kernel
theorem dX8_lays_85 : decode cX8_lays 85 = .ok (.bipush 6, 2) := by decide +kernel
theorem dX8_lays_87 : decode cX8_lays 87 = .ok (.idiv, 1) := by decide +kernel
theorem dX8_lays_88 : decode cX8_lays 88 = .ok (.bipush 6, 2) := by decide +kernel
theorem dX8_lays_90 : decode cX8_lays 90 = .ok (.irem, 1) := by decide +kernel
theorem dX8_lays_91 : decode cX8_lays 91 = .ok (.iastore, 1) := by decide +kernel
theorem dX8_lays_92 : decode cX8_lays 92 = .ok (.aload_n 0, 1) := by decide +kernel
theorem dX8_lays_93 : decode cX8_lays 93 = .ok (.getfield 39, 3) := by decide +kernel
theorem dX8_lays_96 : decode cX8_lays 96 = .ok (.iconst 3, 1) := by decide +kernel
theorem dX8_lays_97 : decode cX8_lays 97 = .ok (.iload 6, 2) := by decide +kernel
theorem dX8_lays_99 : decode cX8_lays 99 = .ok (.imul, 1) := by decide +kernel
theorem dX8_lays_100 : decode cX8_lays 100 = .ok (.iconst 2, 1) := by decide +kernel
theorem dX8_lays_101 : decode cX8_lays 101 = .ok (.iadd, 1) := by decide +kernel
theorem dX8_lays_102 : decode cX8_lays 102 = .ok (.iload 7, 2) := by decide +kernel
theorem dX8_lays_104 : decode cX8_lays 104 = .ok (.bipush 6, 2) := by decide +kernel
theorem dX8_lays_106 : decode cX8_lays 106 = .ok (.irem, 1) := by decide +kernel
theorem dX8_lays_107 : decode cX8_lays 107 = .ok (.iastore, 1) := by decide +kernel
theorem dX8_lays_108 : decode cX8_lays 108 = .ok (.iload 4, 2) := by decide +kernel
theorem dX8_lays_110 : decode cX8_lays 110 = .ok (.iload 7, 2) := by decide +kernel
theorem dX8_lays_112 : decode cX8_lays 112 = .ok (.invokestatic 186, 3) := by decide +kernel
theorem dX8_lays_115 : decode cX8_lays 115 = .ok (.isub, 1) := by decide +kernel
theorem dX8_lays_116 : decode cX8_lays 116 = .ok (.istore 4, 2) := by decide +kernel
theorem dX8_lays_118 : decode cX8_lays 118 = .ok (.iload 5, 2) := by decide +kernel
theorem dX8_lays_120 : decode cX8_lays 120 = .ok (.aload_n 0, 1) := by decide +kernel
theorem dX8_lays_121 : decode cX8_lays 121 = .ok (.iload 7, 2) := by decide +kernel
theorem dX8_lays_123 : decode cX8_lays 123 = .ok (.invokevirtual 189, 3) := by decide +kernel
theorem dX8_lays_126 : decode cX8_lays 126 = .ok (.isub, 1) := by decide +kernel
theorem dX8_lays_127 : decode cX8_lays 127 = .ok (.istore 5, 2) := by decide +kernel
theorem dX8_lays_129 : decode cX8_lays 129 = .ok (.iinc 6 1, 3) := by decide +kernel
theorem dX8_lays_132 : decode cX8_lays 132 = .ok (.goto (-118), 3) := by decide +kernel
theorem dX8_lays_135 : decode cX8_lays 135 = .ok (.return_, 1) := by decide +kernel
theorem dX8_lengthOf_0 : decode cX8_lengthOf 0 = .ok (.iload_n 0, 1) := by decide +kernel
theorem dX8_lengthOf_1 : decode cX8_lengthOf 1 = .ok (.bipush 36, 2) := by decide +kernel
theorem dX8_lengthOf_3 : decode cX8_lengthOf 3 = .ok (.idiv, 1) := by decide +kernel
theorem dX8_lengthOf_4 : decode cX8_lengthOf 4 = .ok (.iconst 1, 1) := by decide +kernel
theorem dX8_lengthOf_5 : decode cX8_lengthOf 5 = .ok (.iadd, 1) := by decide +kernel
theorem dX8_lengthOf_6 : decode cX8_lengthOf 6 = .ok (.ireturn, 1) := by decide +kernel
theorem dX8_bendOf_0 : decode cX8_bendOf 0 = .ok (.iload_n 1, 1) := by decide +kernel
theorem dX8_bendOf_1 : decode cX8_bendOf 1 = .ok (.invokestatic 186, 3) := by decide +kernel
theorem dX8_bendOf_4 : decode cX8_bendOf 4 = .ok (.aload_n 0, 1) := by decide +kernel
theorem dX8_bendOf_5 : decode cX8_bendOf 5 = .ok (.getfield 7, 3) := by decide +kernel
theorem dX8_bendOf_8 : decode cX8_bendOf 8 = .ok (.iconst 0, 1) := by decide +kernel
theorem dX8_bendOf_9 : decode cX8_bendOf 9 = .ok (.iload_n 1, 1) := by decide +kernel
theorem dX8_bendOf_10 : decode cX8_bendOf 10 = .ok (.bipush 6, 2) := by decide +kernel
theorem dX8_bendOf_12 : decode cX8_bendOf 12 = .ok (.idiv, 1) := by decide +kernel
theorem dX8_bendOf_13 : decode cX8_bendOf 13 = .ok (.bipush 6, 2) := by decide +kernel
theorem dX8_bendOf_15 : decode cX8_bendOf 15 = .ok (.irem, 1) := by decide +kernel
theorem dX8_bendOf_16 : decode cX8_bendOf 16 = .ok (.iadd, 1) := by decide +kernel
theorem dX8_bendOf_17 : decode cX8_bendOf 17 = .ok (.iaload, 1) := by decide +kernel
theorem dX8_bendOf_18 : decode cX8_bendOf 18 = .ok (.aload_n 0, 1) := by decide +kernel
theorem dX8_bendOf_19 : decode cX8_bendOf 19 = .ok (.getfield 7, 3) := by decide +kernel
theorem dX8_bendOf_22 : decode cX8_bendOf 22 = .ok (.iconst 0, 1) := by decide +kernel
theorem dX8_bendOf_23 : decode cX8_bendOf 23 = .ok (.iload_n 1, 1) := by decide +kernel
theorem dX8_bendOf_24 : decode cX8_bendOf 24 = .ok (.bipush 6, 2) := by decide +kernel
theorem dX8_bendOf_26 : decode cX8_bendOf 26 = .ok (.irem, 1) := by decide +kernel
theorem dX8_bendOf_27 : decode cX8_bendOf 27 = .ok (.iadd, 1) := by decide +kernel
theorem dX8_bendOf_28 : decode cX8_bendOf 28 = .ok (.iaload, 1) := by decide +kernel
theorem dX8_bendOf_29 : decode cX8_bendOf 29 = .ok (.isub, 1) := by decide +kernel
theorem dX8_bendOf_30 : decode cX8_bendOf 30 = .ok (.imul, 1) := by decide +kernel
theorem dX8_bendOf_31 : decode cX8_bendOf 31 = .ok (.ireturn, 1) := by decide +kernel
theorem dX8_finds_0 : decode cX8_finds 0 = .ok (.aload_n 0, 1) := by decide +kernel
theorem dX8_finds_1 : decode cX8_finds 1 = .ok (.invokevirtual 195, 3) := by decide +kernel
theorem dX8_finds_4 : decode cX8_finds 4 = .ok (.iconst 0, 1) := by decide +kernel
theorem dX8_finds_5 : decode cX8_finds 5 = .ok (.istore_n 2, 1) := by decide +kernel
theorem dX8_finds_6 : decode cX8_finds 6 = .ok (.iload_n 2, 1) := by decide +kernel
theorem dX8_finds_7 : decode cX8_finds 7 = .ok (.iconst 3, 1) := by decide +kernel
theorem dX8_finds_8 : decode cX8_finds 8 = .ok (.if_icmp .gt 44, 3) := by decide +kernel
theorem dX8_finds_11 : decode cX8_finds 11 = .ok (.iload_n 2, 1) := by decide +kernel
theorem dX8_finds_12 : decode cX8_finds 12 = .ok (.istore_n 3, 1) := by decide +kernel
theorem dX8_finds_13 : decode cX8_finds 13 = .ok (.iload_n 3, 1) := by decide +kernel
theorem dX8_finds_14 : decode cX8_finds 14 = .ok (.bipush 9, 2) := by decide +kernel
theorem dX8_finds_16 : decode cX8_finds 16 = .ok (.iload_n 2, 1) := by decide +kernel
theorem dX8_finds_17 : decode cX8_finds 17 = .ok (.imul, 1) := by decide +kernel
theorem dX8_finds_18 : decode cX8_finds 18 = .ok (.if_icmp .gt 28, 3) := by decide +kernel
theorem dX8_finds_21 : decode cX8_finds 21 = .ok (.aload_n 0, 1) := by decide +kernel
theorem dX8_finds_22 : decode cX8_finds 22 = .ok (.iload_n 2, 1) := by decide +kernel
theorem dX8_finds_23 : decode cX8_finds 23 = .ok (.iload_n 3, 1) := by decide +kernel
theorem dX8_finds_24 : decode cX8_finds 24 = .ok (.iload_n 1, 1) := by decide +kernel
theorem dX8_finds_25 : decode cX8_finds 25 = .ok (.invokevirtual 192, 3) := by decide +kernel
theorem dX8_finds_28 : decode cX8_finds 28 = .ok (.ifCond .eq 12, 3) := by decide +kernel
theorem dX8_finds_31 : decode cX8_finds 31 = .ok (.aload_n 0, 1) := by decide +kernel
theorem dX8_finds_32 : decode cX8_finds 32 = .ok (.iload_n 2, 1) := by decide +kernel
theorem dX8_finds_33 : decode cX8_finds 33 = .ok (.iload_n 3, 1) := by decide +kernel
theorem dX8_finds_34 : decode cX8_finds 34 = .ok (.iload_n 1, 1) := by decide +kernel
theorem dX8_finds_35 : decode cX8_finds 35 = .ok (.invokevirtual 198, 3) := by decide +kernel
theorem dX8_finds_38 : decode cX8_finds 38 = .ok (.iconst 1, 1) := by decide +kernel
theorem dX8_finds_39 : decode cX8_finds 39 = .ok (.ireturn, 1) := by decide +kernel
theorem dX8_finds_40 : decode cX8_finds 40 = .ok (.iinc 3 1, 3) := by decide +kernel
theorem dX8_finds_43 : decode cX8_finds 43 = .ok (.goto (-30), 3) := by decide +kernel
theorem dX8_finds_46 : decode cX8_finds 46 = .ok (.iinc 2 1, 3) := by decide +kernel
theorem dX8_finds_49 : decode cX8_finds 49 = .ok (.goto (-43), 3) := by decide +kernel
theorem dX8_finds_52 : decode cX8_finds 52 = .ok (.iconst 0, 1) := by decide +kernel
theorem dX8_finds_53 : decode cX8_finds 53 = .ok (.ireturn, 1) := by decide +kernel
theorem dX8_stack_0 : decode cX8_stack 0 = .ok (.iload_n 1, 1) := by decide +kernel
theorem dX8_stack_1 : decode cX8_stack 1 = .ok (.sipush (-900), 3) := by decide +kernel
theorem dX8_stack_4 : decode cX8_stack 4 = .ok (.sipush 900, 3) := by decide +kernel
theorem dX8_stack_7 : decode cX8_stack 7 = .ok (.invokestatic 49, 3) := by decide +kernel
theorem dX8_stack_10 : decode cX8_stack 10 = .ok (.ifCond .eq 26, 3) := by decide +kernel
theorem dX8_stack_13 : decode cX8_stack 13 = .ok (.iload_n 2, 1) := by decide +kernel
theorem dX8_stack_14 : decode cX8_stack 14 = .ok (.iconst (-1), 1) := by decide +kernel
theorem dX8_stack_15 : decode cX8_stack 15 = .ok (.if_icmp .lt 21, 3) := by decide +kernel
theorem dX8_stack_18 : decode cX8_stack 18 = .ok (.iload_n 3, 1) := by decide +kernel
theorem dX8_stack_19 : decode cX8_stack 19 = .ok (.iconst 0, 1) := by decide +kernel
theorem dX8_stack_20 : decode cX8_stack 20 = .ok (.iconst 2, 1) := by decide +kernel
theorem dX8_stack_21 : decode cX8_stack 21 = .ok (.invokestatic 49, 3) := by decide +kernel
theorem dX8_stack_24 : decode cX8_stack 24 = .ok (.ifCond .eq 12, 3) := by decide +kernel
theorem dX8_stack_27 : decode cX8_stack 27 = .ok (.iload_n 2, 1) := by decide +kernel
theorem dX8_stack_28 : decode cX8_stack 28 = .ok (.iconst (-1), 1) := by decide +kernel
theorem dX8_stack_29 : decode cX8_stack 29 = .ok (.if_icmp .ne 10, 3) := by decide +kernel
theorem dX8_stack_32 : decode cX8_stack 32 = .ok (.iload_n 3, 1) := by decide +kernel
theorem dX8_stack_33 : decode cX8_stack 33 = .ok (.ifCond .le 6, 3) := by decide +kernel
theorem dX8_stack_36 : decode cX8_stack 36 = .ok (.ldc 53, 2) := by decide +kernel
theorem dX8_stack_38 : decode cX8_stack 38 = .ok (.ireturn, 1) := by decide +kernel
theorem dX8_stack_39 : decode cX8_stack 39 = .ok (.aload_n 0, 1) := by decide +kernel
theorem dX8_stack_40 : decode cX8_stack 40 = .ok (.iload_n 1, 1) := by decide +kernel
theorem dX8_stack_41 : decode cX8_stack 41 = .ok (.invokevirtual 202, 3) := by decide +kernel
theorem dX8_stack_44 : decode cX8_stack 44 = .ok (.ifCond .eq 11, 3) := by decide +kernel
theorem dX8_stack_47 : decode cX8_stack 47 = .ok (.iload_n 2, 1) := by decide +kernel
theorem dX8_stack_48 : decode cX8_stack 48 = .ok (.aload_n 0, 1) := by decide +kernel
theorem dX8_stack_49 : decode cX8_stack 49 = .ok (.getfield 183, 3) := by decide +kernel
theorem dX8_stack_52 : decode cX8_stack 52 = .ok (.if_icmp .lt 6, 3) := by decide +kernel
theorem dX8_stack_55 : decode cX8_stack 55 = .ok (.ldc 150, 2) := by decide +kernel
theorem dX8_stack_57 : decode cX8_stack 57 = .ok (.ireturn, 1) := by decide +kernel
theorem dX8_stack_58 : decode cX8_stack 58 = .ok (.iload_n 2, 1) := by decide +kernel
theorem dX8_stack_59 : decode cX8_stack 59 = .ok (.ifCond .ge 10, 3) := by decide +kernel
theorem dX8_stack_62 : decode cX8_stack 62 = .ok (.aload_n 0, 1) := by decide +kernel
theorem dX8_stack_63 : decode cX8_stack 63 = .ok (.getfield 183, 3) := by decide +kernel
theorem dX8_stack_66 : decode cX8_stack 66 = .ok (.goto 13, 3) := by decide +kernel
theorem dX8_stack_69 : decode cX8_stack 69 = .ok (.aload_n 0, 1) := by decide +kernel
theorem dX8_stack_70 : decode cX8_stack 70 = .ok (.getfield 39, 3) := by decide +kernel
theorem dX8_stack_73 : decode cX8_stack 73 = .ok (.iconst 3, 1) := by decide +kernel
theorem dX8_stack_74 : decode cX8_stack 74 = .ok (.iload_n 2, 1) := by decide +kernel
theorem dX8_stack_75 : decode cX8_stack 75 = .ok (.imul, 1) := by decide +kernel
theorem dX8_stack_76 : decode cX8_stack 76 = .ok (.iload_n 3, 1) := by decide +kernel
theorem dX8_stack_77 : decode cX8_stack 77 = .ok (.iadd, 1) := by decide +kernel
theorem dX8_stack_78 : decode cX8_stack 78 = .ok (.iaload, 1) := by decide +kernel
theorem dX8_stack_79 : decode cX8_stack 79 = .ok (.ireturn, 1) := by decide +kernel
theorem dX8_undo_0 : decode cX8_undo 0 = .ok (.aload_n 0, 1) := by decide +kernel
theorem dX8_undo_1 : decode cX8_undo 1 = .ok (.getfield 57, 3) := by decide +kernel
theorem dX8_undo_4 : decode cX8_undo 4 = .ok (.ifCond .ne 6, 3) := by decide +kernel
theorem dX8_undo_7 : decode cX8_undo 7 = .ok (.ldc 80, 2) := by decide +kernel
theorem dX8_undo_9 : decode cX8_undo 9 = .ok (.ireturn, 1) := by decide +kernel
theorem dX8_undo_10 : decode cX8_undo 10 = .ok (.aload_n 0, 1) := by decide +kernel
theorem dX8_undo_11 : decode cX8_undo 11 = .ok (.dup, 1) := by decide +kernel
theorem dX8_undo_12 : decode cX8_undo 12 = .ok (.getfield 57, 3) := by decide +kernel
theorem dX8_undo_15 : decode cX8_undo 15 = .ok (.iconst 1, 1) := by decide +kernel
theorem dX8_undo_16 : decode cX8_undo 16 = .ok (.isub, 1) := by decide +kernel
theorem dX8_undo_17 : decode cX8_undo 17 = .ok (.putfield 57, 3) := by decide +kernel
theorem dX8_undo_20 : decode cX8_undo 20 = .ok (.iconst 0, 1) := by decide +kernel
theorem dX8_undo_21 : decode cX8_undo 21 = .ok (.istore_n 1, 1) := by decide +kernel
theorem dX8_undo_22 : decode cX8_undo 22 = .ok (.iload_n 1, 1) := by decide +kernel
theorem dX8_undo_23 : decode cX8_undo 23 = .ok (.bipush 127, 2) := by decide +kernel
theorem dX8_undo_25 : decode cX8_undo 25 = .ok (.if_icmp .ge 29, 3) := by decide +kernel
theorem dX8_undo_28 : decode cX8_undo 28 = .ok (.aload_n 0, 1) := by decide +kernel
theorem dX8_undo_29 : decode cX8_undo 29 = .ok (.getfield 7, 3) := by decide +kernel
theorem dX8_undo_32 : decode cX8_undo 32 = .ok (.iload_n 1, 1) := by decide +kernel
theorem dX8_undo_33 : decode cX8_undo 33 = .ok (.aload_n 0, 1) := by decide +kernel
theorem dX8_undo_34 : decode cX8_undo 34 = .ok (.getfield 16, 3) := by decide +kernel
theorem dX8_undo_37 : decode cX8_undo 37 = .ok (.bipush 127, 2) := by decide +kernel
theorem dX8_undo_39 : decode cX8_undo 39 = .ok (.aload_n 0, 1) := by decide +kernel
theorem dX8_undo_40 : decode cX8_undo 40 = .ok (.getfield 57, 3) := by decide +kernel
theorem dX8_undo_43 : decode cX8_undo 43 = .ok (.imul, 1) := by decide +kernel
theorem dX8_undo_44 : decode cX8_undo 44 = .ok (.iload_n 1, 1) := by decide +kernel
theorem dX8_undo_45 : decode cX8_undo 45 = .ok (.iadd, 1) := by decide +kernel
theorem dX8_undo_46 : decode cX8_undo 46 = .ok (.iaload, 1) := by decide +kernel
theorem dX8_undo_47 : decode cX8_undo 47 = .ok (.iastore, 1) := by decide +kernel
theorem dX8_undo_48 : decode cX8_undo 48 = .ok (.iinc 1 1, 3) := by decide +kernel
theorem dX8_undo_51 : decode cX8_undo 51 = .ok (.goto (-29), 3) := by decide +kernel
theorem dX8_undo_54 : decode cX8_undo 54 = .ok (.aload_n 0, 1) := by decide +kernel
theorem dX8_undo_55 : decode cX8_undo 55 = .ok (.getfield 57, 3) := by decide +kernel
theorem dX8_undo_58 : decode cX8_undo 58 = .ok (.ireturn, 1) := by decide +kernel
theorem dX8_type_0 : decode cX8_type 0 = .ok (.iload_n 1, 1) := by decide +kernel
theorem dX8_type_1 : decode cX8_type 1 = .ok (.bipush 32, 2) := by decide +kernel
theorem dX8_type_3 : decode cX8_type 3 = .ok (.bipush 126, 2) := by decide +kernel
theorem dX8_type_5 : decode cX8_type 5 = .ok (.invokestatic 49, 3) := by decide +kernel
theorem dX8_type_8 : decode cX8_type 8 = .ok (.ifCond .ne 6, 3) := by decide +kernel
theorem dX8_type_11 : decode cX8_type 11 = .ok (.ldc 53, 2) := by decide +kernel
theorem dX8_type_13 : decode cX8_type 13 = .ok (.ireturn, 1) := by decide +kernel
theorem dX8_type_14 : decode cX8_type 14 = .ok (.aload_n 0, 1) := by decide +kernel
theorem dX8_type_15 : decode cX8_type 15 = .ok (.getfield 151, 3) := by decide +kernel
theorem dX8_type_18 : decode cX8_type 18 = .ok (.bipush 60, 2) := by decide +kernel
theorem dX8_type_20 : decode cX8_type 20 = .ok (.if_icmp .ne 6, 3) := by decide +kernel
theorem dX8_type_23 : decode cX8_type 23 = .ok (.ldc 79, 2) := by decide +kernel
theorem dX8_type_25 : decode cX8_type 25 = .ok (.ireturn, 1) := by decide +kernel
theorem dX8_type_26 : decode cX8_type 26 = .ok (.aload_n 0, 1) := by decide +kernel
theorem dX8_type_27 : decode cX8_type 27 = .ok (.getfield 19, 3) := by decide +kernel
theorem dX8_type_30 : decode cX8_type 30 = .ok (.aload_n 0, 1) := by decide +kernel
theorem dX8_type_31 : decode cX8_type 31 = .ok (.getfield 151, 3) := by decide +kernel
theorem dX8_type_34 : decode cX8_type 34 = .ok (.iload_n 1, 1) := by decide +kernel
theorem dX8_type_35 : decode cX8_type 35 = .ok (.iastore, 1) := by decide +kernel
theorem dX8_type_36 : decode cX8_type 36 = .ok (.aload_n 0, 1) := by decide +kernel
theorem dX8_type_37 : decode cX8_type 37 = .ok (.dup, 1) := by decide +kernel
theorem dX8_type_38 : decode cX8_type 38 = .ok (.getfield 151, 3) := by decide +kernel
theorem dX8_type_41 : decode cX8_type 41 = .ok (.iconst 1, 1) := by decide +kernel
theorem dX8_type_42 : decode cX8_type 42 = .ok (.iadd, 1) := by decide +kernel
theorem dX8_type_43 : decode cX8_type 43 = .ok (.putfield 151, 3) := by decide +kernel
theorem dX8_type_46 : decode cX8_type 46 = .ok (.aload_n 0, 1) := by decide +kernel
theorem dX8_type_47 : decode cX8_type 47 = .ok (.getfield 151, 3) := by decide +kernel
theorem dX8_type_50 : decode cX8_type 50 = .ok (.ireturn, 1) := by decide +kernel
theorem dX8_clearText_0 : decode cX8_clearText 0 = .ok (.aload_n 0, 1) := by decide +kernel
theorem dX8_clearText_1 : decode cX8_clearText 1 = .ok (.getfield 151, 3) := by decide +kernel
theorem dX8_clearText_4 : decode cX8_clearText 4 = .ok (.istore_n 1, 1) := by decide +kernel
theorem dX8_clearText_5 : decode cX8_clearText 5 = .ok (.aload_n 0, 1) := by decide +kernel
theorem dX8_clearText_6 : decode cX8_clearText 6 = .ok (.iconst 0, 1) := by decide +kernel
theorem dX8_clearText_7 : decode cX8_clearText 7 = .ok (.putfield 151, 3) := by decide +kernel
theorem dX8_clearText_10 : decode cX8_clearText 10 = .ok (.iload_n 1, 1) := by decide +kernel
theorem dX8_clearText_11 : decode cX8_clearText 11 = .ok (.ireturn, 1) := by decide +kernel
theorem dX8_takes_0 : decode cX8_takes 0 = .ok (.aload_n 0, 1) := by decide +kernel
theorem dX8_takes_1 : decode cX8_takes 1 = .ok (.getfield 205, 3) := by decide +kernel
theorem dX8_takes_4 : decode cX8_takes 4 = .ok (.aload_n 0, 1) := by decide +kernel
theorem dX8_takes_5 : decode cX8_takes 5 = .ok (.getfield 151, 3) := by decide +kernel
theorem dX8_takes_8 : decode cX8_takes 8 = .ok (.if_icmp .ge 24, 3) := by decide +kernel
theorem dX8_takes_11 : decode cX8_takes 11 = .ok (.aload_n 0, 1) := by decide +kernel
theorem dX8_takes_12 : decode cX8_takes 12 = .ok (.getfield 19, 3) := by decide +kernel
theorem dX8_takes_15 : decode cX8_takes 15 = .ok (.aload_n 0, 1) := by decide +kernel
theorem dX8_takes_16 : decode cX8_takes 16 = .ok (.getfield 205, 3) := by decide +kernel
theorem dX8_takes_19 : decode cX8_takes 19 = .ok (.iaload, 1) := by decide +kernel
theorem dX8_takes_20 : decode cX8_takes 20 = .ok (.iload_n 1, 1) := by decide +kernel
theorem dX8_takes_21 : decode cX8_takes 21 = .ok (.iload_n 2, 1) := by decide +kernel
theorem dX8_takes_22 : decode cX8_takes 22 = .ok (.invokestatic 49, 3) := by decide +kernel
theorem dX8_takes_25 : decode cX8_takes 25 = .ok (.ifCond .eq 7, 3) := by decide +kernel
theorem dX8_takes_28 : decode cX8_takes 28 = .ok (.iconst 1, 1) := by decide +kernel
theorem dX8_takes_29 : decode cX8_takes 29 = .ok (.goto 4, 3) := by decide +kernel
theorem dX8_takes_32 : decode cX8_takes 32 = .ok (.iconst 0, 1) := by decide +kernel
theorem dX8_takes_33 : decode cX8_takes 33 = .ok (.istore_n 3, 1) := by decide +kernel
theorem dX8_takes_34 : decode cX8_takes 34 = .ok (.aload_n 0, 1) := by decide +kernel
theorem dX8_takes_35 : decode cX8_takes 35 = .ok (.dup, 1) := by decide +kernel
theorem dX8_takes_36 : decode cX8_takes 36 = .ok (.getfield 205, 3) := by decide +kernel
theorem dX8_takes_39 : decode cX8_takes 39 = .ok (.iload_n 3, 1) := by decide +kernel
theorem dX8_takes_40 : decode cX8_takes 40 = .ok (.ifCond .eq 7, 3) := by decide +kernel
theorem dX8_takes_43 : decode cX8_takes 43 = .ok (.iconst 1, 1) := by decide +kernel
theorem dX8_takes_44 : decode cX8_takes 44 = .ok (.goto 4, 3) := by decide +kernel
theorem dX8_takes_47 : decode cX8_takes 47 = .ok (.iconst 0, 1) := by decide +kernel
theorem dX8_takes_48 : decode cX8_takes 48 = .ok (.iadd, 1) := by decide +kernel
theorem dX8_takes_49 : decode cX8_takes 49 = .ok (.putfield 205, 3) := by decide +kernel
theorem dX8_takes_52 : decode cX8_takes 52 = .ok (.iload_n 3, 1) := by decide +kernel
theorem dX8_takes_53 : decode cX8_takes 53 = .ok (.ireturn, 1) := by decide +kernel
theorem dX8_isPart_0 : decode cX8_isPart 0 = .ok (.aload_n 0, 1) := by decide +kernel
theorem dX8_isPart_1 : decode cX8_isPart 1 = .ok (.bipush 49, 2) := by decide +kernel
theorem dX8_isPart_3 : decode cX8_isPart 3 = .ok (.bipush 57, 2) := by decide +kernel
theorem dX8_isPart_5 : decode cX8_isPart 5 = .ok (.invokevirtual 208, 3) := by decide +kernel
theorem dX8_isPart_8 : decode cX8_isPart 8 = .ok (.ifCond .eq 29, 3) := by decide +kernel
theorem dX8_isPart_11 : decode cX8_isPart 11 = .ok (.aload_n 0, 1) := by decide +kernel
theorem dX8_isPart_12 : decode cX8_isPart 12 = .ok (.bipush 97, 2) := by decide +kernel
theorem dX8_isPart_14 : decode cX8_isPart 14 = .ok (.bipush 102, 2) := by decide +kernel
theorem dX8_isPart_16 : decode cX8_isPart 16 = .ok (.invokevirtual 208, 3) := by decide +kernel
theorem dX8_isPart_19 : decode cX8_isPart 19 = .ok (.ifCond .eq 18, 3) := by decide +kernel
theorem dX8_isPart_22 : decode cX8_isPart 22 = .ok (.aload_n 0, 1) := by decide +kernel
theorem dX8_isPart_23 : decode cX8_isPart 23 = .ok (.bipush 97, 2) := by decide +kernel
theorem dX8_isPart_25 : decode cX8_isPart 25 = .ok (.bipush 102, 2) := by decide +kernel
theorem dX8_isPart_27 : decode cX8_isPart 27 = .ok (.invokevirtual 208, 3) := by decide +kernel
theorem dX8_isPart_30 : decode cX8_isPart 30 = .ok (.ifCond .eq 7, 3) := by decide +kernel
theorem dX8_isPart_33 : decode cX8_isPart 33 = .ok (.iconst 1, 1) := by decide +kernel
theorem dX8_isPart_34 : decode cX8_isPart 34 = .ok (.goto 4, 3) := by decide +kernel
theorem dX8_isPart_37 : decode cX8_isPart 37 = .ok (.iconst 0, 1) := by decide +kernel
theorem dX8_isPart_38 : decode cX8_isPart 38 = .ok (.ireturn, 1) := by decide +kernel
theorem dX8_reads_0 : decode cX8_reads 0 = .ok (.aload_n 0, 1) := by decide +kernel
theorem dX8_reads_1 : decode cX8_reads 1 = .ok (.iconst 0, 1) := by decide +kernel
theorem dX8_reads_2 : decode cX8_reads 2 = .ok (.putfield 205, 3) := by decide +kernel
theorem dX8_reads_5 : decode cX8_reads 5 = .ok (.iconst 0, 1) := by decide +kernel
theorem dX8_reads_6 : decode cX8_reads 6 = .ok (.istore_n 1, 1) := by decide +kernel
theorem dX8_reads_7 : decode cX8_reads 7 = .ok (.aload_n 0, 1) := by decide +kernel
theorem dX8_reads_8 : decode cX8_reads 8 = .ok (.getfield 151, 3) := by decide +kernel
theorem dX8_reads_11 : decode cX8_reads 11 = .ok (.ifCond .le 7, 3) := by decide +kernel
theorem dX8_reads_14 : decode cX8_reads 14 = .ok (.iconst 1, 1) := by decide +kernel
theorem dX8_reads_15 : decode cX8_reads 15 = .ok (.goto 4, 3) := by decide +kernel
theorem dX8_reads_18 : decode cX8_reads 18 = .ok (.iconst 0, 1) := by decide +kernel
theorem dX8_reads_19 : decode cX8_reads 19 = .ok (.istore_n 2, 1) := by decide +kernel
theorem dX8_reads_20 : decode cX8_reads 20 = .ok (.iload_n 2, 1) := by decide +kernel
theorem dX8_reads_21 : decode cX8_reads 21 = .ok (.ifCond .eq 61, 3) := by decide +kernel
theorem dX8_reads_24 : decode cX8_reads 24 = .ok (.aload_n 0, 1) := by decide +kernel
theorem dX8_reads_25 : decode cX8_reads 25 = .ok (.iload_n 1, 1) := by decide +kernel
theorem dX8_reads_26 : decode cX8_reads 26 = .ok (.bipush 8, 2) := by decide +kernel
theorem dX8_reads_28 : decode cX8_reads 28 = .ok (.if_icmp .ne 18, 3) := by decide +kernel
theorem dX8_reads_31 : decode cX8_reads 31 = .ok (.aload_n 0, 1) := by decide +kernel
theorem dX8_reads_32 : decode cX8_reads 32 = .ok (.getfield 205, 3) := by decide +kernel
theorem dX8_reads_35 : decode cX8_reads 35 = .ok (.aload_n 0, 1) := by decide +kernel
theorem dX8_reads_36 : decode cX8_reads 36 = .ok (.getfield 151, 3) := by decide +kernel
theorem dX8_reads_39 : decode cX8_reads 39 = .ok (.if_icmp .ge 7, 3) := by decide +kernel
theorem dX8_reads_42 : decode cX8_reads 42 = .ok (.iconst 2, 1) := by decide +kernel
theorem dX8_reads_43 : decode cX8_reads 43 = .ok (.goto 4, 3) := by decide +kernel
theorem dX8_reads_46 : decode cX8_reads 46 = .ok (.iconst 1, 1) := by decide +kernel
theorem dX8_reads_47 : decode cX8_reads 47 = .ok (.putfield 211, 3) := by decide +kernel
theorem dX8_reads_50 : decode cX8_reads 50 = .ok (.aload_n 0, 1) := by decide +kernel
theorem dX8_reads_51 : decode cX8_reads 51 = .ok (.getfield 211, 3) := by decide +kernel
theorem dX8_reads_54 : decode cX8_reads 54 = .ok (.iconst 2, 1) := by decide +kernel
theorem dX8_reads_55 : decode cX8_reads 55 = .ok (.if_icmp .eq 10, 3) := by decide +kernel
theorem dX8_reads_58 : decode cX8_reads 58 = .ok (.aload_n 0, 1) := by decide +kernel
theorem dX8_reads_59 : decode cX8_reads 59 = .ok (.invokevirtual 214, 3) := by decide +kernel
theorem dX8_reads_62 : decode cX8_reads 62 = .ok (.ifCond .ne 5, 3) := by decide +kernel
theorem dX8_reads_65 : decode cX8_reads 65 = .ok (.iconst (-1), 1) := by decide +kernel
theorem dX8_reads_66 : decode cX8_reads 66 = .ok (.ireturn, 1) := by decide +kernel
theorem dX8_reads_67 : decode cX8_reads 67 = .ok (.iinc 1 1, 3) := by decide +kernel
theorem dX8_reads_70 : decode cX8_reads 70 = .ok (.aload_n 0, 1) := by decide +kernel
theorem dX8_reads_71 : decode cX8_reads 71 = .ok (.bipush 44, 2) := by decide +kernel
theorem dX8_reads_73 : decode cX8_reads 73 = .ok (.bipush 44, 2) := by decide +kernel
theorem dX8_reads_75 : decode cX8_reads 75 = .ok (.invokevirtual 208, 3) := by decide +kernel
theorem dX8_reads_78 : decode cX8_reads 78 = .ok (.istore_n 2, 1) := by decide +kernel
theorem dX8_reads_79 : decode cX8_reads 79 = .ok (.goto (-59), 3) := by decide +kernel
theorem dX8_reads_82 : decode cX8_reads 82 = .ok (.aload_n 0, 1) := by decide +kernel
theorem dX8_reads_83 : decode cX8_reads 83 = .ok (.getfield 205, 3) := by decide +kernel
theorem dX8_reads_86 : decode cX8_reads 86 = .ok (.aload_n 0, 1) := by decide +kernel
theorem dX8_reads_87 : decode cX8_reads 87 = .ok (.getfield 151, 3) := by decide +kernel
theorem dX8_reads_90 : decode cX8_reads 90 = .ok (.if_icmp .ge 7, 3) := by decide +kernel
theorem dX8_reads_93 : decode cX8_reads 93 = .ok (.iconst (-1), 1) := by decide +kernel
theorem dX8_reads_94 : decode cX8_reads 94 = .ok (.goto 4, 3) := by decide +kernel
theorem dX8_reads_97 : decode cX8_reads 97 = .ok (.iload_n 1, 1) := by decide +kernel
theorem dX8_reads_98 : decode cX8_reads 98 = .ok (.ireturn, 1) := by decide +kernel
theorem dX8_fault_0 : decode cX8_fault 0 = .ok (.iload_n 1, 1) := by decide +kernel
theorem dX8_fault_1 : decode cX8_fault 1 = .ok (.iconst 0, 1) := by decide +kernel
theorem dX8_fault_2 : decode cX8_fault 2 = .ok (.iconst 1, 1) := by decide +kernel
theorem dX8_fault_3 : decode cX8_fault 3 = .ok (.invokestatic 49, 3) := by decide +kernel
theorem dX8_fault_6 : decode cX8_fault 6 = .ok (.ifCond .ne 6, 3) := by decide +kernel
theorem dX8_fault_9 : decode cX8_fault 9 = .ok (.ldc 53, 2) := by decide +kernel
theorem dX8_fault_11 : decode cX8_fault 11 = .ok (.ireturn, 1) := by decide +kernel
theorem dX8_fault_12 : decode cX8_fault 12 = .ok (.aload_n 0, 1) := by decide +kernel
theorem dX8_fault_13 : decode cX8_fault 13 = .ok (.invokevirtual 218, 3) := by decide +kernel
theorem dX8_fault_16 : decode cX8_fault 16 = .ok (.ifCond .lt 8, 3) := by decide +kernel
theorem dX8_fault_19 : decode cX8_fault 19 = .ok (.ldc 150, 2) := by decide +kernel
theorem dX8_fault_21 : decode cX8_fault 21 = .ok (.goto 18, 3) := by decide +kernel
theorem dX8_fault_24 : decode cX8_fault 24 = .ok (.iload_n 1, 1) := by decide +kernel
theorem dX8_fault_25 : decode cX8_fault 25 = .ok (.ifCond .ne 10, 3) := by decide +kernel
theorem dX8_fault_28 : decode cX8_fault 28 = .ok (.aload_n 0, 1) := by decide +kernel
theorem dX8_fault_29 : decode cX8_fault 29 = .ok (.getfield 205, 3) := by decide +kernel
theorem dX8_fault_32 : decode cX8_fault 32 = .ok (.goto 7, 3) := by decide +kernel
theorem dX8_fault_35 : decode cX8_fault 35 = .ok (.aload_n 0, 1) := by decide +kernel
theorem dX8_fault_36 : decode cX8_fault 36 = .ok (.getfield 211, 3) := by decide +kernel
theorem dX8_fault_39 : decode cX8_fault 39 = .ok (.ireturn, 1) := by decide +kernel
theorem dX8_replaces_0 : decode cX8_replaces 0 = .ok (.aload_n 0, 1) := by decide +kernel
theorem dX8_replaces_1 : decode cX8_replaces 1 = .ok (.iload_n 1, 1) := by decide +kernel
theorem dX8_replaces_2 : decode cX8_replaces 2 = .ok (.aload_n 0, 1) := by decide +kernel
theorem dX8_replaces_3 : decode cX8_replaces 3 = .ok (.iload_n 1, 1) := by decide +kernel
theorem dX8_replaces_4 : decode cX8_replaces 4 = .ok (.invokevirtual 65, 3) := by decide +kernel
theorem dX8_replaces_7 : decode cX8_replaces 7 = .ok (.invokevirtual 128, 3) := by decide +kernel
theorem dX8_replaces_10 : decode cX8_replaces 10 = .ok (.istore_n 3, 1) := by decide +kernel
theorem dX8_replaces_11 : decode cX8_replaces 11 = .ok (.iconst 0, 1) := by decide +kernel
theorem dX8_replaces_12 : decode cX8_replaces 12 = .ok (.istore 4, 2) := by decide +kernel
theorem dX8_replaces_14 : decode cX8_replaces 14 = .ok (.iload 4, 2) := by decide +kernel
theorem dX8_replaces_16 : decode cX8_replaces 16 = .ok (.iload_n 2, 1) := by decide +kernel
theorem dX8_replaces_17 : decode cX8_replaces 17 = .ok (.if_icmp .ge 55, 3) := by decide +kernel
theorem dX8_replaces_20 : decode cX8_replaces 20 = .ok (.aload_n 0, 1) := by decide +kernel
theorem dX8_replaces_21 : decode cX8_replaces 21 = .ok (.iload_n 1, 1) := by decide +kernel
theorem dX8_replaces_22 : decode cX8_replaces 22 = .ok (.aload_n 0, 1) := by decide +kernel
theorem dX8_replaces_23 : decode cX8_replaces 23 = .ok (.getfield 19, 3) := by decide +kernel
theorem dX8_replaces_26 : decode cX8_replaces 26 = .ok (.iconst 4, 1) := by decide +kernel
theorem dX8_replaces_27 : decode cX8_replaces 27 = .ok (.iload 4, 2) := by decide +kernel
theorem dX8_replaces_29 : decode cX8_replaces 29 = .ok (.imul, 1) := by decide +kernel
theorem dX8_replaces_30 : decode cX8_replaces 30 = .ok (.iaload, 1) := by decide +kernel
theorem dX8_replaces_31 : decode cX8_replaces 31 = .ok (.bipush 48, 2) := by decide +kernel
theorem dX8_replaces_33 : decode cX8_replaces 33 = .ok (.isub, 1) := by decide +kernel
theorem dX8_replaces_34 : decode cX8_replaces 34 = .ok (.aload_n 0, 1) := by decide +kernel
theorem dX8_replaces_35 : decode cX8_replaces 35 = .ok (.getfield 19, 3) := by decide +kernel
theorem dX8_replaces_38 : decode cX8_replaces 38 = .ok (.iconst 4, 1) := by decide +kernel
theorem dX8_replaces_39 : decode cX8_replaces 39 = .ok (.iload 4, 2) := by decide +kernel
theorem dX8_replaces_41 : decode cX8_replaces 41 = .ok (.imul, 1) := by decide +kernel
theorem dX8_replaces_42 : decode cX8_replaces 42 = .ok (.iconst 1, 1) := by decide +kernel
theorem dX8_replaces_43 : decode cX8_replaces 43 = .ok (.iadd, 1) := by decide +kernel
theorem dX8_replaces_44 : decode cX8_replaces 44 = .ok (.iaload, 1) := by decide +kernel
theorem dX8_replaces_45 : decode cX8_replaces 45 = .ok (.bipush 97, 2) := by decide +kernel
theorem dX8_replaces_47 : decode cX8_replaces 47 = .ok (.isub, 1) := by decide +kernel
theorem dX8_replaces_48 : decode cX8_replaces 48 = .ok (.aload_n 0, 1) := by decide +kernel
theorem dX8_replaces_49 : decode cX8_replaces 49 = .ok (.getfield 19, 3) := by decide +kernel
theorem dX8_replaces_52 : decode cX8_replaces 52 = .ok (.iconst 4, 1) := by decide +kernel
theorem dX8_replaces_53 : decode cX8_replaces 53 = .ok (.iload 4, 2) := by decide +kernel
theorem dX8_replaces_55 : decode cX8_replaces 55 = .ok (.imul, 1) := by decide +kernel
theorem dX8_replaces_56 : decode cX8_replaces 56 = .ok (.iconst 2, 1) := by decide +kernel
theorem dX8_replaces_57 : decode cX8_replaces 57 = .ok (.iadd, 1) := by decide +kernel
theorem dX8_replaces_58 : decode cX8_replaces 58 = .ok (.iaload, 1) := by decide +kernel
theorem dX8_replaces_59 : decode cX8_replaces 59 = .ok (.bipush 97, 2) := by decide +kernel
theorem dX8_replaces_61 : decode cX8_replaces 61 = .ok (.isub, 1) := by decide +kernel
theorem dX8_replaces_62 : decode cX8_replaces 62 = .ok (.invokevirtual 124, 3) := by decide +kernel
theorem dX8_replaces_65 : decode cX8_replaces 65 = .ok (.istore_n 3, 1) := by decide +kernel
theorem dX8_replaces_66 : decode cX8_replaces 66 = .ok (.iinc 4 1, 3) := by decide +kernel
theorem dX8_replaces_69 : decode cX8_replaces 69 = .ok (.goto (-55), 3) := by decide +kernel
theorem dX8_replaces_72 : decode cX8_replaces 72 = .ok (.iload_n 3, 1) := by decide +kernel
theorem dX8_replaces_73 : decode cX8_replaces 73 = .ok (.ireturn, 1) := by decide +kernel
theorem dX8_read_0 : decode cX8_read 0 = .ok (.aload_n 0, 1) := by decide +kernel
theorem dX8_read_1 : decode cX8_read 1 = .ok (.invokevirtual 109, 3) := by decide +kernel
theorem dX8_read_4 : decode cX8_read 4 = .ok (.iload_n 1, 1) := by decide +kernel
theorem dX8_read_5 : decode cX8_read 5 = .ok (.invokestatic 118, 3) := by decide +kernel
theorem dX8_read_8 : decode cX8_read 8 = .ok (.ifCond .ne 6, 3) := by decide +kernel
theorem dX8_read_11 : decode cX8_read 11 = .ok (.ldc 53, 2) := by decide +kernel
theorem dX8_read_13 : decode cX8_read 13 = .ok (.ireturn, 1) := by decide +kernel
theorem dX8_read_14 : decode cX8_read 14 = .ok (.aload_n 0, 1) := by decide +kernel
theorem dX8_read_15 : decode cX8_read 15 = .ok (.invokevirtual 218, 3) := by decide +kernel
theorem dX8_read_18 : decode cX8_read 18 = .ok (.istore_n 2, 1) := by decide +kernel
theorem dX8_read_19 : decode cX8_read 19 = .ok (.iload_n 2, 1) := by decide +kernel
theorem dX8_read_20 : decode cX8_read 20 = .ok (.ifCond .ge 8, 3) := by decide +kernel
theorem dX8_read_23 : decode cX8_read 23 = .ok (.ldc 80, 2) := by decide +kernel
theorem dX8_read_25 : decode cX8_read 25 = .ok (.goto 13, 3) := by decide +kernel
theorem dX8_read_28 : decode cX8_read 28 = .ok (.aload_n 0, 1) := by decide +kernel
theorem dX8_read_29 : decode cX8_read 29 = .ok (.aload_n 0, 1) := by decide +kernel
theorem dX8_read_30 : decode cX8_read 30 = .ok (.iload_n 1, 1) := by decide +kernel
theorem dX8_read_31 : decode cX8_read 31 = .ok (.iload_n 2, 1) := by decide +kernel
theorem dX8_read_32 : decode cX8_read 32 = .ok (.invokevirtual 221, 3) := by decide +kernel
theorem dX8_read_35 : decode cX8_read 35 = .ok (.invokevirtual 115, 3) := by decide +kernel
theorem dX8_read_38 : decode cX8_read 38 = .ok (.ireturn, 1) := by decide +kernel
theorem dJ9_floorDiv_7cf53_0 : decode cJ9_floorDiv_7cf53 0 = .ok (.iload_n 0, 1) := by decide +kernel
theorem dJ9_floorDiv_7cf53_1 : decode cJ9_floorDiv_7cf53 1 = .ok (.iload_n 1, 1) := by decide +kernel
theorem dJ9_floorDiv_7cf53_2 : decode cJ9_floorDiv_7cf53 2 = .ok (.idiv, 1) := by decide +kernel
theorem dJ9_floorDiv_7cf53_3 : decode cJ9_floorDiv_7cf53 3 = .ok (.istore_n 2, 1) := by decide +kernel
theorem dJ9_floorDiv_7cf53_4 : decode cJ9_floorDiv_7cf53 4 = .ok (.iload_n 0, 1) := by decide +kernel
theorem dJ9_floorDiv_7cf53_5 : decode cJ9_floorDiv_7cf53 5 = .ok (.iload_n 1, 1) := by decide +kernel
theorem dJ9_floorDiv_7cf53_6 : decode cJ9_floorDiv_7cf53 6 = .ok (.ixor, 1) := by decide +kernel
theorem dJ9_floorDiv_7cf53_7 : decode cJ9_floorDiv_7cf53 7 = .ok (.ifCond .ge 14, 3) := by decide +kernel
theorem dJ9_floorDiv_7cf53_10 : decode cJ9_floorDiv_7cf53 10 = .ok (.iload_n 2, 1) := by decide +kernel
theorem dJ9_floorDiv_7cf53_11 : decode cJ9_floorDiv_7cf53 11 = .ok (.iload_n 1, 1) := by decide +kernel
theorem dJ9_floorDiv_7cf53_12 : decode cJ9_floorDiv_7cf53 12 = .ok (.imul, 1) := by decide +kernel
theorem dJ9_floorDiv_7cf53_13 : decode cJ9_floorDiv_7cf53 13 = .ok (.iload_n 0, 1) := by decide +kernel
theorem dJ9_floorDiv_7cf53_14 : decode cJ9_floorDiv_7cf53 14 = .ok (.if_icmp .eq 7, 3) := by decide +kernel
theorem dJ9_floorDiv_7cf53_17 : decode cJ9_floorDiv_7cf53 17 = .ok (.iload_n 2, 1) := by decide +kernel
theorem dJ9_floorDiv_7cf53_18 : decode cJ9_floorDiv_7cf53 18 = .ok (.iconst 1, 1) := by decide +kernel
theorem dJ9_floorDiv_7cf53_19 : decode cJ9_floorDiv_7cf53 19 = .ok (.isub, 1) := by decide +kernel
theorem dJ9_floorDiv_7cf53_20 : decode cJ9_floorDiv_7cf53 20 = .ok (.ireturn, 1) := by decide +kernel
theorem dJ9_floorDiv_7cf53_21 : decode cJ9_floorDiv_7cf53 21 = .ok (.iload_n 2, 1) := by decide +kernel
theorem dJ9_floorDiv_7cf53_22 : decode cJ9_floorDiv_7cf53 22 = .ok (.ireturn, 1) := by decide +kernel
theorem dJ9_abs_0f7a4_0 : decode cJ9_abs_0f7a4 0 = .ok (.iload_n 0, 1) := by decide +kernel
theorem dJ9_abs_0f7a4_1 : decode cJ9_abs_0f7a4 1 = .ok (.ifCond .ge 8, 3) := by decide +kernel
theorem dJ9_abs_0f7a4_4 : decode cJ9_abs_0f7a4 4 = .ok (.iload_n 0, 1) := by decide +kernel
theorem dJ9_abs_0f7a4_5 : decode cJ9_abs_0f7a4 5 = .ok (.ineg, 1) := by decide +kernel
theorem dJ9_abs_0f7a4_6 : decode cJ9_abs_0f7a4 6 = .ok (.goto 4, 3) := by decide +kernel
theorem dJ9_abs_0f7a4_9 : decode cJ9_abs_0f7a4 9 = .ok (.iload_n 0, 1) := by decide +kernel
theorem dJ9_abs_0f7a4_10 : decode cJ9_abs_0f7a4 10 = .ok (.ireturn, 1) := by decide +kernel
theorem dJ9_max_7cf53_0 : decode cJ9_max_7cf53 0 = .ok (.iload_n 0, 1) := by decide +kernel
theorem dJ9_max_7cf53_1 : decode cJ9_max_7cf53 1 = .ok (.iload_n 1, 1) := by decide +kernel
theorem dJ9_max_7cf53_2 : decode cJ9_max_7cf53 2 = .ok (.if_icmp .lt 7, 3) := by decide +kernel
theorem dJ9_max_7cf53_5 : decode cJ9_max_7cf53 5 = .ok (.iload_n 0, 1) := by decide +kernel
theorem dJ9_max_7cf53_6 : decode cJ9_max_7cf53 6 = .ok (.goto 4, 3) := by decide +kernel
theorem dJ9_max_7cf53_9 : decode cJ9_max_7cf53 9 = .ok (.iload_n 1, 1) := by decide +kernel
theorem dJ9_max_7cf53_10 : decode cJ9_max_7cf53 10 = .ok (.ireturn, 1) := by decide +kernel
theorem dJ9_min_7cf53_0 : decode cJ9_min_7cf53 0 = .ok (.iload_n 0, 1) := by decide +kernel
theorem dJ9_min_7cf53_1 : decode cJ9_min_7cf53 1 = .ok (.iload_n 1, 1) := by decide +kernel
theorem dJ9_min_7cf53_2 : decode cJ9_min_7cf53 2 = .ok (.if_icmp .gt 7, 3) := by decide +kernel
theorem dJ9_min_7cf53_5 : decode cJ9_min_7cf53 5 = .ok (.iload_n 0, 1) := by decide +kernel
theorem dJ9_min_7cf53_6 : decode cJ9_min_7cf53 6 = .ok (.goto 4, 3) := by decide +kernel
theorem dJ9_min_7cf53_9 : decode cJ9_min_7cf53 9 = .ok (.iload_n 1, 1) := by decide +kernel
theorem dJ9_min_7cf53_10 : decode cJ9_min_7cf53 10 = .ok (.ireturn, 1) := by decide +kernel
theorem dJ7_fill_53178_0 : decode cJ7_fill_53178 0 = .ok (.iconst 0, 1) := by decide +kernel
theorem dJ7_fill_53178_1 : decode cJ7_fill_53178 1 = .ok (.istore_n 2, 1) := by decide +kernel
theorem dJ7_fill_53178_2 : decode cJ7_fill_53178 2 = .ok (.aload_n 0, 1) := by decide +kernel
theorem dJ7_fill_53178_3 : decode cJ7_fill_53178 3 = .ok (.arraylength, 1) := by decide +kernel
theorem dJ7_fill_53178_4 : decode cJ7_fill_53178 4 = .ok (.istore_n 3, 1) := by decide +kernel
theorem dJ7_fill_53178_5 : decode cJ7_fill_53178 5 = .ok (.iload_n 2, 1) := by decide +kernel
theorem dJ7_fill_53178_6 : decode cJ7_fill_53178 6 = .ok (.iload_n 3, 1) := by decide +kernel
theorem dJ7_fill_53178_7 : decode cJ7_fill_53178 7 = .ok (.if_icmp .ge 13, 3) := by decide +kernel
theorem dJ7_fill_53178_10 : decode cJ7_fill_53178 10 = .ok (.aload_n 0, 1) := by decide +kernel
theorem dJ7_fill_53178_11 : decode cJ7_fill_53178 11 = .ok (.iload_n 2, 1) := by decide +kernel
theorem dJ7_fill_53178_12 : decode cJ7_fill_53178 12 = .ok (.iload_n 1, 1) := by decide +kernel
theorem dJ7_fill_53178_13 : decode cJ7_fill_53178 13 = .ok (.iastore, 1) := by decide +kernel
theorem dJ7_fill_53178_14 : decode cJ7_fill_53178 14 = .ok (.iinc 2 1, 3) := by decide +kernel
theorem dJ7_fill_53178_17 : decode cJ7_fill_53178 17 = .ok (.goto (-12), 3) := by decide +kernel
theorem dJ7_fill_53178_20 : decode cJ7_fill_53178 20 = .ok (.return_, 1) := by decide +kernel
theorem dL_law_0 : decode cL_law 0 = .ok (.new 7, 3) := by decide +kernel
theorem dL_law_3 : decode cL_law 3 = .ok (.dup, 1) := by decide +kernel
theorem dL_law_4 : decode cL_law 4 = .ok (.invokespecial 9, 3) := by decide +kernel
theorem dL_law_7 : decode cL_law 7 = .ok (.astore_n 1, 1) := by decide +kernel
theorem dL_law_8 : decode cL_law 8 = .ok (.new 10, 3) := by decide +kernel
theorem dL_law_11 : decode cL_law 11 = .ok (.dup, 1) := by decide +kernel
theorem dL_law_12 : decode cL_law 12 = .ok (.invokespecial 12, 3) := by decide +kernel
theorem dL_law_15 : decode cL_law 15 = .ok (.astore_n 2, 1) := by decide +kernel
theorem dL_law_16 : decode cL_law 16 = .ok (.iconst 0, 1) := by decide +kernel
theorem dL_law_17 : decode cL_law 17 = .ok (.istore_n 3, 1) := by decide +kernel
theorem dL_law_18 : decode cL_law 18 = .ok (.iload_n 3, 1) := by decide +kernel
theorem dL_law_19 : decode cL_law 19 = .ok (.aload_n 0, 1) := by decide +kernel
theorem dL_law_20 : decode cL_law 20 = .ok (.arraylength, 1) := by decide +kernel
theorem dL_law_21 : decode cL_law 21 = .ok (.iconst 5, 1) := by decide +kernel
theorem dL_law_22 : decode cL_law 22 = .ok (.isub, 1) := by decide +kernel
theorem dL_law_23 : decode cL_law 23 = .ok (.if_icmp .gt 879, 3) := by decide +kernel
theorem dL_law_26 : decode cL_law 26 = .ok (.aload_n 0, 1) := by decide +kernel
theorem dL_law_27 : decode cL_law 27 = .ok (.iload_n 3, 1) := by decide +kernel
theorem dL_law_28 : decode cL_law 28 = .ok (.iaload, 1) := by decide +kernel
theorem dL_law_29 : decode cL_law 29 = .ok (.bipush 31, 2) := by decide +kernel
theorem dL_law_31 : decode cL_law 31 = .ok (.iand, 1) := by decide +kernel
theorem dL_law_32 : decode cL_law 32 = .ok (.tableswitch 864 0 23 #[112, 145, 198, 231, 284, 317, 360, 383, 416, 449, 482, 505, 538, 581, 614, 637, 670, 703, 726, 769, 782, 805, 818, 841], 112) := by decide +kernel
theorem dL_law_144 : decode cL_law 144 = .ok (.aload_n 1, 1) := by decide +kernel
theorem dL_law_145 : decode cL_law 145 = .ok (.aload_n 0, 1) := by decide +kernel
theorem dL_law_146 : decode cL_law 146 = .ok (.iload_n 3, 1) := by decide +kernel
theorem dL_law_147 : decode cL_law 147 = .ok (.iconst 1, 1) := by decide +kernel
theorem dL_law_148 : decode cL_law 148 = .ok (.iadd, 1) := by decide +kernel
theorem dL_law_149 : decode cL_law 149 = .ok (.iaload, 1) := by decide +kernel
theorem dL_law_150 : decode cL_law 150 = .ok (.aload_n 0, 1) := by decide +kernel
theorem dL_law_151 : decode cL_law 151 = .ok (.iload_n 3, 1) := by decide +kernel
theorem dL_law_152 : decode cL_law 152 = .ok (.iconst 2, 1) := by decide +kernel
theorem dL_law_153 : decode cL_law 153 = .ok (.iadd, 1) := by decide +kernel
theorem dL_law_154 : decode cL_law 154 = .ok (.iaload, 1) := by decide +kernel
theorem dL_law_155 : decode cL_law 155 = .ok (.invokevirtual 13, 3) := by decide +kernel
theorem dL_law_158 : decode cL_law 158 = .ok (.aload_n 2, 1) := by decide +kernel
theorem dL_law_159 : decode cL_law 159 = .ok (.aload_n 0, 1) := by decide +kernel
theorem dL_law_160 : decode cL_law 160 = .ok (.iload_n 3, 1) := by decide +kernel
theorem dL_law_161 : decode cL_law 161 = .ok (.iconst 1, 1) := by decide +kernel
theorem dL_law_162 : decode cL_law 162 = .ok (.iadd, 1) := by decide +kernel
theorem dL_law_163 : decode cL_law 163 = .ok (.iaload, 1) := by decide +kernel
theorem dL_law_164 : decode cL_law 164 = .ok (.aload_n 0, 1) := by decide +kernel
theorem dL_law_165 : decode cL_law 165 = .ok (.iload_n 3, 1) := by decide +kernel
theorem dL_law_166 : decode cL_law 166 = .ok (.iconst 2, 1) := by decide +kernel
theorem dL_law_167 : decode cL_law 167 = .ok (.iadd, 1) := by decide +kernel
theorem dL_law_168 : decode cL_law 168 = .ok (.iaload, 1) := by decide +kernel
theorem dL_law_169 : decode cL_law 169 = .ok (.invokevirtual 17, 3) := by decide +kernel
theorem dL_law_172 : decode cL_law 172 = .ok (.if_icmp .eq 724, 3) := by decide +kernel
theorem dL_law_175 : decode cL_law 175 = .ok (.iconst 0, 1) := by decide +kernel
theorem dL_law_176 : decode cL_law 176 = .ok (.ireturn, 1) := by decide +kernel
theorem dL_law_177 : decode cL_law 177 = .ok (.aload_n 1, 1) := by decide +kernel
theorem dL_law_178 : decode cL_law 178 = .ok (.aload_n 0, 1) := by decide +kernel
theorem dL_law_179 : decode cL_law 179 = .ok (.iload_n 3, 1) := by decide +kernel
theorem dL_law_180 : decode cL_law 180 = .ok (.iconst 1, 1) := by decide +kernel
theorem dL_law_181 : decode cL_law 181 = .ok (.iadd, 1) := by decide +kernel
theorem dL_law_182 : decode cL_law 182 = .ok (.iaload, 1) := by decide +kernel
theorem dL_law_183 : decode cL_law 183 = .ok (.aload_n 0, 1) := by decide +kernel
theorem dL_law_184 : decode cL_law 184 = .ok (.iload_n 3, 1) := by decide +kernel
theorem dL_law_185 : decode cL_law 185 = .ok (.iconst 2, 1) := by decide +kernel
theorem dL_law_186 : decode cL_law 186 = .ok (.iadd, 1) := by decide +kernel
theorem dL_law_187 : decode cL_law 187 = .ok (.iaload, 1) := by decide +kernel
theorem dL_law_188 : decode cL_law 188 = .ok (.aload_n 0, 1) := by decide +kernel
theorem dL_law_189 : decode cL_law 189 = .ok (.iload_n 3, 1) := by decide +kernel
theorem dL_law_190 : decode cL_law 190 = .ok (.iconst 3, 1) := by decide +kernel
theorem dL_law_191 : decode cL_law 191 = .ok (.iadd, 1) := by decide +kernel
theorem dL_law_192 : decode cL_law 192 = .ok (.iaload, 1) := by decide +kernel
theorem dL_law_193 : decode cL_law 193 = .ok (.aload_n 0, 1) := by decide +kernel
theorem dL_law_194 : decode cL_law 194 = .ok (.iload_n 3, 1) := by decide +kernel
theorem dL_law_195 : decode cL_law 195 = .ok (.iconst 4, 1) := by decide +kernel
theorem dL_law_196 : decode cL_law 196 = .ok (.iadd, 1) := by decide +kernel
theorem dL_law_197 : decode cL_law 197 = .ok (.iaload, 1) := by decide +kernel
theorem dL_law_198 : decode cL_law 198 = .ok (.invokevirtual 18, 3) := by decide +kernel
theorem dL_law_201 : decode cL_law 201 = .ok (.aload_n 2, 1) := by decide +kernel
theorem dL_law_202 : decode cL_law 202 = .ok (.aload_n 0, 1) := by decide +kernel
theorem dL_law_203 : decode cL_law 203 = .ok (.iload_n 3, 1) := by decide +kernel
theorem dL_law_204 : decode cL_law 204 = .ok (.iconst 1, 1) := by decide +kernel
theorem dL_law_205 : decode cL_law 205 = .ok (.iadd, 1) := by decide +kernel
theorem dL_law_206 : decode cL_law 206 = .ok (.iaload, 1) := by decide +kernel
theorem dL_law_207 : decode cL_law 207 = .ok (.aload_n 0, 1) := by decide +kernel
theorem dL_law_208 : decode cL_law 208 = .ok (.iload_n 3, 1) := by decide +kernel
theorem dL_law_209 : decode cL_law 209 = .ok (.iconst 2, 1) := by decide +kernel
theorem dL_law_210 : decode cL_law 210 = .ok (.iadd, 1) := by decide +kernel
theorem dL_law_211 : decode cL_law 211 = .ok (.iaload, 1) := by decide +kernel
theorem dL_law_212 : decode cL_law 212 = .ok (.aload_n 0, 1) := by decide +kernel
theorem dL_law_213 : decode cL_law 213 = .ok (.iload_n 3, 1) := by decide +kernel
theorem dL_law_214 : decode cL_law 214 = .ok (.iconst 3, 1) := by decide +kernel
theorem dL_law_215 : decode cL_law 215 = .ok (.iadd, 1) := by decide +kernel
theorem dL_law_216 : decode cL_law 216 = .ok (.iaload, 1) := by decide +kernel
theorem dL_law_217 : decode cL_law 217 = .ok (.aload_n 0, 1) := by decide +kernel
theorem dL_law_218 : decode cL_law 218 = .ok (.iload_n 3, 1) := by decide +kernel
theorem dL_law_219 : decode cL_law 219 = .ok (.iconst 4, 1) := by decide +kernel
theorem dL_law_220 : decode cL_law 220 = .ok (.iadd, 1) := by decide +kernel
theorem dL_law_221 : decode cL_law 221 = .ok (.iaload, 1) := by decide +kernel
theorem dL_law_222 : decode cL_law 222 = .ok (.invokevirtual 22, 3) := by decide +kernel
theorem dL_law_225 : decode cL_law 225 = .ok (.if_icmp .eq 671, 3) := by decide +kernel
theorem dL_law_228 : decode cL_law 228 = .ok (.iconst 0, 1) := by decide +kernel
theorem dL_law_229 : decode cL_law 229 = .ok (.ireturn, 1) := by decide +kernel
theorem dL_law_230 : decode cL_law 230 = .ok (.aload_n 1, 1) := by decide +kernel
theorem dL_law_231 : decode cL_law 231 = .ok (.aload_n 0, 1) := by decide +kernel
theorem dL_law_232 : decode cL_law 232 = .ok (.iload_n 3, 1) := by decide +kernel
theorem dL_law_233 : decode cL_law 233 = .ok (.iconst 1, 1) := by decide +kernel
theorem dL_law_234 : decode cL_law 234 = .ok (.iadd, 1) := by decide +kernel
theorem dL_law_235 : decode cL_law 235 = .ok (.iaload, 1) := by decide +kernel
theorem dL_law_236 : decode cL_law 236 = .ok (.aload_n 0, 1) := by decide +kernel
theorem dL_law_237 : decode cL_law 237 = .ok (.iload_n 3, 1) := by decide +kernel
theorem dL_law_238 : decode cL_law 238 = .ok (.iconst 2, 1) := by decide +kernel
theorem dL_law_239 : decode cL_law 239 = .ok (.iadd, 1) := by decide +kernel
theorem dL_law_240 : decode cL_law 240 = .ok (.iaload, 1) := by decide +kernel
theorem dL_law_241 : decode cL_law 241 = .ok (.invokevirtual 23, 3) := by decide +kernel
theorem dL_law_244 : decode cL_law 244 = .ok (.aload_n 2, 1) := by decide +kernel
theorem dL_law_245 : decode cL_law 245 = .ok (.aload_n 0, 1) := by decide +kernel
theorem dL_law_246 : decode cL_law 246 = .ok (.iload_n 3, 1) := by decide +kernel
theorem dL_law_247 : decode cL_law 247 = .ok (.iconst 1, 1) := by decide +kernel
theorem dL_law_248 : decode cL_law 248 = .ok (.iadd, 1) := by decide +kernel
theorem dL_law_249 : decode cL_law 249 = .ok (.iaload, 1) := by decide +kernel
theorem dL_law_250 : decode cL_law 250 = .ok (.aload_n 0, 1) := by decide +kernel
theorem dL_law_251 : decode cL_law 251 = .ok (.iload_n 3, 1) := by decide +kernel
theorem dL_law_252 : decode cL_law 252 = .ok (.iconst 2, 1) := by decide +kernel
theorem dL_law_253 : decode cL_law 253 = .ok (.iadd, 1) := by decide +kernel
theorem dL_law_254 : decode cL_law 254 = .ok (.iaload, 1) := by decide +kernel
theorem dL_law_255 : decode cL_law 255 = .ok (.invokevirtual 26, 3) := by decide +kernel
theorem dL_law_258 : decode cL_law 258 = .ok (.if_icmp .eq 638, 3) := by decide +kernel
theorem dL_law_261 : decode cL_law 261 = .ok (.iconst 0, 1) := by decide +kernel
theorem dL_law_262 : decode cL_law 262 = .ok (.ireturn, 1) := by decide +kernel
theorem dL_law_263 : decode cL_law 263 = .ok (.aload_n 1, 1) := by decide +kernel
theorem dL_law_264 : decode cL_law 264 = .ok (.aload_n 0, 1) := by decide +kernel
theorem dL_law_265 : decode cL_law 265 = .ok (.iload_n 3, 1) := by decide +kernel
theorem dL_law_266 : decode cL_law 266 = .ok (.iconst 1, 1) := by decide +kernel
theorem dL_law_267 : decode cL_law 267 = .ok (.iadd, 1) := by decide +kernel
theorem dL_law_268 : decode cL_law 268 = .ok (.iaload, 1) := by decide +kernel
theorem dL_law_269 : decode cL_law 269 = .ok (.aload_n 0, 1) := by decide +kernel
theorem dL_law_270 : decode cL_law 270 = .ok (.iload_n 3, 1) := by decide +kernel
theorem dL_law_271 : decode cL_law 271 = .ok (.iconst 2, 1) := by decide +kernel
theorem dL_law_272 : decode cL_law 272 = .ok (.iadd, 1) := by decide +kernel
theorem dL_law_273 : decode cL_law 273 = .ok (.iaload, 1) := by decide +kernel
theorem dL_law_274 : decode cL_law 274 = .ok (.aload_n 0, 1) := by decide +kernel
theorem dL_law_275 : decode cL_law 275 = .ok (.iload_n 3, 1) := by decide +kernel
theorem dL_law_276 : decode cL_law 276 = .ok (.iconst 3, 1) := by decide +kernel
theorem dL_law_277 : decode cL_law 277 = .ok (.iadd, 1) := by decide +kernel
theorem dL_law_278 : decode cL_law 278 = .ok (.iaload, 1) := by decide +kernel
theorem dL_law_279 : decode cL_law 279 = .ok (.aload_n 0, 1) := by decide +kernel
theorem dL_law_280 : decode cL_law 280 = .ok (.iload_n 3, 1) := by decide +kernel
theorem dL_law_281 : decode cL_law 281 = .ok (.iconst 4, 1) := by decide +kernel
theorem dL_law_282 : decode cL_law 282 = .ok (.iadd, 1) := by decide +kernel
theorem dL_law_283 : decode cL_law 283 = .ok (.iaload, 1) := by decide +kernel
theorem dL_law_284 : decode cL_law 284 = .ok (.invokevirtual 27, 3) := by decide +kernel
theorem dL_law_287 : decode cL_law 287 = .ok (.aload_n 2, 1) := by decide +kernel
theorem dL_law_288 : decode cL_law 288 = .ok (.aload_n 0, 1) := by decide +kernel
theorem dL_law_289 : decode cL_law 289 = .ok (.iload_n 3, 1) := by decide +kernel
theorem dL_law_290 : decode cL_law 290 = .ok (.iconst 1, 1) := by decide +kernel
theorem dL_law_291 : decode cL_law 291 = .ok (.iadd, 1) := by decide +kernel
theorem dL_law_292 : decode cL_law 292 = .ok (.iaload, 1) := by decide +kernel
theorem dL_law_293 : decode cL_law 293 = .ok (.aload_n 0, 1) := by decide +kernel
theorem dL_law_294 : decode cL_law 294 = .ok (.iload_n 3, 1) := by decide +kernel
theorem dL_law_295 : decode cL_law 295 = .ok (.iconst 2, 1) := by decide +kernel
theorem dL_law_296 : decode cL_law 296 = .ok (.iadd, 1) := by decide +kernel
theorem dL_law_297 : decode cL_law 297 = .ok (.iaload, 1) := by decide +kernel
theorem dL_law_298 : decode cL_law 298 = .ok (.aload_n 0, 1) := by decide +kernel
theorem dL_law_299 : decode cL_law 299 = .ok (.iload_n 3, 1) := by decide +kernel
theorem dL_law_300 : decode cL_law 300 = .ok (.iconst 3, 1) := by decide +kernel
theorem dL_law_301 : decode cL_law 301 = .ok (.iadd, 1) := by decide +kernel
theorem dL_law_302 : decode cL_law 302 = .ok (.iaload, 1) := by decide +kernel
theorem dL_law_303 : decode cL_law 303 = .ok (.aload_n 0, 1) := by decide +kernel
theorem dL_law_304 : decode cL_law 304 = .ok (.iload_n 3, 1) := by decide +kernel
theorem dL_law_305 : decode cL_law 305 = .ok (.iconst 4, 1) := by decide +kernel
theorem dL_law_306 : decode cL_law 306 = .ok (.iadd, 1) := by decide +kernel
theorem dL_law_307 : decode cL_law 307 = .ok (.iaload, 1) := by decide +kernel
theorem dL_law_308 : decode cL_law 308 = .ok (.invokevirtual 30, 3) := by decide +kernel
theorem dL_law_311 : decode cL_law 311 = .ok (.if_icmp .eq 585, 3) := by decide +kernel
theorem dL_law_314 : decode cL_law 314 = .ok (.iconst 0, 1) := by decide +kernel
theorem dL_law_315 : decode cL_law 315 = .ok (.ireturn, 1) := by decide +kernel
theorem dL_law_316 : decode cL_law 316 = .ok (.aload_n 1, 1) := by decide +kernel
theorem dL_law_317 : decode cL_law 317 = .ok (.aload_n 0, 1) := by decide +kernel
theorem dL_law_318 : decode cL_law 318 = .ok (.iload_n 3, 1) := by decide +kernel
theorem dL_law_319 : decode cL_law 319 = .ok (.iconst 1, 1) := by decide +kernel
theorem dL_law_320 : decode cL_law 320 = .ok (.iadd, 1) := by decide +kernel
theorem dL_law_321 : decode cL_law 321 = .ok (.iaload, 1) := by decide +kernel
theorem dL_law_322 : decode cL_law 322 = .ok (.aload_n 0, 1) := by decide +kernel
theorem dL_law_323 : decode cL_law 323 = .ok (.iload_n 3, 1) := by decide +kernel
theorem dL_law_324 : decode cL_law 324 = .ok (.iconst 2, 1) := by decide +kernel
theorem dL_law_325 : decode cL_law 325 = .ok (.iadd, 1) := by decide +kernel
theorem dL_law_326 : decode cL_law 326 = .ok (.iaload, 1) := by decide +kernel
theorem dL_law_327 : decode cL_law 327 = .ok (.invokevirtual 31, 3) := by decide +kernel
theorem dL_law_330 : decode cL_law 330 = .ok (.aload_n 2, 1) := by decide +kernel
theorem dL_law_331 : decode cL_law 331 = .ok (.aload_n 0, 1) := by decide +kernel
theorem dL_law_332 : decode cL_law 332 = .ok (.iload_n 3, 1) := by decide +kernel
theorem dL_law_333 : decode cL_law 333 = .ok (.iconst 1, 1) := by decide +kernel
theorem dL_law_334 : decode cL_law 334 = .ok (.iadd, 1) := by decide +kernel
theorem dL_law_335 : decode cL_law 335 = .ok (.iaload, 1) := by decide +kernel
theorem dL_law_336 : decode cL_law 336 = .ok (.aload_n 0, 1) := by decide +kernel
theorem dL_law_337 : decode cL_law 337 = .ok (.iload_n 3, 1) := by decide +kernel
theorem dL_law_338 : decode cL_law 338 = .ok (.iconst 2, 1) := by decide +kernel
theorem dL_law_339 : decode cL_law 339 = .ok (.iadd, 1) := by decide +kernel
theorem dL_law_340 : decode cL_law 340 = .ok (.iaload, 1) := by decide +kernel
theorem dL_law_341 : decode cL_law 341 = .ok (.invokevirtual 34, 3) := by decide +kernel
theorem dL_law_344 : decode cL_law 344 = .ok (.if_icmp .eq 552, 3) := by decide +kernel
theorem dL_law_347 : decode cL_law 347 = .ok (.iconst 0, 1) := by decide +kernel
theorem dL_law_348 : decode cL_law 348 = .ok (.ireturn, 1) := by decide +kernel
theorem dL_law_349 : decode cL_law 349 = .ok (.aload_n 1, 1) := by decide +kernel
theorem dL_law_350 : decode cL_law 350 = .ok (.aload_n 0, 1) := by decide +kernel
theorem dL_law_351 : decode cL_law 351 = .ok (.iload_n 3, 1) := by decide +kernel
theorem dL_law_352 : decode cL_law 352 = .ok (.iconst 1, 1) := by decide +kernel
theorem dL_law_353 : decode cL_law 353 = .ok (.iadd, 1) := by decide +kernel
theorem dL_law_354 : decode cL_law 354 = .ok (.iaload, 1) := by decide +kernel
theorem dL_law_355 : decode cL_law 355 = .ok (.aload_n 0, 1) := by decide +kernel
theorem dL_law_356 : decode cL_law 356 = .ok (.iload_n 3, 1) := by decide +kernel
theorem dL_law_357 : decode cL_law 357 = .ok (.iconst 2, 1) := by decide +kernel
theorem dL_law_358 : decode cL_law 358 = .ok (.iadd, 1) := by decide +kernel
theorem dL_law_359 : decode cL_law 359 = .ok (.iaload, 1) := by decide +kernel
theorem dL_law_360 : decode cL_law 360 = .ok (.aload_n 0, 1) := by decide +kernel
theorem dL_law_361 : decode cL_law 361 = .ok (.iload_n 3, 1) := by decide +kernel
theorem dL_law_362 : decode cL_law 362 = .ok (.iconst 3, 1) := by decide +kernel
theorem dL_law_363 : decode cL_law 363 = .ok (.iadd, 1) := by decide +kernel
theorem dL_law_364 : decode cL_law 364 = .ok (.iaload, 1) := by decide +kernel
theorem dL_law_365 : decode cL_law 365 = .ok (.invokevirtual 35, 3) := by decide +kernel
theorem dL_law_368 : decode cL_law 368 = .ok (.aload_n 2, 1) := by decide +kernel
theorem dL_law_369 : decode cL_law 369 = .ok (.aload_n 0, 1) := by decide +kernel
theorem dL_law_370 : decode cL_law 370 = .ok (.iload_n 3, 1) := by decide +kernel
theorem dL_law_371 : decode cL_law 371 = .ok (.iconst 1, 1) := by decide +kernel
theorem dL_law_372 : decode cL_law 372 = .ok (.iadd, 1) := by decide +kernel
theorem dL_law_373 : decode cL_law 373 = .ok (.iaload, 1) := by decide +kernel
theorem dL_law_374 : decode cL_law 374 = .ok (.aload_n 0, 1) := by decide +kernel
theorem dL_law_375 : decode cL_law 375 = .ok (.iload_n 3, 1) := by decide +kernel
theorem dL_law_376 : decode cL_law 376 = .ok (.iconst 2, 1) := by decide +kernel
theorem dL_law_377 : decode cL_law 377 = .ok (.iadd, 1) := by decide +kernel
theorem dL_law_378 : decode cL_law 378 = .ok (.iaload, 1) := by decide +kernel
theorem dL_law_379 : decode cL_law 379 = .ok (.aload_n 0, 1) := by decide +kernel
theorem dL_law_380 : decode cL_law 380 = .ok (.iload_n 3, 1) := by decide +kernel
theorem dL_law_381 : decode cL_law 381 = .ok (.iconst 3, 1) := by decide +kernel
theorem dL_law_382 : decode cL_law 382 = .ok (.iadd, 1) := by decide +kernel
theorem dL_law_383 : decode cL_law 383 = .ok (.iaload, 1) := by decide +kernel
theorem dL_law_384 : decode cL_law 384 = .ok (.invokevirtual 39, 3) := by decide +kernel
theorem dL_law_387 : decode cL_law 387 = .ok (.if_icmp .eq 509, 3) := by decide +kernel
theorem dL_law_390 : decode cL_law 390 = .ok (.iconst 0, 1) := by decide +kernel
theorem dL_law_391 : decode cL_law 391 = .ok (.ireturn, 1) := by decide +kernel
theorem dL_law_392 : decode cL_law 392 = .ok (.aload_n 1, 1) := by decide +kernel
theorem dL_law_393 : decode cL_law 393 = .ok (.aload_n 0, 1) := by decide +kernel
theorem dL_law_394 : decode cL_law 394 = .ok (.iload_n 3, 1) := by decide +kernel
theorem dL_law_395 : decode cL_law 395 = .ok (.iconst 1, 1) := by decide +kernel
theorem dL_law_396 : decode cL_law 396 = .ok (.iadd, 1) := by decide +kernel
theorem dL_law_397 : decode cL_law 397 = .ok (.iaload, 1) := by decide +kernel
theorem dL_law_398 : decode cL_law 398 = .ok (.invokevirtual 40, 3) := by decide +kernel
theorem dL_law_401 : decode cL_law 401 = .ok (.aload_n 2, 1) := by decide +kernel
theorem dL_law_402 : decode cL_law 402 = .ok (.aload_n 0, 1) := by decide +kernel
theorem dL_law_403 : decode cL_law 403 = .ok (.iload_n 3, 1) := by decide +kernel
theorem dL_law_404 : decode cL_law 404 = .ok (.iconst 1, 1) := by decide +kernel
theorem dL_law_405 : decode cL_law 405 = .ok (.iadd, 1) := by decide +kernel
theorem dL_law_406 : decode cL_law 406 = .ok (.iaload, 1) := by decide +kernel
theorem dL_law_407 : decode cL_law 407 = .ok (.invokevirtual 44, 3) := by decide +kernel
theorem dL_law_410 : decode cL_law 410 = .ok (.if_icmp .eq 486, 3) := by decide +kernel
theorem dL_law_413 : decode cL_law 413 = .ok (.iconst 0, 1) := by decide +kernel
theorem dL_law_414 : decode cL_law 414 = .ok (.ireturn, 1) := by decide +kernel
theorem dL_law_415 : decode cL_law 415 = .ok (.aload_n 1, 1) := by decide +kernel
theorem dL_law_416 : decode cL_law 416 = .ok (.aload_n 0, 1) := by decide +kernel
theorem dL_law_417 : decode cL_law 417 = .ok (.iload_n 3, 1) := by decide +kernel
theorem dL_law_418 : decode cL_law 418 = .ok (.iconst 1, 1) := by decide +kernel
theorem dL_law_419 : decode cL_law 419 = .ok (.iadd, 1) := by decide +kernel
theorem dL_law_420 : decode cL_law 420 = .ok (.iaload, 1) := by decide +kernel
theorem dL_law_421 : decode cL_law 421 = .ok (.aload_n 0, 1) := by decide +kernel
theorem dL_law_422 : decode cL_law 422 = .ok (.iload_n 3, 1) := by decide +kernel
theorem dL_law_423 : decode cL_law 423 = .ok (.iconst 2, 1) := by decide +kernel
theorem dL_law_424 : decode cL_law 424 = .ok (.iadd, 1) := by decide +kernel
theorem dL_law_425 : decode cL_law 425 = .ok (.iaload, 1) := by decide +kernel
theorem dL_law_426 : decode cL_law 426 = .ok (.invokevirtual 45, 3) := by decide +kernel
theorem dL_law_429 : decode cL_law 429 = .ok (.aload_n 2, 1) := by decide +kernel
theorem dL_law_430 : decode cL_law 430 = .ok (.aload_n 0, 1) := by decide +kernel
theorem dL_law_431 : decode cL_law 431 = .ok (.iload_n 3, 1) := by decide +kernel
theorem dL_law_432 : decode cL_law 432 = .ok (.iconst 1, 1) := by decide +kernel
theorem dL_law_433 : decode cL_law 433 = .ok (.iadd, 1) := by decide +kernel
theorem dL_law_434 : decode cL_law 434 = .ok (.iaload, 1) := by decide +kernel
theorem dL_law_435 : decode cL_law 435 = .ok (.aload_n 0, 1) := by decide +kernel
theorem dL_law_436 : decode cL_law 436 = .ok (.iload_n 3, 1) := by decide +kernel
theorem dL_law_437 : decode cL_law 437 = .ok (.iconst 2, 1) := by decide +kernel
theorem dL_law_438 : decode cL_law 438 = .ok (.iadd, 1) := by decide +kernel
theorem dL_law_439 : decode cL_law 439 = .ok (.iaload, 1) := by decide +kernel
theorem dL_law_440 : decode cL_law 440 = .ok (.invokevirtual 48, 3) := by decide +kernel
theorem dL_law_443 : decode cL_law 443 = .ok (.if_icmp .eq 453, 3) := by decide +kernel
theorem dL_law_446 : decode cL_law 446 = .ok (.iconst 0, 1) := by decide +kernel
theorem dL_law_447 : decode cL_law 447 = .ok (.ireturn, 1) := by decide +kernel
theorem dL_law_448 : decode cL_law 448 = .ok (.aload_n 1, 1) := by decide +kernel
theorem dL_law_449 : decode cL_law 449 = .ok (.aload_n 0, 1) := by decide +kernel
theorem dL_law_450 : decode cL_law 450 = .ok (.iload_n 3, 1) := by decide +kernel
theorem dL_law_451 : decode cL_law 451 = .ok (.iconst 1, 1) := by decide +kernel
theorem dL_law_452 : decode cL_law 452 = .ok (.iadd, 1) := by decide +kernel
theorem dL_law_453 : decode cL_law 453 = .ok (.iaload, 1) := by decide +kernel
theorem dL_law_454 : decode cL_law 454 = .ok (.aload_n 0, 1) := by decide +kernel
theorem dL_law_455 : decode cL_law 455 = .ok (.iload_n 3, 1) := by decide +kernel
theorem dL_law_456 : decode cL_law 456 = .ok (.iconst 2, 1) := by decide +kernel
theorem dL_law_457 : decode cL_law 457 = .ok (.iadd, 1) := by decide +kernel
theorem dL_law_458 : decode cL_law 458 = .ok (.iaload, 1) := by decide +kernel
theorem dL_law_459 : decode cL_law 459 = .ok (.invokevirtual 49, 3) := by decide +kernel
theorem dL_law_462 : decode cL_law 462 = .ok (.aload_n 2, 1) := by decide +kernel
theorem dL_law_463 : decode cL_law 463 = .ok (.aload_n 0, 1) := by decide +kernel
theorem dL_law_464 : decode cL_law 464 = .ok (.iload_n 3, 1) := by decide +kernel
theorem dL_law_465 : decode cL_law 465 = .ok (.iconst 1, 1) := by decide +kernel
theorem dL_law_466 : decode cL_law 466 = .ok (.iadd, 1) := by decide +kernel
theorem dL_law_467 : decode cL_law 467 = .ok (.iaload, 1) := by decide +kernel
theorem dL_law_468 : decode cL_law 468 = .ok (.aload_n 0, 1) := by decide +kernel
theorem dL_law_469 : decode cL_law 469 = .ok (.iload_n 3, 1) := by decide +kernel
theorem dL_law_470 : decode cL_law 470 = .ok (.iconst 2, 1) := by decide +kernel
theorem dL_law_471 : decode cL_law 471 = .ok (.iadd, 1) := by decide +kernel
theorem dL_law_472 : decode cL_law 472 = .ok (.iaload, 1) := by decide +kernel
theorem dL_law_473 : decode cL_law 473 = .ok (.invokevirtual 52, 3) := by decide +kernel
theorem dL_law_476 : decode cL_law 476 = .ok (.if_icmp .eq 420, 3) := by decide +kernel
theorem dL_law_479 : decode cL_law 479 = .ok (.iconst 0, 1) := by decide +kernel
theorem dL_law_480 : decode cL_law 480 = .ok (.ireturn, 1) := by decide +kernel
theorem dL_law_481 : decode cL_law 481 = .ok (.aload_n 1, 1) := by decide +kernel
theorem dL_law_482 : decode cL_law 482 = .ok (.aload_n 0, 1) := by decide +kernel
theorem dL_law_483 : decode cL_law 483 = .ok (.iload_n 3, 1) := by decide +kernel
theorem dL_law_484 : decode cL_law 484 = .ok (.iconst 1, 1) := by decide +kernel
theorem dL_law_485 : decode cL_law 485 = .ok (.iadd, 1) := by decide +kernel
theorem dL_law_486 : decode cL_law 486 = .ok (.iaload, 1) := by decide +kernel
theorem dL_law_487 : decode cL_law 487 = .ok (.aload_n 0, 1) := by decide +kernel
theorem dL_law_488 : decode cL_law 488 = .ok (.iload_n 3, 1) := by decide +kernel
theorem dL_law_489 : decode cL_law 489 = .ok (.iconst 2, 1) := by decide +kernel
theorem dL_law_490 : decode cL_law 490 = .ok (.iadd, 1) := by decide +kernel
theorem dL_law_491 : decode cL_law 491 = .ok (.iaload, 1) := by decide +kernel
theorem dL_law_492 : decode cL_law 492 = .ok (.invokevirtual 53, 3) := by decide +kernel
theorem dL_law_495 : decode cL_law 495 = .ok (.aload_n 2, 1) := by decide +kernel
theorem dL_law_496 : decode cL_law 496 = .ok (.aload_n 0, 1) := by decide +kernel
theorem dL_law_497 : decode cL_law 497 = .ok (.iload_n 3, 1) := by decide +kernel
theorem dL_law_498 : decode cL_law 498 = .ok (.iconst 1, 1) := by decide +kernel
theorem dL_law_499 : decode cL_law 499 = .ok (.iadd, 1) := by decide +kernel
theorem dL_law_500 : decode cL_law 500 = .ok (.iaload, 1) := by decide +kernel
theorem dL_law_501 : decode cL_law 501 = .ok (.aload_n 0, 1) := by decide +kernel
theorem dL_law_502 : decode cL_law 502 = .ok (.iload_n 3, 1) := by decide +kernel
theorem dL_law_503 : decode cL_law 503 = .ok (.iconst 2, 1) := by decide +kernel
theorem dL_law_504 : decode cL_law 504 = .ok (.iadd, 1) := by decide +kernel
theorem dL_law_505 : decode cL_law 505 = .ok (.iaload, 1) := by decide +kernel
theorem dL_law_506 : decode cL_law 506 = .ok (.invokevirtual 56, 3) := by decide +kernel
theorem dL_law_509 : decode cL_law 509 = .ok (.if_icmp .eq 387, 3) := by decide +kernel
theorem dL_law_512 : decode cL_law 512 = .ok (.iconst 0, 1) := by decide +kernel
theorem dL_law_513 : decode cL_law 513 = .ok (.ireturn, 1) := by decide +kernel
theorem dL_law_514 : decode cL_law 514 = .ok (.aload_n 1, 1) := by decide +kernel
theorem dL_law_515 : decode cL_law 515 = .ok (.aload_n 0, 1) := by decide +kernel
theorem dL_law_516 : decode cL_law 516 = .ok (.iload_n 3, 1) := by decide +kernel
theorem dL_law_517 : decode cL_law 517 = .ok (.iconst 1, 1) := by decide +kernel
theorem dL_law_518 : decode cL_law 518 = .ok (.iadd, 1) := by decide +kernel
theorem dL_law_519 : decode cL_law 519 = .ok (.iaload, 1) := by decide +kernel
theorem dL_law_520 : decode cL_law 520 = .ok (.invokevirtual 57, 3) := by decide +kernel
theorem dL_law_523 : decode cL_law 523 = .ok (.aload_n 2, 1) := by decide +kernel
theorem dL_law_524 : decode cL_law 524 = .ok (.aload_n 0, 1) := by decide +kernel
theorem dL_law_525 : decode cL_law 525 = .ok (.iload_n 3, 1) := by decide +kernel
theorem dL_law_526 : decode cL_law 526 = .ok (.iconst 1, 1) := by decide +kernel
theorem dL_law_527 : decode cL_law 527 = .ok (.iadd, 1) := by decide +kernel
theorem dL_law_528 : decode cL_law 528 = .ok (.iaload, 1) := by decide +kernel
theorem dL_law_529 : decode cL_law 529 = .ok (.invokevirtual 60, 3) := by decide +kernel
theorem dL_law_532 : decode cL_law 532 = .ok (.if_icmp .eq 364, 3) := by decide +kernel
theorem dL_law_535 : decode cL_law 535 = .ok (.iconst 0, 1) := by decide +kernel
theorem dL_law_536 : decode cL_law 536 = .ok (.ireturn, 1) := by decide +kernel
theorem dL_law_537 : decode cL_law 537 = .ok (.aload_n 1, 1) := by decide +kernel
theorem dL_law_538 : decode cL_law 538 = .ok (.aload_n 0, 1) := by decide +kernel
theorem dL_law_539 : decode cL_law 539 = .ok (.iload_n 3, 1) := by decide +kernel
theorem dL_law_540 : decode cL_law 540 = .ok (.iconst 1, 1) := by decide +kernel
theorem dL_law_541 : decode cL_law 541 = .ok (.iadd, 1) := by decide +kernel
theorem dL_law_542 : decode cL_law 542 = .ok (.iaload, 1) := by decide +kernel
theorem dL_law_543 : decode cL_law 543 = .ok (.aload_n 0, 1) := by decide +kernel
theorem dL_law_544 : decode cL_law 544 = .ok (.iload_n 3, 1) := by decide +kernel
theorem dL_law_545 : decode cL_law 545 = .ok (.iconst 2, 1) := by decide +kernel
theorem dL_law_546 : decode cL_law 546 = .ok (.iadd, 1) := by decide +kernel
theorem dL_law_547 : decode cL_law 547 = .ok (.iaload, 1) := by decide +kernel
theorem dL_law_548 : decode cL_law 548 = .ok (.invokevirtual 61, 3) := by decide +kernel
theorem dL_law_551 : decode cL_law 551 = .ok (.aload_n 2, 1) := by decide +kernel
theorem dL_law_552 : decode cL_law 552 = .ok (.aload_n 0, 1) := by decide +kernel
theorem dL_law_553 : decode cL_law 553 = .ok (.iload_n 3, 1) := by decide +kernel
theorem dL_law_554 : decode cL_law 554 = .ok (.iconst 1, 1) := by decide +kernel
theorem dL_law_555 : decode cL_law 555 = .ok (.iadd, 1) := by decide +kernel
theorem dL_law_556 : decode cL_law 556 = .ok (.iaload, 1) := by decide +kernel
theorem dL_law_557 : decode cL_law 557 = .ok (.aload_n 0, 1) := by decide +kernel
theorem dL_law_558 : decode cL_law 558 = .ok (.iload_n 3, 1) := by decide +kernel
theorem dL_law_559 : decode cL_law 559 = .ok (.iconst 2, 1) := by decide +kernel
theorem dL_law_560 : decode cL_law 560 = .ok (.iadd, 1) := by decide +kernel
theorem dL_law_561 : decode cL_law 561 = .ok (.iaload, 1) := by decide +kernel
theorem dL_law_562 : decode cL_law 562 = .ok (.invokevirtual 64, 3) := by decide +kernel
theorem dL_law_565 : decode cL_law 565 = .ok (.if_icmp .eq 331, 3) := by decide +kernel
theorem dL_law_568 : decode cL_law 568 = .ok (.iconst 0, 1) := by decide +kernel
theorem dL_law_569 : decode cL_law 569 = .ok (.ireturn, 1) := by decide +kernel
theorem dL_law_570 : decode cL_law 570 = .ok (.aload_n 1, 1) := by decide +kernel
theorem dL_law_571 : decode cL_law 571 = .ok (.aload_n 0, 1) := by decide +kernel
theorem dL_law_572 : decode cL_law 572 = .ok (.iload_n 3, 1) := by decide +kernel
theorem dL_law_573 : decode cL_law 573 = .ok (.iconst 1, 1) := by decide +kernel
theorem dL_law_574 : decode cL_law 574 = .ok (.iadd, 1) := by decide +kernel
theorem dL_law_575 : decode cL_law 575 = .ok (.iaload, 1) := by decide +kernel
theorem dL_law_576 : decode cL_law 576 = .ok (.aload_n 0, 1) := by decide +kernel
theorem dL_law_577 : decode cL_law 577 = .ok (.iload_n 3, 1) := by decide +kernel
theorem dL_law_578 : decode cL_law 578 = .ok (.iconst 2, 1) := by decide +kernel
theorem dL_law_579 : decode cL_law 579 = .ok (.iadd, 1) := by decide +kernel
theorem dL_law_580 : decode cL_law 580 = .ok (.iaload, 1) := by decide +kernel
theorem dL_law_581 : decode cL_law 581 = .ok (.aload_n 0, 1) := by decide +kernel
theorem dL_law_582 : decode cL_law 582 = .ok (.iload_n 3, 1) := by decide +kernel
theorem dL_law_583 : decode cL_law 583 = .ok (.iconst 3, 1) := by decide +kernel
theorem dL_law_584 : decode cL_law 584 = .ok (.iadd, 1) := by decide +kernel
theorem dL_law_585 : decode cL_law 585 = .ok (.iaload, 1) := by decide +kernel
theorem dL_law_586 : decode cL_law 586 = .ok (.invokevirtual 65, 3) := by decide +kernel
theorem dL_law_589 : decode cL_law 589 = .ok (.aload_n 2, 1) := by decide +kernel
theorem dL_law_590 : decode cL_law 590 = .ok (.aload_n 0, 1) := by decide +kernel
theorem dL_law_591 : decode cL_law 591 = .ok (.iload_n 3, 1) := by decide +kernel
theorem dL_law_592 : decode cL_law 592 = .ok (.iconst 1, 1) := by decide +kernel
theorem dL_law_593 : decode cL_law 593 = .ok (.iadd, 1) := by decide +kernel
theorem dL_law_594 : decode cL_law 594 = .ok (.iaload, 1) := by decide +kernel
theorem dL_law_595 : decode cL_law 595 = .ok (.aload_n 0, 1) := by decide +kernel
theorem dL_law_596 : decode cL_law 596 = .ok (.iload_n 3, 1) := by decide +kernel
theorem dL_law_597 : decode cL_law 597 = .ok (.iconst 2, 1) := by decide +kernel
theorem dL_law_598 : decode cL_law 598 = .ok (.iadd, 1) := by decide +kernel
theorem dL_law_599 : decode cL_law 599 = .ok (.iaload, 1) := by decide +kernel
theorem dL_law_600 : decode cL_law 600 = .ok (.aload_n 0, 1) := by decide +kernel
theorem dL_law_601 : decode cL_law 601 = .ok (.iload_n 3, 1) := by decide +kernel
theorem dL_law_602 : decode cL_law 602 = .ok (.iconst 3, 1) := by decide +kernel
theorem dL_law_603 : decode cL_law 603 = .ok (.iadd, 1) := by decide +kernel
theorem dL_law_604 : decode cL_law 604 = .ok (.iaload, 1) := by decide +kernel
theorem dL_law_605 : decode cL_law 605 = .ok (.invokevirtual 68, 3) := by decide +kernel
theorem dL_law_608 : decode cL_law 608 = .ok (.if_icmp .eq 288, 3) := by decide +kernel
theorem dL_law_611 : decode cL_law 611 = .ok (.iconst 0, 1) := by decide +kernel
theorem dL_law_612 : decode cL_law 612 = .ok (.ireturn, 1) := by decide +kernel
theorem dL_law_613 : decode cL_law 613 = .ok (.aload_n 1, 1) := by decide +kernel
theorem dL_law_614 : decode cL_law 614 = .ok (.aload_n 0, 1) := by decide +kernel
theorem dL_law_615 : decode cL_law 615 = .ok (.iload_n 3, 1) := by decide +kernel
theorem dL_law_616 : decode cL_law 616 = .ok (.iconst 1, 1) := by decide +kernel
theorem dL_law_617 : decode cL_law 617 = .ok (.iadd, 1) := by decide +kernel
theorem dL_law_618 : decode cL_law 618 = .ok (.iaload, 1) := by decide +kernel
theorem dL_law_619 : decode cL_law 619 = .ok (.aload_n 0, 1) := by decide +kernel
theorem dL_law_620 : decode cL_law 620 = .ok (.iload_n 3, 1) := by decide +kernel
theorem dL_law_621 : decode cL_law 621 = .ok (.iconst 2, 1) := by decide +kernel
theorem dL_law_622 : decode cL_law 622 = .ok (.iadd, 1) := by decide +kernel
theorem dL_law_623 : decode cL_law 623 = .ok (.iaload, 1) := by decide +kernel
theorem dL_law_624 : decode cL_law 624 = .ok (.invokevirtual 69, 3) := by decide +kernel
theorem dL_law_627 : decode cL_law 627 = .ok (.aload_n 2, 1) := by decide +kernel
theorem dL_law_628 : decode cL_law 628 = .ok (.aload_n 0, 1) := by decide +kernel
theorem dL_law_629 : decode cL_law 629 = .ok (.iload_n 3, 1) := by decide +kernel
theorem dL_law_630 : decode cL_law 630 = .ok (.iconst 1, 1) := by decide +kernel
theorem dL_law_631 : decode cL_law 631 = .ok (.iadd, 1) := by decide +kernel
theorem dL_law_632 : decode cL_law 632 = .ok (.iaload, 1) := by decide +kernel
theorem dL_law_633 : decode cL_law 633 = .ok (.aload_n 0, 1) := by decide +kernel
theorem dL_law_634 : decode cL_law 634 = .ok (.iload_n 3, 1) := by decide +kernel
theorem dL_law_635 : decode cL_law 635 = .ok (.iconst 2, 1) := by decide +kernel
theorem dL_law_636 : decode cL_law 636 = .ok (.iadd, 1) := by decide +kernel
theorem dL_law_637 : decode cL_law 637 = .ok (.iaload, 1) := by decide +kernel
theorem dL_law_638 : decode cL_law 638 = .ok (.invokevirtual 72, 3) := by decide +kernel
theorem dL_law_641 : decode cL_law 641 = .ok (.if_icmp .eq 255, 3) := by decide +kernel
theorem dL_law_644 : decode cL_law 644 = .ok (.iconst 0, 1) := by decide +kernel
theorem dL_law_645 : decode cL_law 645 = .ok (.ireturn, 1) := by decide +kernel
theorem dL_law_646 : decode cL_law 646 = .ok (.aload_n 1, 1) := by decide +kernel
theorem dL_law_647 : decode cL_law 647 = .ok (.aload_n 0, 1) := by decide +kernel
theorem dL_law_648 : decode cL_law 648 = .ok (.iload_n 3, 1) := by decide +kernel
theorem dL_law_649 : decode cL_law 649 = .ok (.iconst 1, 1) := by decide +kernel
theorem dL_law_650 : decode cL_law 650 = .ok (.iadd, 1) := by decide +kernel
theorem dL_law_651 : decode cL_law 651 = .ok (.iaload, 1) := by decide +kernel
theorem dL_law_652 : decode cL_law 652 = .ok (.invokevirtual 73, 3) := by decide +kernel
theorem dL_law_655 : decode cL_law 655 = .ok (.aload_n 2, 1) := by decide +kernel
theorem dL_law_656 : decode cL_law 656 = .ok (.aload_n 0, 1) := by decide +kernel
theorem dL_law_657 : decode cL_law 657 = .ok (.iload_n 3, 1) := by decide +kernel
theorem dL_law_658 : decode cL_law 658 = .ok (.iconst 1, 1) := by decide +kernel
theorem dL_law_659 : decode cL_law 659 = .ok (.iadd, 1) := by decide +kernel
theorem dL_law_660 : decode cL_law 660 = .ok (.iaload, 1) := by decide +kernel
theorem dL_law_661 : decode cL_law 661 = .ok (.invokevirtual 76, 3) := by decide +kernel
theorem dL_law_664 : decode cL_law 664 = .ok (.if_icmp .eq 232, 3) := by decide +kernel
theorem dL_law_667 : decode cL_law 667 = .ok (.iconst 0, 1) := by decide +kernel
theorem dL_law_668 : decode cL_law 668 = .ok (.ireturn, 1) := by decide +kernel
theorem dL_law_669 : decode cL_law 669 = .ok (.aload_n 1, 1) := by decide +kernel
theorem dL_law_670 : decode cL_law 670 = .ok (.aload_n 0, 1) := by decide +kernel
theorem dL_law_671 : decode cL_law 671 = .ok (.iload_n 3, 1) := by decide +kernel
theorem dL_law_672 : decode cL_law 672 = .ok (.iconst 1, 1) := by decide +kernel
theorem dL_law_673 : decode cL_law 673 = .ok (.iadd, 1) := by decide +kernel
theorem dL_law_674 : decode cL_law 674 = .ok (.iaload, 1) := by decide +kernel
theorem dL_law_675 : decode cL_law 675 = .ok (.aload_n 0, 1) := by decide +kernel
theorem dL_law_676 : decode cL_law 676 = .ok (.iload_n 3, 1) := by decide +kernel
theorem dL_law_677 : decode cL_law 677 = .ok (.iconst 2, 1) := by decide +kernel
theorem dL_law_678 : decode cL_law 678 = .ok (.iadd, 1) := by decide +kernel
theorem dL_law_679 : decode cL_law 679 = .ok (.iaload, 1) := by decide +kernel
theorem dL_law_680 : decode cL_law 680 = .ok (.invokevirtual 77, 3) := by decide +kernel
theorem dL_law_683 : decode cL_law 683 = .ok (.aload_n 2, 1) := by decide +kernel
theorem dL_law_684 : decode cL_law 684 = .ok (.aload_n 0, 1) := by decide +kernel
theorem dL_law_685 : decode cL_law 685 = .ok (.iload_n 3, 1) := by decide +kernel
theorem dL_law_686 : decode cL_law 686 = .ok (.iconst 1, 1) := by decide +kernel
theorem dL_law_687 : decode cL_law 687 = .ok (.iadd, 1) := by decide +kernel
theorem dL_law_688 : decode cL_law 688 = .ok (.iaload, 1) := by decide +kernel
theorem dL_law_689 : decode cL_law 689 = .ok (.aload_n 0, 1) := by decide +kernel
theorem dL_law_690 : decode cL_law 690 = .ok (.iload_n 3, 1) := by decide +kernel
theorem dL_law_691 : decode cL_law 691 = .ok (.iconst 2, 1) := by decide +kernel
theorem dL_law_692 : decode cL_law 692 = .ok (.iadd, 1) := by decide +kernel
theorem dL_law_693 : decode cL_law 693 = .ok (.iaload, 1) := by decide +kernel
theorem dL_law_694 : decode cL_law 694 = .ok (.invokevirtual 80, 3) := by decide +kernel
theorem dL_law_697 : decode cL_law 697 = .ok (.if_icmp .eq 199, 3) := by decide +kernel
theorem dL_law_700 : decode cL_law 700 = .ok (.iconst 0, 1) := by decide +kernel
theorem dL_law_701 : decode cL_law 701 = .ok (.ireturn, 1) := by decide +kernel
theorem dL_law_702 : decode cL_law 702 = .ok (.aload_n 1, 1) := by decide +kernel
theorem dL_law_703 : decode cL_law 703 = .ok (.aload_n 0, 1) := by decide +kernel
theorem dL_law_704 : decode cL_law 704 = .ok (.iload_n 3, 1) := by decide +kernel
theorem dL_law_705 : decode cL_law 705 = .ok (.iconst 1, 1) := by decide +kernel
theorem dL_law_706 : decode cL_law 706 = .ok (.iadd, 1) := by decide +kernel
theorem dL_law_707 : decode cL_law 707 = .ok (.iaload, 1) := by decide +kernel
theorem dL_law_708 : decode cL_law 708 = .ok (.aload_n 0, 1) := by decide +kernel
theorem dL_law_709 : decode cL_law 709 = .ok (.iload_n 3, 1) := by decide +kernel
theorem dL_law_710 : decode cL_law 710 = .ok (.iconst 2, 1) := by decide +kernel
theorem dL_law_711 : decode cL_law 711 = .ok (.iadd, 1) := by decide +kernel
theorem dL_law_712 : decode cL_law 712 = .ok (.iaload, 1) := by decide +kernel
theorem dL_law_713 : decode cL_law 713 = .ok (.invokevirtual 81, 3) := by decide +kernel
theorem dL_law_716 : decode cL_law 716 = .ok (.aload_n 2, 1) := by decide +kernel
theorem dL_law_717 : decode cL_law 717 = .ok (.aload_n 0, 1) := by decide +kernel
theorem dL_law_718 : decode cL_law 718 = .ok (.iload_n 3, 1) := by decide +kernel
theorem dL_law_719 : decode cL_law 719 = .ok (.iconst 1, 1) := by decide +kernel
theorem dL_law_720 : decode cL_law 720 = .ok (.iadd, 1) := by decide +kernel
theorem dL_law_721 : decode cL_law 721 = .ok (.iaload, 1) := by decide +kernel
theorem dL_law_722 : decode cL_law 722 = .ok (.aload_n 0, 1) := by decide +kernel
theorem dL_law_723 : decode cL_law 723 = .ok (.iload_n 3, 1) := by decide +kernel
theorem dL_law_724 : decode cL_law 724 = .ok (.iconst 2, 1) := by decide +kernel
theorem dL_law_725 : decode cL_law 725 = .ok (.iadd, 1) := by decide +kernel
theorem dL_law_726 : decode cL_law 726 = .ok (.iaload, 1) := by decide +kernel
theorem dL_law_727 : decode cL_law 727 = .ok (.invokevirtual 84, 3) := by decide +kernel
theorem dL_law_730 : decode cL_law 730 = .ok (.if_icmp .eq 166, 3) := by decide +kernel
theorem dL_law_733 : decode cL_law 733 = .ok (.iconst 0, 1) := by decide +kernel
theorem dL_law_734 : decode cL_law 734 = .ok (.ireturn, 1) := by decide +kernel
theorem dL_law_735 : decode cL_law 735 = .ok (.aload_n 1, 1) := by decide +kernel
theorem dL_law_736 : decode cL_law 736 = .ok (.aload_n 0, 1) := by decide +kernel
theorem dL_law_737 : decode cL_law 737 = .ok (.iload_n 3, 1) := by decide +kernel
theorem dL_law_738 : decode cL_law 738 = .ok (.iconst 1, 1) := by decide +kernel
theorem dL_law_739 : decode cL_law 739 = .ok (.iadd, 1) := by decide +kernel
theorem dL_law_740 : decode cL_law 740 = .ok (.iaload, 1) := by decide +kernel
theorem dL_law_741 : decode cL_law 741 = .ok (.invokevirtual 85, 3) := by decide +kernel
theorem dL_law_744 : decode cL_law 744 = .ok (.aload_n 2, 1) := by decide +kernel
theorem dL_law_745 : decode cL_law 745 = .ok (.aload_n 0, 1) := by decide +kernel
theorem dL_law_746 : decode cL_law 746 = .ok (.iload_n 3, 1) := by decide +kernel
theorem dL_law_747 : decode cL_law 747 = .ok (.iconst 1, 1) := by decide +kernel
theorem dL_law_748 : decode cL_law 748 = .ok (.iadd, 1) := by decide +kernel
theorem dL_law_749 : decode cL_law 749 = .ok (.iaload, 1) := by decide +kernel
theorem dL_law_750 : decode cL_law 750 = .ok (.invokevirtual 88, 3) := by decide +kernel
theorem dL_law_753 : decode cL_law 753 = .ok (.if_icmp .eq 143, 3) := by decide +kernel
theorem dL_law_756 : decode cL_law 756 = .ok (.iconst 0, 1) := by decide +kernel
theorem dL_law_757 : decode cL_law 757 = .ok (.ireturn, 1) := by decide +kernel
theorem dL_law_758 : decode cL_law 758 = .ok (.aload_n 1, 1) := by decide +kernel
theorem dL_law_759 : decode cL_law 759 = .ok (.aload_n 0, 1) := by decide +kernel
theorem dL_law_760 : decode cL_law 760 = .ok (.iload_n 3, 1) := by decide +kernel
theorem dL_law_761 : decode cL_law 761 = .ok (.iconst 1, 1) := by decide +kernel
theorem dL_law_762 : decode cL_law 762 = .ok (.iadd, 1) := by decide +kernel
theorem dL_law_763 : decode cL_law 763 = .ok (.iaload, 1) := by decide +kernel
theorem dL_law_764 : decode cL_law 764 = .ok (.aload_n 0, 1) := by decide +kernel
theorem dL_law_765 : decode cL_law 765 = .ok (.iload_n 3, 1) := by decide +kernel
theorem dL_law_766 : decode cL_law 766 = .ok (.iconst 2, 1) := by decide +kernel
theorem dL_law_767 : decode cL_law 767 = .ok (.iadd, 1) := by decide +kernel
theorem dL_law_768 : decode cL_law 768 = .ok (.iaload, 1) := by decide +kernel
theorem dL_law_769 : decode cL_law 769 = .ok (.aload_n 0, 1) := by decide +kernel
theorem dL_law_770 : decode cL_law 770 = .ok (.iload_n 3, 1) := by decide +kernel
theorem dL_law_771 : decode cL_law 771 = .ok (.iconst 3, 1) := by decide +kernel
theorem dL_law_772 : decode cL_law 772 = .ok (.iadd, 1) := by decide +kernel
theorem dL_law_773 : decode cL_law 773 = .ok (.iaload, 1) := by decide +kernel
theorem dL_law_774 : decode cL_law 774 = .ok (.invokevirtual 89, 3) := by decide +kernel
theorem dL_law_777 : decode cL_law 777 = .ok (.aload_n 2, 1) := by decide +kernel
theorem dL_law_778 : decode cL_law 778 = .ok (.aload_n 0, 1) := by decide +kernel
theorem dL_law_779 : decode cL_law 779 = .ok (.iload_n 3, 1) := by decide +kernel
theorem dL_law_780 : decode cL_law 780 = .ok (.iconst 1, 1) := by decide +kernel
theorem dL_law_781 : decode cL_law 781 = .ok (.iadd, 1) := by decide +kernel
theorem dL_law_782 : decode cL_law 782 = .ok (.iaload, 1) := by decide +kernel
theorem dL_law_783 : decode cL_law 783 = .ok (.aload_n 0, 1) := by decide +kernel
theorem dL_law_784 : decode cL_law 784 = .ok (.iload_n 3, 1) := by decide +kernel
theorem dL_law_785 : decode cL_law 785 = .ok (.iconst 2, 1) := by decide +kernel
theorem dL_law_786 : decode cL_law 786 = .ok (.iadd, 1) := by decide +kernel
theorem dL_law_787 : decode cL_law 787 = .ok (.iaload, 1) := by decide +kernel
theorem dL_law_788 : decode cL_law 788 = .ok (.aload_n 0, 1) := by decide +kernel
theorem dL_law_789 : decode cL_law 789 = .ok (.iload_n 3, 1) := by decide +kernel
theorem dL_law_790 : decode cL_law 790 = .ok (.iconst 3, 1) := by decide +kernel
theorem dL_law_791 : decode cL_law 791 = .ok (.iadd, 1) := by decide +kernel
theorem dL_law_792 : decode cL_law 792 = .ok (.iaload, 1) := by decide +kernel
theorem dL_law_793 : decode cL_law 793 = .ok (.invokevirtual 92, 3) := by decide +kernel
theorem dL_law_796 : decode cL_law 796 = .ok (.if_icmp .eq 100, 3) := by decide +kernel
theorem dL_law_799 : decode cL_law 799 = .ok (.iconst 0, 1) := by decide +kernel
theorem dL_law_800 : decode cL_law 800 = .ok (.ireturn, 1) := by decide +kernel
theorem dL_law_801 : decode cL_law 801 = .ok (.aload_n 1, 1) := by decide +kernel
theorem dL_law_802 : decode cL_law 802 = .ok (.invokevirtual 93, 3) := by decide +kernel
theorem dL_law_805 : decode cL_law 805 = .ok (.aload_n 2, 1) := by decide +kernel
theorem dL_law_806 : decode cL_law 806 = .ok (.invokevirtual 97, 3) := by decide +kernel
theorem dL_law_809 : decode cL_law 809 = .ok (.if_icmp .eq 87, 3) := by decide +kernel
theorem dL_law_812 : decode cL_law 812 = .ok (.iconst 0, 1) := by decide +kernel
theorem dL_law_813 : decode cL_law 813 = .ok (.ireturn, 1) := by decide +kernel
theorem dL_law_814 : decode cL_law 814 = .ok (.aload_n 1, 1) := by decide +kernel
theorem dL_law_815 : decode cL_law 815 = .ok (.aload_n 0, 1) := by decide +kernel
theorem dL_law_816 : decode cL_law 816 = .ok (.iload_n 3, 1) := by decide +kernel
theorem dL_law_817 : decode cL_law 817 = .ok (.iconst 1, 1) := by decide +kernel
theorem dL_law_818 : decode cL_law 818 = .ok (.iadd, 1) := by decide +kernel
theorem dL_law_819 : decode cL_law 819 = .ok (.iaload, 1) := by decide +kernel
theorem dL_law_820 : decode cL_law 820 = .ok (.invokevirtual 98, 3) := by decide +kernel
theorem dL_law_823 : decode cL_law 823 = .ok (.aload_n 2, 1) := by decide +kernel
theorem dL_law_824 : decode cL_law 824 = .ok (.aload_n 0, 1) := by decide +kernel
theorem dL_law_825 : decode cL_law 825 = .ok (.iload_n 3, 1) := by decide +kernel
theorem dL_law_826 : decode cL_law 826 = .ok (.iconst 1, 1) := by decide +kernel
theorem dL_law_827 : decode cL_law 827 = .ok (.iadd, 1) := by decide +kernel
theorem dL_law_828 : decode cL_law 828 = .ok (.iaload, 1) := by decide +kernel
theorem dL_law_829 : decode cL_law 829 = .ok (.invokevirtual 101, 3) := by decide +kernel
theorem dL_law_832 : decode cL_law 832 = .ok (.if_icmp .eq 64, 3) := by decide +kernel
theorem dL_law_835 : decode cL_law 835 = .ok (.iconst 0, 1) := by decide +kernel
theorem dL_law_836 : decode cL_law 836 = .ok (.ireturn, 1) := by decide +kernel
theorem dL_law_837 : decode cL_law 837 = .ok (.aload_n 1, 1) := by decide +kernel
theorem dL_law_838 : decode cL_law 838 = .ok (.invokevirtual 102, 3) := by decide +kernel
theorem dL_law_841 : decode cL_law 841 = .ok (.aload_n 2, 1) := by decide +kernel
theorem dL_law_842 : decode cL_law 842 = .ok (.invokevirtual 105, 3) := by decide +kernel
theorem dL_law_845 : decode cL_law 845 = .ok (.if_icmp .eq 51, 3) := by decide +kernel
theorem dL_law_848 : decode cL_law 848 = .ok (.iconst 0, 1) := by decide +kernel
theorem dL_law_849 : decode cL_law 849 = .ok (.ireturn, 1) := by decide +kernel
theorem dL_law_850 : decode cL_law 850 = .ok (.aload_n 1, 1) := by decide +kernel
theorem dL_law_851 : decode cL_law 851 = .ok (.aload_n 0, 1) := by decide +kernel
theorem dL_law_852 : decode cL_law 852 = .ok (.iload_n 3, 1) := by decide +kernel
theorem dL_law_853 : decode cL_law 853 = .ok (.iconst 1, 1) := by decide +kernel
theorem dL_law_854 : decode cL_law 854 = .ok (.iadd, 1) := by decide +kernel
theorem dL_law_855 : decode cL_law 855 = .ok (.iaload, 1) := by decide +kernel
theorem dL_law_856 : decode cL_law 856 = .ok (.invokevirtual 106, 3) := by decide +kernel
theorem dL_law_859 : decode cL_law 859 = .ok (.aload_n 2, 1) := by decide +kernel
theorem dL_law_860 : decode cL_law 860 = .ok (.aload_n 0, 1) := by decide +kernel
theorem dL_law_861 : decode cL_law 861 = .ok (.iload_n 3, 1) := by decide +kernel
theorem dL_law_862 : decode cL_law 862 = .ok (.iconst 1, 1) := by decide +kernel
theorem dL_law_863 : decode cL_law 863 = .ok (.iadd, 1) := by decide +kernel
theorem dL_law_864 : decode cL_law 864 = .ok (.iaload, 1) := by decide +kernel
theorem dL_law_865 : decode cL_law 865 = .ok (.invokevirtual 109, 3) := by decide +kernel
theorem dL_law_868 : decode cL_law 868 = .ok (.if_icmp .eq 28, 3) := by decide +kernel
theorem dL_law_871 : decode cL_law 871 = .ok (.iconst 0, 1) := by decide +kernel
theorem dL_law_872 : decode cL_law 872 = .ok (.ireturn, 1) := by decide +kernel
theorem dL_law_873 : decode cL_law 873 = .ok (.aload_n 1, 1) := by decide +kernel
theorem dL_law_874 : decode cL_law 874 = .ok (.aload_n 0, 1) := by decide +kernel
theorem dL_law_875 : decode cL_law 875 = .ok (.iload_n 3, 1) := by decide +kernel
theorem dL_law_876 : decode cL_law 876 = .ok (.iconst 1, 1) := by decide +kernel
theorem dL_law_877 : decode cL_law 877 = .ok (.iadd, 1) := by decide +kernel
theorem dL_law_878 : decode cL_law 878 = .ok (.iaload, 1) := by decide +kernel
theorem dL_law_879 : decode cL_law 879 = .ok (.invokevirtual 110, 3) := by decide +kernel
theorem dL_law_882 : decode cL_law 882 = .ok (.aload_n 2, 1) := by decide +kernel
theorem dL_law_883 : decode cL_law 883 = .ok (.aload_n 0, 1) := by decide +kernel
theorem dL_law_884 : decode cL_law 884 = .ok (.iload_n 3, 1) := by decide +kernel
theorem dL_law_885 : decode cL_law 885 = .ok (.iconst 1, 1) := by decide +kernel
theorem dL_law_886 : decode cL_law 886 = .ok (.iadd, 1) := by decide +kernel
theorem dL_law_887 : decode cL_law 887 = .ok (.iaload, 1) := by decide +kernel
theorem dL_law_888 : decode cL_law 888 = .ok (.invokevirtual 113, 3) := by decide +kernel
theorem dL_law_891 : decode cL_law 891 = .ok (.if_icmp .eq 5, 3) := by decide +kernel
theorem dL_law_894 : decode cL_law 894 = .ok (.iconst 0, 1) := by decide +kernel
theorem dL_law_895 : decode cL_law 895 = .ok (.ireturn, 1) := by decide +kernel
theorem dL_law_896 : decode cL_law 896 = .ok (.iinc 3 5, 3) := by decide +kernel
theorem dL_law_899 : decode cL_law 899 = .ok (.goto (-881), 3) := by decide +kernel
theorem dL_law_902 : decode cL_law 902 = .ok (.iconst 1, 1) := by decide +kernel
theorem dL_law_903 : decode cL_law 903 = .ok (.ireturn, 1) := by decide +kernel
