/-! decode rows -/
theorem dL_holds_456 : decode cL_holds 456 = .ok (.ldc 38, 2) := by decide +kernel
theorem dL_holds_458 : decode cL_holds 458 = .ok (.if_icmp .ne 7, 3) := by decide +kernel
theorem dL_holds_461 : decode cL_holds 461 = .ok (.iconst 1, 1) := by decide +kernel
theorem dL_holds_462 : decode cL_holds 462 = .ok (.goto 4, 3) := by decide +kernel
theorem dL_holds_465 : decode cL_holds 465 = .ok (.iconst 0, 1) := by decide +kernel
theorem dL_holds_466 : decode cL_holds 466 = .ok (.aload_n 0, 1) := by decide +kernel
theorem dL_holds_467 : decode cL_holds 467 = .ok (.iconst 1, 1) := by decide +kernel
theorem dL_holds_468 : decode cL_holds 468 = .ok (.invokevirtual 42, 3) := by decide +kernel
theorem dL_holds_471 : decode cL_holds 471 = .ok (.ldc 38, 2) := by decide +kernel
theorem dL_holds_473 : decode cL_holds 473 = .ok (.if_icmp .ne 7, 3) := by decide +kernel
theorem dL_holds_476 : decode cL_holds 476 = .ok (.iconst 1, 1) := by decide +kernel
theorem dL_holds_477 : decode cL_holds 477 = .ok (.goto 4, 3) := by decide +kernel
theorem dL_holds_480 : decode cL_holds 480 = .ok (.iconst 0, 1) := by decide +kernel
theorem dL_holds_481 : decode cL_holds 481 = .ok (.if_icmp .ne 7, 3) := by decide +kernel
theorem dL_holds_484 : decode cL_holds 484 = .ok (.iconst 1, 1) := by decide +kernel
theorem dL_holds_485 : decode cL_holds 485 = .ok (.goto 4, 3) := by decide +kernel
theorem dL_holds_488 : decode cL_holds 488 = .ok (.iconst 0, 1) := by decide +kernel
theorem dL_holds_489 : decode cL_holds 489 = .ok (.ireturn, 1) := by decide +kernel
theorem dL_types_0 : decode cL_types 0 = .ok (.iload_n 1, 1) := by decide +kernel
theorem dL_types_1 : decode cL_types 1 = .ok (.iconst 5, 1) := by decide +kernel
theorem dL_types_2 : decode cL_types 2 = .ok (.invokestatic 30, 3) := by decide +kernel
theorem dL_types_5 : decode cL_types 5 = .ok (.istore_n 2, 1) := by decide +kernel
theorem dL_types_6 : decode cL_types 6 = .ok (.aload_n 0, 1) := by decide +kernel
theorem dL_types_7 : decode cL_types 7 = .ok (.invokevirtual 45, 3) := by decide +kernel
theorem dL_types_10 : decode cL_types 10 = .ok (.ifCond .lt 7, 3) := by decide +kernel
theorem dL_types_13 : decode cL_types 13 = .ok (.iconst 1, 1) := by decide +kernel
theorem dL_types_14 : decode cL_types 14 = .ok (.goto 4, 3) := by decide +kernel
theorem dL_types_17 : decode cL_types 17 = .ok (.iconst 0, 1) := by decide +kernel
theorem dL_types_18 : decode cL_types 18 = .ok (.istore_n 3, 1) := by decide +kernel
theorem dL_types_19 : decode cL_types 19 = .ok (.iconst 0, 1) := by decide +kernel
theorem dL_types_20 : decode cL_types 20 = .ok (.istore 4, 2) := by decide +kernel
theorem dL_types_22 : decode cL_types 22 = .ok (.iload 4, 2) := by decide +kernel
theorem dL_types_24 : decode cL_types 24 = .ok (.iload_n 2, 1) := by decide +kernel
theorem dL_types_25 : decode cL_types 25 = .ok (.if_icmp .ge 115, 3) := by decide +kernel
theorem dL_types_28 : decode cL_types 28 = .ok (.iload_n 1, 1) := by decide +kernel
theorem dL_types_29 : decode cL_types 29 = .ok (.iconst 3, 1) := by decide +kernel
theorem dL_types_30 : decode cL_types 30 = .ok (.iconst 5, 1) := by decide +kernel
theorem dL_types_31 : decode cL_types 31 = .ok (.iload 4, 2) := by decide +kernel
theorem dL_types_33 : decode cL_types 33 = .ok (.imul, 1) := by decide +kernel
theorem dL_types_34 : decode cL_types 34 = .ok (.iadd, 1) := by decide +kernel
theorem dL_types_35 : decode cL_types 35 = .ok (.ishr, 1) := by decide +kernel
theorem dL_types_36 : decode cL_types 36 = .ok (.istore 5, 2) := by decide +kernel
theorem dL_types_38 : decode cL_types 38 = .ok (.iload_n 3, 1) := by decide +kernel
theorem dL_types_39 : decode cL_types 39 = .ok (.ifCond .eq 93, 3) := by decide +kernel
theorem dL_types_42 : decode cL_types 42 = .ok (.iload 4, 2) := by decide +kernel
theorem dL_types_44 : decode cL_types 44 = .ok (.ifCond .eq 12, 3) := by decide +kernel
theorem dL_types_47 : decode cL_types 47 = .ok (.aload_n 0, 1) := by decide +kernel
theorem dL_types_48 : decode cL_types 48 = .ok (.bipush 44, 2) := by decide +kernel
theorem dL_types_50 : decode cL_types 50 = .ok (.invokevirtual 49, 3) := by decide +kernel
theorem dL_types_53 : decode cL_types 53 = .ok (.ifCond .le 79, 3) := by decide +kernel
theorem dL_types_56 : decode cL_types 56 = .ok (.aload_n 0, 1) := by decide +kernel
theorem dL_types_57 : decode cL_types 57 = .ok (.bipush 49, 2) := by decide +kernel
theorem dL_types_59 : decode cL_types 59 = .ok (.iload 5, 2) := by decide +kernel
theorem dL_types_61 : decode cL_types 61 = .ok (.bipush 9, 2) := by decide +kernel
theorem dL_types_63 : decode cL_types 63 = .ok (.invokestatic 30, 3) := by decide +kernel
theorem dL_types_66 : decode cL_types 66 = .ok (.iadd, 1) := by decide +kernel
theorem dL_types_67 : decode cL_types 67 = .ok (.invokevirtual 49, 3) := by decide +kernel
theorem dL_types_70 : decode cL_types 70 = .ok (.ifCond .le 62, 3) := by decide +kernel
theorem dL_types_73 : decode cL_types 73 = .ok (.aload_n 0, 1) := by decide +kernel
theorem dL_types_74 : decode cL_types 74 = .ok (.bipush 97, 2) := by decide +kernel
theorem dL_types_76 : decode cL_types 76 = .ok (.iload 5, 2) := by decide +kernel
theorem dL_types_78 : decode cL_types 78 = .ok (.iconst 2, 1) := by decide +kernel
theorem dL_types_79 : decode cL_types 79 = .ok (.ishr, 1) := by decide +kernel
theorem dL_types_80 : decode cL_types 80 = .ok (.bipush 6, 2) := by decide +kernel
theorem dL_types_82 : decode cL_types 82 = .ok (.invokestatic 30, 3) := by decide +kernel
theorem dL_types_85 : decode cL_types 85 = .ok (.iadd, 1) := by decide +kernel
theorem dL_types_86 : decode cL_types 86 = .ok (.invokevirtual 49, 3) := by decide +kernel
theorem dL_types_89 : decode cL_types 89 = .ok (.ifCond .le 43, 3) := by decide +kernel
theorem dL_types_92 : decode cL_types 92 = .ok (.aload_n 0, 1) := by decide +kernel
theorem dL_types_93 : decode cL_types 93 = .ok (.bipush 97, 2) := by decide +kernel
theorem dL_types_95 : decode cL_types 95 = .ok (.iload 5, 2) := by decide +kernel
theorem dL_types_97 : decode cL_types 97 = .ok (.iconst 4, 1) := by decide +kernel
theorem dL_types_98 : decode cL_types 98 = .ok (.ishr, 1) := by decide +kernel
theorem dL_types_99 : decode cL_types 99 = .ok (.iload_n 1, 1) := by decide +kernel
theorem dL_types_100 : decode cL_types 100 = .ok (.bipush 25, 2) := by decide +kernel
theorem dL_types_102 : decode cL_types 102 = .ok (.ishr, 1) := by decide +kernel
theorem dL_types_103 : decode cL_types 103 = .ok (.bipush 8, 2) := by decide +kernel
theorem dL_types_105 : decode cL_types 105 = .ok (.invokestatic 30, 3) := by decide +kernel
theorem dL_types_108 : decode cL_types 108 = .ok (.ifCond .ne 8, 3) := by decide +kernel
theorem dL_types_111 : decode cL_types 111 = .ok (.bipush 7, 2) := by decide +kernel
theorem dL_types_113 : decode cL_types 113 = .ok (.goto 5, 3) := by decide +kernel
theorem dL_types_116 : decode cL_types 116 = .ok (.bipush 6, 2) := by decide +kernel
theorem dL_types_118 : decode cL_types 118 = .ok (.invokestatic 30, 3) := by decide +kernel
theorem dL_types_121 : decode cL_types 121 = .ok (.iadd, 1) := by decide +kernel
theorem dL_types_122 : decode cL_types 122 = .ok (.invokevirtual 49, 3) := by decide +kernel
theorem dL_types_125 : decode cL_types 125 = .ok (.ifCond .le 7, 3) := by decide +kernel
theorem dL_types_128 : decode cL_types 128 = .ok (.iconst 1, 1) := by decide +kernel
theorem dL_types_129 : decode cL_types 129 = .ok (.goto 4, 3) := by decide +kernel
theorem dL_types_132 : decode cL_types 132 = .ok (.iconst 0, 1) := by decide +kernel
theorem dL_types_133 : decode cL_types 133 = .ok (.istore_n 3, 1) := by decide +kernel
theorem dL_types_134 : decode cL_types 134 = .ok (.iinc 4 1, 3) := by decide +kernel
theorem dL_types_137 : decode cL_types 137 = .ok (.goto (-115), 3) := by decide +kernel
theorem dL_types_140 : decode cL_types 140 = .ok (.iload_n 3, 1) := by decide +kernel
theorem dL_types_141 : decode cL_types 141 = .ok (.ifCond .eq 28, 3) := by decide +kernel
theorem dL_types_144 : decode cL_types 144 = .ok (.iload_n 1, 1) := by decide +kernel
theorem dL_types_145 : decode cL_types 145 = .ok (.bipush 23, 2) := by decide +kernel
theorem dL_types_147 : decode cL_types 147 = .ok (.ishr, 1) := by decide +kernel
theorem dL_types_148 : decode cL_types 148 = .ok (.bipush 7, 2) := by decide +kernel
theorem dL_types_150 : decode cL_types 150 = .ok (.invokestatic 30, 3) := by decide +kernel
theorem dL_types_153 : decode cL_types 153 = .ok (.ifCond .gt 12, 3) := by decide +kernel
theorem dL_types_156 : decode cL_types 156 = .ok (.aload_n 0, 1) := by decide +kernel
theorem dL_types_157 : decode cL_types 157 = .ok (.bipush 44, 2) := by decide +kernel
theorem dL_types_159 : decode cL_types 159 = .ok (.invokevirtual 49, 3) := by decide +kernel
theorem dL_types_162 : decode cL_types 162 = .ok (.ifCond .le 7, 3) := by decide +kernel
theorem dL_types_165 : decode cL_types 165 = .ok (.iconst 1, 1) := by decide +kernel
theorem dL_types_166 : decode cL_types 166 = .ok (.goto 4, 3) := by decide +kernel
theorem dL_types_169 : decode cL_types 169 = .ok (.iconst 0, 1) := by decide +kernel
theorem dL_types_170 : decode cL_types 170 = .ok (.ireturn, 1) := by decide +kernel
theorem dL_reads_0 : decode cL_reads 0 = .ok (.aload_n 0, 1) := by decide +kernel
theorem dL_reads_1 : decode cL_reads 1 = .ok (.iconst 0, 1) := by decide +kernel
theorem dL_reads_2 : decode cL_reads 2 = .ok (.invokevirtual 52, 3) := by decide +kernel
theorem dL_reads_5 : decode cL_reads 5 = .ok (.istore_n 2, 1) := by decide +kernel
theorem dL_reads_6 : decode cL_reads 6 = .ok (.aload_n 0, 1) := by decide +kernel
theorem dL_reads_7 : decode cL_reads 7 = .ok (.iconst 1, 1) := by decide +kernel
theorem dL_reads_8 : decode cL_reads 8 = .ok (.invokevirtual 52, 3) := by decide +kernel
theorem dL_reads_11 : decode cL_reads 11 = .ok (.istore_n 3, 1) := by decide +kernel
theorem dL_reads_12 : decode cL_reads 12 = .ok (.aload_n 0, 1) := by decide +kernel
theorem dL_reads_13 : decode cL_reads 13 = .ok (.iconst 4, 1) := by decide +kernel
theorem dL_reads_14 : decode cL_reads 14 = .ok (.invokevirtual 13, 3) := by decide +kernel
theorem dL_reads_17 : decode cL_reads 17 = .ok (.istore 4, 2) := by decide +kernel
theorem dL_reads_19 : decode cL_reads 19 = .ok (.aload_n 0, 1) := by decide +kernel
theorem dL_reads_20 : decode cL_reads 20 = .ok (.iload_n 1, 1) := by decide +kernel
theorem dL_reads_21 : decode cL_reads 21 = .ok (.invokevirtual 55, 3) := by decide +kernel
theorem dL_reads_24 : decode cL_reads 24 = .ok (.istore 5, 2) := by decide +kernel
theorem dL_reads_26 : decode cL_reads 26 = .ok (.iload_n 2, 1) := by decide +kernel
theorem dL_reads_27 : decode cL_reads 27 = .ok (.ldc 38, 2) := by decide +kernel
theorem dL_reads_29 : decode cL_reads 29 = .ok (.if_icmp .ne 48, 3) := by decide +kernel
theorem dL_reads_32 : decode cL_reads 32 = .ok (.iload_n 3, 1) := by decide +kernel
theorem dL_reads_33 : decode cL_reads 33 = .ok (.ldc 38, 2) := by decide +kernel
theorem dL_reads_35 : decode cL_reads 35 = .ok (.if_icmp .ne 42, 3) := by decide +kernel
theorem dL_reads_38 : decode cL_reads 38 = .ok (.iload 4, 2) := by decide +kernel
theorem dL_reads_40 : decode cL_reads 40 = .ok (.ifCond .ne 11, 3) := by decide +kernel
theorem dL_reads_43 : decode cL_reads 43 = .ok (.iload 5, 2) := by decide +kernel
theorem dL_reads_45 : decode cL_reads 45 = .ok (.ifCond .ne 32, 3) := by decide +kernel
theorem dL_reads_48 : decode cL_reads 48 = .ok (.goto 14, 3) := by decide +kernel
theorem dL_reads_51 : decode cL_reads 51 = .ok (.iconst 4, 1) := by decide +kernel
theorem dL_reads_52 : decode cL_reads 52 = .ok (.iload 5, 2) := by decide +kernel
theorem dL_reads_54 : decode cL_reads 54 = .ok (.imul, 1) := by decide +kernel
theorem dL_reads_55 : decode cL_reads 55 = .ok (.iload 4, 2) := by decide +kernel
theorem dL_reads_57 : decode cL_reads 57 = .ok (.iconst 1, 1) := by decide +kernel
theorem dL_reads_58 : decode cL_reads 58 = .ok (.iadd, 1) := by decide +kernel
theorem dL_reads_59 : decode cL_reads 59 = .ok (.if_icmp .ne 18, 3) := by decide +kernel
theorem dL_reads_62 : decode cL_reads 62 = .ok (.aload_n 0, 1) := by decide +kernel
theorem dL_reads_63 : decode cL_reads 63 = .ok (.iload_n 1, 1) := by decide +kernel
theorem dL_reads_64 : decode cL_reads 64 = .ok (.iconst 0, 1) := by decide +kernel
theorem dL_reads_65 : decode cL_reads 65 = .ok (.invokevirtual 19, 3) := by decide +kernel
theorem dL_reads_68 : decode cL_reads 68 = .ok (.iload 5, 2) := by decide +kernel
theorem dL_reads_70 : decode cL_reads 70 = .ok (.if_icmp .ne 7, 3) := by decide +kernel
theorem dL_reads_73 : decode cL_reads 73 = .ok (.iconst 1, 1) := by decide +kernel
theorem dL_reads_74 : decode cL_reads 74 = .ok (.goto 4, 3) := by decide +kernel
theorem dL_reads_77 : decode cL_reads 77 = .ok (.iconst 0, 1) := by decide +kernel
theorem dL_reads_78 : decode cL_reads 78 = .ok (.istore 6, 2) := by decide +kernel
theorem dL_reads_80 : decode cL_reads 80 = .ok (.iload_n 2, 1) := by decide +kernel
theorem dL_reads_81 : decode cL_reads 81 = .ok (.ifCond .lt 29, 3) := by decide +kernel
theorem dL_reads_84 : decode cL_reads 84 = .ok (.iload_n 2, 1) := by decide +kernel
theorem dL_reads_85 : decode cL_reads 85 = .ok (.iload 4, 2) := by decide +kernel
theorem dL_reads_87 : decode cL_reads 87 = .ok (.if_icmp .gt 23, 3) := by decide +kernel
theorem dL_reads_90 : decode cL_reads 90 = .ok (.iload_n 3, 1) := by decide +kernel
theorem dL_reads_91 : decode cL_reads 91 = .ok (.ifCond .le 19, 3) := by decide +kernel
theorem dL_reads_94 : decode cL_reads 94 = .ok (.iload_n 3, 1) := by decide +kernel
theorem dL_reads_95 : decode cL_reads 95 = .ok (.iconst 3, 1) := by decide +kernel
theorem dL_reads_96 : decode cL_reads 96 = .ok (.if_icmp .ge 14, 3) := by decide +kernel
theorem dL_reads_99 : decode cL_reads 99 = .ok (.iload 5, 2) := by decide +kernel
theorem dL_reads_101 : decode cL_reads 101 = .ok (.ldc 58, 2) := by decide +kernel
theorem dL_reads_103 : decode cL_reads 103 = .ok (.if_icmp .ne 7, 3) := by decide +kernel
theorem dL_reads_106 : decode cL_reads 106 = .ok (.iconst 1, 1) := by decide +kernel
theorem dL_reads_107 : decode cL_reads 107 = .ok (.goto 4, 3) := by decide +kernel
theorem dL_reads_110 : decode cL_reads 110 = .ok (.iconst 0, 1) := by decide +kernel
theorem dL_reads_111 : decode cL_reads 111 = .ok (.istore 7, 2) := by decide +kernel
theorem dL_reads_113 : decode cL_reads 113 = .ok (.iload 6, 2) := by decide +kernel
theorem dL_reads_115 : decode cL_reads 115 = .ok (.ifCond .ne 8, 3) := by decide +kernel
theorem dL_reads_118 : decode cL_reads 118 = .ok (.iload 7, 2) := by decide +kernel
theorem dL_reads_120 : decode cL_reads 120 = .ok (.ifCond .eq 17, 3) := by decide +kernel
theorem dL_reads_123 : decode cL_reads 123 = .ok (.aload_n 0, 1) := by decide +kernel
theorem dL_reads_124 : decode cL_reads 124 = .ok (.iconst 4, 1) := by decide +kernel
theorem dL_reads_125 : decode cL_reads 125 = .ok (.invokevirtual 13, 3) := by decide +kernel
theorem dL_reads_128 : decode cL_reads 128 = .ok (.iload 4, 2) := by decide +kernel
theorem dL_reads_130 : decode cL_reads 130 = .ok (.if_icmp .ne 7, 3) := by decide +kernel
theorem dL_reads_133 : decode cL_reads 133 = .ok (.iconst 1, 1) := by decide +kernel
theorem dL_reads_134 : decode cL_reads 134 = .ok (.goto 4, 3) := by decide +kernel
theorem dL_reads_137 : decode cL_reads 137 = .ok (.iconst 0, 1) := by decide +kernel
theorem dL_reads_138 : decode cL_reads 138 = .ok (.ireturn, 1) := by decide +kernel
theorem dL_acts_0 : decode cL_acts 0 = .ok (.iload_n 1, 1) := by decide +kernel
theorem dL_acts_1 : decode cL_acts 1 = .ok (.bipush 16, 2) := by decide +kernel
theorem dL_acts_3 : decode cL_acts 3 = .ok (.invokestatic 30, 3) := by decide +kernel
theorem dL_acts_6 : decode cL_acts 6 = .ok (.istore_n 3, 1) := by decide +kernel
theorem dL_acts_7 : decode cL_acts 7 = .ok (.iload_n 1, 1) := by decide +kernel
theorem dL_acts_8 : decode cL_acts 8 = .ok (.iconst 4, 1) := by decide +kernel
theorem dL_acts_9 : decode cL_acts 9 = .ok (.ishr, 1) := by decide +kernel
theorem dL_acts_10 : decode cL_acts 10 = .ok (.iconst 3, 1) := by decide +kernel
theorem dL_acts_11 : decode cL_acts 11 = .ok (.invokestatic 30, 3) := by decide +kernel
theorem dL_acts_14 : decode cL_acts 14 = .ok (.istore 4, 2) := by decide +kernel
theorem dL_acts_16 : decode cL_acts 16 = .ok (.aload_n 0, 1) := by decide +kernel
theorem dL_acts_17 : decode cL_acts 17 = .ok (.iload 4, 2) := by decide +kernel
theorem dL_acts_19 : decode cL_acts 19 = .ok (.iconst 0, 1) := by decide +kernel
theorem dL_acts_20 : decode cL_acts 20 = .ok (.invokevirtual 19, 3) := by decide +kernel
theorem dL_acts_23 : decode cL_acts 23 = .ok (.istore 5, 2) := by decide +kernel
theorem dL_acts_25 : decode cL_acts 25 = .ok (.iload_n 3, 1) := by decide +kernel
theorem dL_acts_26 : decode cL_acts 26 = .ok (.iconst 4, 1) := by decide +kernel
theorem dL_acts_27 : decode cL_acts 27 = .ok (.if_icmp .ge 86, 3) := by decide +kernel
theorem dL_acts_30 : decode cL_acts 30 = .ok (.iload_n 2, 1) := by decide +kernel
theorem dL_acts_31 : decode cL_acts 31 = .ok (.bipush 10, 2) := by decide +kernel
theorem dL_acts_33 : decode cL_acts 33 = .ok (.invokestatic 30, 3) := by decide +kernel
theorem dL_acts_36 : decode cL_acts 36 = .ok (.istore 6, 2) := by decide +kernel
theorem dL_acts_38 : decode cL_acts 38 = .ok (.iload_n 2, 1) := by decide +kernel
theorem dL_acts_39 : decode cL_acts 39 = .ok (.iconst 4, 1) := by decide +kernel
theorem dL_acts_40 : decode cL_acts 40 = .ok (.ishr, 1) := by decide +kernel
theorem dL_acts_41 : decode cL_acts 41 = .ok (.bipush 6, 2) := by decide +kernel
theorem dL_acts_43 : decode cL_acts 43 = .ok (.invokestatic 30, 3) := by decide +kernel
theorem dL_acts_46 : decode cL_acts 46 = .ok (.istore 7, 2) := by decide +kernel
theorem dL_acts_48 : decode cL_acts 48 = .ok (.iload_n 2, 1) := by decide +kernel
theorem dL_acts_49 : decode cL_acts 49 = .ok (.bipush 7, 2) := by decide +kernel
theorem dL_acts_51 : decode cL_acts 51 = .ok (.ishr, 1) := by decide +kernel
theorem dL_acts_52 : decode cL_acts 52 = .ok (.bipush 7, 2) := by decide +kernel
theorem dL_acts_54 : decode cL_acts 54 = .ok (.invokestatic 30, 3) := by decide +kernel
theorem dL_acts_57 : decode cL_acts 57 = .ok (.istore 8, 2) := by decide +kernel
theorem dL_acts_59 : decode cL_acts 59 = .ok (.aload_n 0, 1) := by decide +kernel
theorem dL_acts_60 : decode cL_acts 60 = .ok (.iload 4, 2) := by decide +kernel
theorem dL_acts_62 : decode cL_acts 62 = .ok (.iload 6, 2) := by decide +kernel
theorem dL_acts_64 : decode cL_acts 64 = .ok (.iload 7, 2) := by decide +kernel
theorem dL_acts_66 : decode cL_acts 66 = .ok (.iload 8, 2) := by decide +kernel
theorem dL_acts_68 : decode cL_acts 68 = .ok (.invokevirtual 59, 3) := by decide +kernel
theorem dL_acts_71 : decode cL_acts 71 = .ok (.iload 6, 2) := by decide +kernel
theorem dL_acts_73 : decode cL_acts 73 = .ok (.ifCond .eq 10, 3) := by decide +kernel
theorem dL_acts_76 : decode cL_acts 76 = .ok (.iload 8, 2) := by decide +kernel
theorem dL_acts_78 : decode cL_acts 78 = .ok (.bipush 6, 2) := by decide +kernel
theorem dL_acts_80 : decode cL_acts 80 = .ok (.if_icmp .ne 8, 3) := by decide +kernel
theorem dL_acts_83 : decode cL_acts 83 = .ok (.ldc 63, 2) := by decide +kernel
theorem dL_acts_85 : decode cL_acts 85 = .ok (.goto 19, 3) := by decide +kernel
theorem dL_acts_88 : decode cL_acts 88 = .ok (.iload 5, 2) := by decide +kernel
theorem dL_acts_90 : decode cL_acts 90 = .ok (.bipush 8, 2) := by decide +kernel
theorem dL_acts_92 : decode cL_acts 92 = .ok (.if_icmp .ne 8, 3) := by decide +kernel
theorem dL_acts_95 : decode cL_acts 95 = .ok (.ldc 64, 2) := by decide +kernel
theorem dL_acts_97 : decode cL_acts 97 = .ok (.goto 7, 3) := by decide +kernel
theorem dL_acts_100 : decode cL_acts 100 = .ok (.iload 5, 2) := by decide +kernel
theorem dL_acts_102 : decode cL_acts 102 = .ok (.iconst 1, 1) := by decide +kernel
theorem dL_acts_103 : decode cL_acts 103 = .ok (.iadd, 1) := by decide +kernel
theorem dL_acts_104 : decode cL_acts 104 = .ok (.if_icmp .ne 7, 3) := by decide +kernel
theorem dL_acts_107 : decode cL_acts 107 = .ok (.iconst 1, 1) := by decide +kernel
theorem dL_acts_108 : decode cL_acts 108 = .ok (.goto 4, 3) := by decide +kernel
theorem dL_acts_111 : decode cL_acts 111 = .ok (.iconst 0, 1) := by decide +kernel
theorem dL_acts_112 : decode cL_acts 112 = .ok (.ireturn, 1) := by decide +kernel
theorem dL_acts_113 : decode cL_acts 113 = .ok (.iload_n 3, 1) := by decide +kernel
theorem dL_acts_114 : decode cL_acts 114 = .ok (.iconst 4, 1) := by decide +kernel
theorem dL_acts_115 : decode cL_acts 115 = .ok (.if_icmp .ne 62, 3) := by decide +kernel
theorem dL_acts_118 : decode cL_acts 118 = .ok (.iload_n 2, 1) := by decide +kernel
theorem dL_acts_119 : decode cL_acts 119 = .ok (.bipush 10, 2) := by decide +kernel
theorem dL_acts_121 : decode cL_acts 121 = .ok (.invokestatic 30, 3) := by decide +kernel
theorem dL_acts_124 : decode cL_acts 124 = .ok (.istore 6, 2) := by decide +kernel
theorem dL_acts_126 : decode cL_acts 126 = .ok (.aload_n 0, 1) := by decide +kernel
theorem dL_acts_127 : decode cL_acts 127 = .ok (.iload 4, 2) := by decide +kernel
theorem dL_acts_129 : decode cL_acts 129 = .ok (.iload 6, 2) := by decide +kernel
theorem dL_acts_131 : decode cL_acts 131 = .ok (.invokevirtual 65, 3) := by decide +kernel
theorem dL_acts_134 : decode cL_acts 134 = .ok (.iload 6, 2) := by decide +kernel
theorem dL_acts_136 : decode cL_acts 136 = .ok (.ifCond .eq 10, 3) := by decide +kernel
theorem dL_acts_139 : decode cL_acts 139 = .ok (.iload 6, 2) := by decide +kernel
theorem dL_acts_141 : decode cL_acts 141 = .ok (.bipush 9, 2) := by decide +kernel
theorem dL_acts_143 : decode cL_acts 143 = .ok (.if_icmp .ne 8, 3) := by decide +kernel
theorem dL_acts_146 : decode cL_acts 146 = .ok (.ldc 63, 2) := by decide +kernel
theorem dL_acts_148 : decode cL_acts 148 = .ok (.goto 20, 3) := by decide +kernel
theorem dL_acts_151 : decode cL_acts 151 = .ok (.iload 6, 2) := by decide +kernel
theorem dL_acts_153 : decode cL_acts 153 = .ok (.iload 5, 2) := by decide +kernel
theorem dL_acts_155 : decode cL_acts 155 = .ok (.if_icmp .le 8, 3) := by decide +kernel
theorem dL_acts_158 : decode cL_acts 158 = .ok (.ldc 58, 2) := by decide +kernel
theorem dL_acts_160 : decode cL_acts 160 = .ok (.goto 8, 3) := by decide +kernel
theorem dL_acts_163 : decode cL_acts 163 = .ok (.iload 5, 2) := by decide +kernel
theorem dL_acts_165 : decode cL_acts 165 = .ok (.iload 6, 2) := by decide +kernel
theorem dL_acts_167 : decode cL_acts 167 = .ok (.isub, 1) := by decide +kernel
theorem dL_acts_168 : decode cL_acts 168 = .ok (.if_icmp .ne 7, 3) := by decide +kernel
theorem dL_acts_171 : decode cL_acts 171 = .ok (.iconst 1, 1) := by decide +kernel
theorem dL_acts_172 : decode cL_acts 172 = .ok (.goto 4, 3) := by decide +kernel
theorem dL_acts_175 : decode cL_acts 175 = .ok (.iconst 0, 1) := by decide +kernel
theorem dL_acts_176 : decode cL_acts 176 = .ok (.ireturn, 1) := by decide +kernel
theorem dL_acts_177 : decode cL_acts 177 = .ok (.iload_n 3, 1) := by decide +kernel
theorem dL_acts_178 : decode cL_acts 178 = .ok (.iconst 5, 1) := by decide +kernel
theorem dL_acts_179 : decode cL_acts 179 = .ok (.if_icmp .ne 83, 3) := by decide +kernel
theorem dL_acts_182 : decode cL_acts 182 = .ok (.iload_n 2, 1) := by decide +kernel
theorem dL_acts_183 : decode cL_acts 183 = .ok (.bipush 7, 2) := by decide +kernel
theorem dL_acts_185 : decode cL_acts 185 = .ok (.invokestatic 30, 3) := by decide +kernel
theorem dL_acts_188 : decode cL_acts 188 = .ok (.istore 6, 2) := by decide +kernel
theorem dL_acts_190 : decode cL_acts 190 = .ok (.aload_n 0, 1) := by decide +kernel
theorem dL_acts_191 : decode cL_acts 191 = .ok (.bipush 10, 2) := by decide +kernel
theorem dL_acts_193 : decode cL_acts 193 = .ok (.iload 6, 2) := by decide +kernel
theorem dL_acts_195 : decode cL_acts 195 = .ok (.bipush 6, 2) := by decide +kernel
theorem dL_acts_197 : decode cL_acts 197 = .ok (.if_icmp .ne 7, 3) := by decide +kernel
theorem dL_acts_200 : decode cL_acts 200 = .ok (.iconst 0, 1) := by decide +kernel
theorem dL_acts_201 : decode cL_acts 201 = .ok (.goto 5, 3) := by decide +kernel
theorem dL_acts_204 : decode cL_acts 204 = .ok (.iload 6, 2) := by decide +kernel
theorem dL_acts_206 : decode cL_acts 206 = .ok (.iadd, 1) := by decide +kernel
theorem dL_acts_207 : decode cL_acts 207 = .ok (.invokevirtual 13, 3) := by decide +kernel
theorem dL_acts_210 : decode cL_acts 210 = .ok (.istore 7, 2) := by decide +kernel
theorem dL_acts_212 : decode cL_acts 212 = .ok (.aload_n 0, 1) := by decide +kernel
theorem dL_acts_213 : decode cL_acts 213 = .ok (.iload 6, 2) := by decide +kernel
theorem dL_acts_215 : decode cL_acts 215 = .ok (.iload_n 2, 1) := by decide +kernel
theorem dL_acts_216 : decode cL_acts 216 = .ok (.iconst 3, 1) := by decide +kernel
theorem dL_acts_217 : decode cL_acts 217 = .ok (.ishr, 1) := by decide +kernel
theorem dL_acts_218 : decode cL_acts 218 = .ok (.bipush 32, 2) := by decide +kernel
theorem dL_acts_220 : decode cL_acts 220 = .ok (.invokestatic 30, 3) := by decide +kernel
theorem dL_acts_223 : decode cL_acts 223 = .ok (.invokevirtual 68, 3) := by decide +kernel
theorem dL_acts_226 : decode cL_acts 226 = .ok (.iload 6, 2) := by decide +kernel
theorem dL_acts_228 : decode cL_acts 228 = .ok (.bipush 6, 2) := by decide +kernel
theorem dL_acts_230 : decode cL_acts 230 = .ok (.if_icmp .eq 16, 3) := by decide +kernel
theorem dL_acts_233 : decode cL_acts 233 = .ok (.iload_n 2, 1) := by decide +kernel
theorem dL_acts_234 : decode cL_acts 234 = .ok (.iconst 3, 1) := by decide +kernel
theorem dL_acts_235 : decode cL_acts 235 = .ok (.ishr, 1) := by decide +kernel
theorem dL_acts_236 : decode cL_acts 236 = .ok (.bipush 32, 2) := by decide +kernel
theorem dL_acts_238 : decode cL_acts 238 = .ok (.invokestatic 30, 3) := by decide +kernel
theorem dL_acts_241 : decode cL_acts 241 = .ok (.bipush 31, 2) := by decide +kernel
theorem dL_acts_243 : decode cL_acts 243 = .ok (.if_icmp .ne 8, 3) := by decide +kernel
theorem dL_acts_246 : decode cL_acts 246 = .ok (.ldc 63, 2) := by decide +kernel
theorem dL_acts_248 : decode cL_acts 248 = .ok (.goto 5, 3) := by decide +kernel
theorem dL_acts_251 : decode cL_acts 251 = .ok (.iload 7, 2) := by decide +kernel
theorem dL_acts_253 : decode cL_acts 253 = .ok (.if_icmp .ne 7, 3) := by decide +kernel
theorem dL_acts_256 : decode cL_acts 256 = .ok (.iconst 1, 1) := by decide +kernel
theorem dL_acts_257 : decode cL_acts 257 = .ok (.goto 4, 3) := by decide +kernel
theorem dL_acts_260 : decode cL_acts 260 = .ok (.iconst 0, 1) := by decide +kernel
theorem dL_acts_261 : decode cL_acts 261 = .ok (.ireturn, 1) := by decide +kernel
theorem dL_acts_262 : decode cL_acts 262 = .ok (.iload_n 3, 1) := by decide +kernel
theorem dL_acts_263 : decode cL_acts 263 = .ok (.bipush 6, 2) := by decide +kernel
theorem dL_acts_265 : decode cL_acts 265 = .ok (.if_icmp .ne 93, 3) := by decide +kernel
theorem dL_acts_268 : decode cL_acts 268 = .ok (.iload_n 2, 1) := by decide +kernel
theorem dL_acts_269 : decode cL_acts 269 = .ok (.sipush 8000, 3) := by decide +kernel
theorem dL_acts_272 : decode cL_acts 272 = .ok (.invokestatic 30, 3) := by decide +kernel
theorem dL_acts_275 : decode cL_acts 275 = .ok (.sipush 4000, 3) := by decide +kernel
theorem dL_acts_278 : decode cL_acts 278 = .ok (.isub, 1) := by decide +kernel
theorem dL_acts_279 : decode cL_acts 279 = .ok (.istore 6, 2) := by decide +kernel
theorem dL_acts_281 : decode cL_acts 281 = .ok (.iload_n 2, 1) := by decide +kernel
theorem dL_acts_282 : decode cL_acts 282 = .ok (.bipush 13, 2) := by decide +kernel
theorem dL_acts_284 : decode cL_acts 284 = .ok (.ishr, 1) := by decide +kernel
theorem dL_acts_285 : decode cL_acts 285 = .ok (.bipush 7, 2) := by decide +kernel
theorem dL_acts_287 : decode cL_acts 287 = .ok (.invokestatic 30, 3) := by decide +kernel
theorem dL_acts_290 : decode cL_acts 290 = .ok (.istore 7, 2) := by decide +kernel
theorem dL_acts_292 : decode cL_acts 292 = .ok (.iload 6, 2) := by decide +kernel
theorem dL_acts_294 : decode cL_acts 294 = .ok (.iload_n 2, 1) := by decide +kernel
theorem dL_acts_295 : decode cL_acts 295 = .ok (.bipush 16, 2) := by decide +kernel
theorem dL_acts_297 : decode cL_acts 297 = .ok (.ishr, 1) := by decide +kernel
theorem dL_acts_298 : decode cL_acts 298 = .ok (.sipush 3000, 3) := by decide +kernel
theorem dL_acts_301 : decode cL_acts 301 = .ok (.invokestatic 30, 3) := by decide +kernel
theorem dL_acts_304 : decode cL_acts 304 = .ok (.iadd, 1) := by decide +kernel
theorem dL_acts_305 : decode cL_acts 305 = .ok (.istore 8, 2) := by decide +kernel
theorem dL_acts_307 : decode cL_acts 307 = .ok (.aload_n 0, 1) := by decide +kernel
theorem dL_acts_308 : decode cL_acts 308 = .ok (.iload 4, 2) := by decide +kernel
theorem dL_acts_310 : decode cL_acts 310 = .ok (.iconst 3, 1) := by decide +kernel
theorem dL_acts_311 : decode cL_acts 311 = .ok (.invokevirtual 19, 3) := by decide +kernel
theorem dL_acts_314 : decode cL_acts 314 = .ok (.istore 9, 2) := by decide +kernel
theorem dL_acts_316 : decode cL_acts 316 = .ok (.aload_n 0, 1) := by decide +kernel
theorem dL_acts_317 : decode cL_acts 317 = .ok (.iload 4, 2) := by decide +kernel
theorem dL_acts_319 : decode cL_acts 319 = .ok (.iload 6, 2) := by decide +kernel
theorem dL_acts_321 : decode cL_acts 321 = .ok (.iload 8, 2) := by decide +kernel
theorem dL_acts_323 : decode cL_acts 323 = .ok (.iload 7, 2) := by decide +kernel
theorem dL_acts_325 : decode cL_acts 325 = .ok (.invokevirtual 71, 3) := by decide +kernel
theorem dL_acts_328 : decode cL_acts 328 = .ok (.iload 6, 2) := by decide +kernel
theorem dL_acts_330 : decode cL_acts 330 = .ok (.iload 8, 2) := by decide +kernel
theorem dL_acts_332 : decode cL_acts 332 = .ok (.if_icmp .eq 10, 3) := by decide +kernel
theorem dL_acts_335 : decode cL_acts 335 = .ok (.iload 7, 2) := by decide +kernel
theorem dL_acts_337 : decode cL_acts 337 = .ok (.bipush 6, 2) := by decide +kernel
theorem dL_acts_339 : decode cL_acts 339 = .ok (.if_icmp .ne 8, 3) := by decide +kernel
theorem dL_acts_342 : decode cL_acts 342 = .ok (.ldc 63, 2) := by decide +kernel
theorem dL_acts_344 : decode cL_acts 344 = .ok (.goto 5, 3) := by decide +kernel
theorem dL_acts_347 : decode cL_acts 347 = .ok (.iload 9, 2) := by decide +kernel
theorem dL_acts_349 : decode cL_acts 349 = .ok (.if_icmp .ne 7, 3) := by decide +kernel
theorem dL_acts_352 : decode cL_acts 352 = .ok (.iconst 1, 1) := by decide +kernel
theorem dL_acts_353 : decode cL_acts 353 = .ok (.goto 4, 3) := by decide +kernel
theorem dL_acts_356 : decode cL_acts 356 = .ok (.iconst 0, 1) := by decide +kernel
theorem dL_acts_357 : decode cL_acts 357 = .ok (.ireturn, 1) := by decide +kernel
theorem dL_acts_358 : decode cL_acts 358 = .ok (.iload_n 3, 1) := by decide +kernel
theorem dL_acts_359 : decode cL_acts 359 = .ok (.bipush 7, 2) := by decide +kernel
theorem dL_acts_361 : decode cL_acts 361 = .ok (.if_icmp .ne 56, 3) := by decide +kernel
theorem dL_acts_364 : decode cL_acts 364 = .ok (.iload_n 2, 1) := by decide +kernel
theorem dL_acts_365 : decode cL_acts 365 = .ok (.iconst 3, 1) := by decide +kernel
theorem dL_acts_366 : decode cL_acts 366 = .ok (.invokestatic 30, 3) := by decide +kernel
theorem dL_acts_369 : decode cL_acts 369 = .ok (.istore 6, 2) := by decide +kernel
theorem dL_acts_371 : decode cL_acts 371 = .ok (.aload_n 0, 1) := by decide +kernel
theorem dL_acts_372 : decode cL_acts 372 = .ok (.iload 4, 2) := by decide +kernel
theorem dL_acts_374 : decode cL_acts 374 = .ok (.iload 6, 2) := by decide +kernel
theorem dL_acts_376 : decode cL_acts 376 = .ok (.invokevirtual 74, 3) := by decide +kernel
theorem dL_acts_379 : decode cL_acts 379 = .ok (.iload 6, 2) := by decide +kernel
theorem dL_acts_381 : decode cL_acts 381 = .ok (.iconst 2, 1) := by decide +kernel
theorem dL_acts_382 : decode cL_acts 382 = .ok (.if_icmp .ne 8, 3) := by decide +kernel
theorem dL_acts_385 : decode cL_acts 385 = .ok (.ldc 63, 2) := by decide +kernel
theorem dL_acts_387 : decode cL_acts 387 = .ok (.goto 21, 3) := by decide +kernel
theorem dL_acts_390 : decode cL_acts 390 = .ok (.iload 6, 2) := by decide +kernel
theorem dL_acts_392 : decode cL_acts 392 = .ok (.aload_n 0, 1) := by decide +kernel
theorem dL_acts_393 : decode cL_acts 393 = .ok (.iload 4, 2) := by decide +kernel
theorem dL_acts_395 : decode cL_acts 395 = .ok (.bipush 7, 2) := by decide +kernel
theorem dL_acts_397 : decode cL_acts 397 = .ok (.invokevirtual 19, 3) := by decide +kernel
theorem dL_acts_400 : decode cL_acts 400 = .ok (.if_icmp .ne 7, 3) := by decide +kernel
theorem dL_acts_403 : decode cL_acts 403 = .ok (.iconst 1, 1) := by decide +kernel
theorem dL_acts_404 : decode cL_acts 404 = .ok (.goto 4, 3) := by decide +kernel
theorem dL_acts_407 : decode cL_acts 407 = .ok (.iconst 0, 1) := by decide +kernel
theorem dL_acts_408 : decode cL_acts 408 = .ok (.if_icmp .ne 7, 3) := by decide +kernel
theorem dL_acts_411 : decode cL_acts 411 = .ok (.iconst 1, 1) := by decide +kernel
theorem dL_acts_412 : decode cL_acts 412 = .ok (.goto 4, 3) := by decide +kernel
theorem dL_acts_415 : decode cL_acts 415 = .ok (.iconst 0, 1) := by decide +kernel
theorem dL_acts_416 : decode cL_acts 416 = .ok (.ireturn, 1) := by decide +kernel
theorem dL_acts_417 : decode cL_acts 417 = .ok (.iload_n 3, 1) := by decide +kernel
theorem dL_acts_418 : decode cL_acts 418 = .ok (.bipush 8, 2) := by decide +kernel
theorem dL_acts_420 : decode cL_acts 420 = .ok (.if_icmp .ne 87, 3) := by decide +kernel
theorem dL_acts_423 : decode cL_acts 423 = .ok (.iload_n 2, 1) := by decide +kernel
theorem dL_acts_424 : decode cL_acts 424 = .ok (.bipush 101, 2) := by decide +kernel
theorem dL_acts_426 : decode cL_acts 426 = .ok (.invokestatic 30, 3) := by decide +kernel
theorem dL_acts_429 : decode cL_acts 429 = .ok (.istore 6, 2) := by decide +kernel
theorem dL_acts_431 : decode cL_acts 431 = .ok (.iload_n 2, 1) := by decide +kernel
theorem dL_acts_432 : decode cL_acts 432 = .ok (.bipush 7, 2) := by decide +kernel
theorem dL_acts_434 : decode cL_acts 434 = .ok (.ishr, 1) := by decide +kernel
theorem dL_acts_435 : decode cL_acts 435 = .ok (.bipush 101, 2) := by decide +kernel
theorem dL_acts_437 : decode cL_acts 437 = .ok (.invokestatic 30, 3) := by decide +kernel
theorem dL_acts_440 : decode cL_acts 440 = .ok (.istore 7, 2) := by decide +kernel
theorem dL_acts_442 : decode cL_acts 442 = .ok (.bipush 100, 2) := by decide +kernel
theorem dL_acts_444 : decode cL_acts 444 = .ok (.aload_n 0, 1) := by decide +kernel
theorem dL_acts_445 : decode cL_acts 445 = .ok (.iload 4, 2) := by decide +kernel
theorem dL_acts_447 : decode cL_acts 447 = .ok (.iconst 1, 1) := by decide +kernel
theorem dL_acts_448 : decode cL_acts 448 = .ok (.invokevirtual 23, 3) := by decide +kernel
theorem dL_acts_451 : decode cL_acts 451 = .ok (.imul, 1) := by decide +kernel
theorem dL_acts_452 : decode cL_acts 452 = .ok (.aload_n 0, 1) := by decide +kernel
theorem dL_acts_453 : decode cL_acts 453 = .ok (.iload 4, 2) := by decide +kernel
theorem dL_acts_455 : decode cL_acts 455 = .ok (.iconst 2, 1) := by decide +kernel
theorem dL_acts_456 : decode cL_acts 456 = .ok (.invokevirtual 23, 3) := by decide +kernel
theorem dL_acts_459 : decode cL_acts 459 = .ok (.iadd, 1) := by decide +kernel
theorem dL_acts_460 : decode cL_acts 460 = .ok (.istore 8, 2) := by decide +kernel
theorem dL_acts_462 : decode cL_acts 462 = .ok (.aload_n 0, 1) := by decide +kernel
theorem dL_acts_463 : decode cL_acts 463 = .ok (.iload 4, 2) := by decide +kernel
theorem dL_acts_465 : decode cL_acts 465 = .ok (.iload 6, 2) := by decide +kernel
theorem dL_acts_467 : decode cL_acts 467 = .ok (.iload 7, 2) := by decide +kernel
theorem dL_acts_469 : decode cL_acts 469 = .ok (.invokevirtual 77, 3) := by decide +kernel
theorem dL_acts_472 : decode cL_acts 472 = .ok (.iload 6, 2) := by decide +kernel
theorem dL_acts_474 : decode cL_acts 474 = .ok (.bipush 100, 2) := by decide +kernel
theorem dL_acts_476 : decode cL_acts 476 = .ok (.if_icmp .eq 15, 3) := by decide +kernel
theorem dL_acts_479 : decode cL_acts 479 = .ok (.iload 7, 2) := by decide +kernel
theorem dL_acts_481 : decode cL_acts 481 = .ok (.ifCond .eq 10, 3) := by decide +kernel
theorem dL_acts_484 : decode cL_acts 484 = .ok (.iload 7, 2) := by decide +kernel
theorem dL_acts_486 : decode cL_acts 486 = .ok (.bipush 100, 2) := by decide +kernel
theorem dL_acts_488 : decode cL_acts 488 = .ok (.if_icmp .ne 8, 3) := by decide +kernel
theorem dL_acts_491 : decode cL_acts 491 = .ok (.ldc 63, 2) := by decide +kernel
theorem dL_acts_493 : decode cL_acts 493 = .ok (.goto 5, 3) := by decide +kernel
theorem dL_acts_496 : decode cL_acts 496 = .ok (.iload 8, 2) := by decide +kernel
theorem dL_acts_498 : decode cL_acts 498 = .ok (.if_icmp .ne 7, 3) := by decide +kernel
theorem dL_acts_501 : decode cL_acts 501 = .ok (.iconst 1, 1) := by decide +kernel
theorem dL_acts_502 : decode cL_acts 502 = .ok (.goto 4, 3) := by decide +kernel
theorem dL_acts_505 : decode cL_acts 505 = .ok (.iconst 0, 1) := by decide +kernel
theorem dL_acts_506 : decode cL_acts 506 = .ok (.ireturn, 1) := by decide +kernel
theorem dL_acts_507 : decode cL_acts 507 = .ok (.iload_n 3, 1) := by decide +kernel
theorem dL_acts_508 : decode cL_acts 508 = .ok (.bipush 9, 2) := by decide +kernel
theorem dL_acts_510 : decode cL_acts 510 = .ok (.if_icmp .ne 108, 3) := by decide +kernel
theorem dL_acts_513 : decode cL_acts 513 = .ok (.iload_n 2, 1) := by decide +kernel
theorem dL_acts_514 : decode cL_acts 514 = .ok (.sipush 2010, 3) := by decide +kernel
theorem dL_acts_517 : decode cL_acts 517 = .ok (.invokestatic 30, 3) := by decide +kernel
theorem dL_acts_520 : decode cL_acts 520 = .ok (.sipush 505, 3) := by decide +kernel
theorem dL_acts_523 : decode cL_acts 523 = .ok (.isub, 1) := by decide +kernel
theorem dL_acts_524 : decode cL_acts 524 = .ok (.istore 6, 2) := by decide +kernel
theorem dL_acts_526 : decode cL_acts 526 = .ok (.iload_n 2, 1) := by decide +kernel
theorem dL_acts_527 : decode cL_acts 527 = .ok (.bipush 11, 2) := by decide +kernel
theorem dL_acts_529 : decode cL_acts 529 = .ok (.ishr, 1) := by decide +kernel
theorem dL_acts_530 : decode cL_acts 530 = .ok (.iconst 2, 1) := by decide +kernel
theorem dL_acts_531 : decode cL_acts 531 = .ok (.invokestatic 30, 3) := by decide +kernel
theorem dL_acts_534 : decode cL_acts 534 = .ok (.ifCond .ne 13, 3) := by decide +kernel
theorem dL_acts_537 : decode cL_acts 537 = .ok (.aload_n 0, 1) := by decide +kernel
theorem dL_acts_538 : decode cL_acts 538 = .ok (.iload 4, 2) := by decide +kernel
theorem dL_acts_540 : decode cL_acts 540 = .ok (.iconst 0, 1) := by decide +kernel
theorem dL_acts_541 : decode cL_acts 541 = .ok (.invokevirtual 23, 3) := by decide +kernel
theorem dL_acts_544 : decode cL_acts 544 = .ok (.goto 8, 3) := by decide +kernel
theorem dL_acts_547 : decode cL_acts 547 = .ok (.aload_n 0, 1) := by decide +kernel
theorem dL_acts_548 : decode cL_acts 548 = .ok (.iconst 2, 1) := by decide +kernel
theorem dL_acts_549 : decode cL_acts 549 = .ok (.invokevirtual 13, 3) := by decide +kernel
theorem dL_acts_552 : decode cL_acts 552 = .ok (.istore 7, 2) := by decide +kernel
theorem dL_acts_554 : decode cL_acts 554 = .ok (.iload_n 2, 1) := by decide +kernel
theorem dL_acts_555 : decode cL_acts 555 = .ok (.bipush 11, 2) := by decide +kernel
theorem dL_acts_557 : decode cL_acts 557 = .ok (.ishr, 1) := by decide +kernel
theorem dL_acts_558 : decode cL_acts 558 = .ok (.iconst 2, 1) := by decide +kernel
theorem dL_acts_559 : decode cL_acts 559 = .ok (.invokestatic 30, 3) := by decide +kernel
theorem dL_acts_562 : decode cL_acts 562 = .ok (.ifCond .ne 14, 3) := by decide +kernel
theorem dL_acts_565 : decode cL_acts 565 = .ok (.aload_n 0, 1) := by decide +kernel
theorem dL_acts_566 : decode cL_acts 566 = .ok (.iload 4, 2) := by decide +kernel
theorem dL_acts_568 : decode cL_acts 568 = .ok (.iload 6, 2) := by decide +kernel
theorem dL_acts_570 : decode cL_acts 570 = .ok (.invokevirtual 80, 3) := by decide +kernel
theorem dL_acts_573 : decode cL_acts 573 = .ok (.goto 9, 3) := by decide +kernel
theorem dL_acts_576 : decode cL_acts 576 = .ok (.aload_n 0, 1) := by decide +kernel
theorem dL_acts_577 : decode cL_acts 577 = .ok (.iload 6, 2) := by decide +kernel
theorem dL_acts_579 : decode cL_acts 579 = .ok (.invokevirtual 83, 3) := by decide +kernel
theorem dL_acts_582 : decode cL_acts 582 = .ok (.istore 8, 2) := by decide +kernel
theorem dL_acts_584 : decode cL_acts 584 = .ok (.iload 8, 2) := by decide +kernel
theorem dL_acts_586 : decode cL_acts 586 = .ok (.iload 6, 2) := by decide +kernel
theorem dL_acts_588 : decode cL_acts 588 = .ok (.sipush (-500), 3) := by decide +kernel
theorem dL_acts_591 : decode cL_acts 591 = .ok (.if_icmp .lt 11, 3) := by decide +kernel
theorem dL_acts_594 : decode cL_acts 594 = .ok (.iload 6, 2) := by decide +kernel
theorem dL_acts_596 : decode cL_acts 596 = .ok (.sipush 1500, 3) := by decide +kernel
theorem dL_acts_599 : decode cL_acts 599 = .ok (.if_icmp .le 8, 3) := by decide +kernel
theorem dL_acts_602 : decode cL_acts 602 = .ok (.ldc 63, 2) := by decide +kernel
theorem dL_acts_604 : decode cL_acts 604 = .ok (.goto 5, 3) := by decide +kernel
theorem dL_acts_607 : decode cL_acts 607 = .ok (.iload 7, 2) := by decide +kernel
theorem dL_acts_609 : decode cL_acts 609 = .ok (.if_icmp .ne 7, 3) := by decide +kernel
theorem dL_acts_612 : decode cL_acts 612 = .ok (.iconst 1, 1) := by decide +kernel
theorem dL_acts_613 : decode cL_acts 613 = .ok (.goto 4, 3) := by decide +kernel
theorem dL_acts_616 : decode cL_acts 616 = .ok (.iconst 0, 1) := by decide +kernel
theorem dL_acts_617 : decode cL_acts 617 = .ok (.ireturn, 1) := by decide +kernel
theorem dL_acts_618 : decode cL_acts 618 = .ok (.iload_n 3, 1) := by decide +kernel
theorem dL_acts_619 : decode cL_acts 619 = .ok (.bipush 10, 2) := by decide +kernel
theorem dL_acts_621 : decode cL_acts 621 = .ok (.if_icmp .ne 62, 3) := by decide +kernel
theorem dL_acts_624 : decode cL_acts 624 = .ok (.iload_n 2, 1) := by decide +kernel
theorem dL_acts_625 : decode cL_acts 625 = .ok (.iconst 3, 1) := by decide +kernel
theorem dL_acts_626 : decode cL_acts 626 = .ok (.invokestatic 30, 3) := by decide +kernel
theorem dL_acts_629 : decode cL_acts 629 = .ok (.istore 6, 2) := by decide +kernel
theorem dL_acts_631 : decode cL_acts 631 = .ok (.aload_n 0, 1) := by decide +kernel
theorem dL_acts_632 : decode cL_acts 632 = .ok (.iload 4, 2) := by decide +kernel
theorem dL_acts_634 : decode cL_acts 634 = .ok (.iload 6, 2) := by decide +kernel
theorem dL_acts_636 : decode cL_acts 636 = .ok (.invokevirtual 86, 3) := by decide +kernel
theorem dL_acts_639 : decode cL_acts 639 = .ok (.istore 7, 2) := by decide +kernel
theorem dL_acts_641 : decode cL_acts 641 = .ok (.iload 7, 2) := by decide +kernel
theorem dL_acts_643 : decode cL_acts 643 = .ok (.iload 6, 2) := by decide +kernel
theorem dL_acts_645 : decode cL_acts 645 = .ok (.iconst 2, 1) := by decide +kernel
theorem dL_acts_646 : decode cL_acts 646 = .ok (.if_icmp .ne 8, 3) := by decide +kernel
theorem dL_acts_649 : decode cL_acts 649 = .ok (.ldc 63, 2) := by decide +kernel
theorem dL_acts_651 : decode cL_acts 651 = .ok (.goto 23, 3) := by decide +kernel
theorem dL_acts_654 : decode cL_acts 654 = .ok (.aload_n 0, 1) := by decide +kernel
theorem dL_acts_655 : decode cL_acts 655 = .ok (.iconst 0, 1) := by decide +kernel
theorem dL_acts_656 : decode cL_acts 656 = .ok (.iconst 3, 1) := by decide +kernel
theorem dL_acts_657 : decode cL_acts 657 = .ok (.invokevirtual 23, 3) := by decide +kernel
theorem dL_acts_660 : decode cL_acts 660 = .ok (.aload_n 0, 1) := by decide +kernel
theorem dL_acts_661 : decode cL_acts 661 = .ok (.iconst 1, 1) := by decide +kernel
theorem dL_acts_662 : decode cL_acts 662 = .ok (.iconst 3, 1) := by decide +kernel
theorem dL_acts_663 : decode cL_acts 663 = .ok (.invokevirtual 23, 3) := by decide +kernel
theorem dL_acts_666 : decode cL_acts 666 = .ok (.iadd, 1) := by decide +kernel
theorem dL_acts_667 : decode cL_acts 667 = .ok (.aload_n 0, 1) := by decide +kernel
theorem dL_acts_668 : decode cL_acts 668 = .ok (.iconst 2, 1) := by decide +kernel
theorem dL_acts_669 : decode cL_acts 669 = .ok (.iconst 3, 1) := by decide +kernel
theorem dL_acts_670 : decode cL_acts 670 = .ok (.invokevirtual 23, 3) := by decide +kernel
theorem dL_acts_673 : decode cL_acts 673 = .ok (.iadd, 1) := by decide +kernel
theorem dL_acts_674 : decode cL_acts 674 = .ok (.if_icmp .ne 7, 3) := by decide +kernel
theorem dL_acts_677 : decode cL_acts 677 = .ok (.iconst 1, 1) := by decide +kernel
theorem dL_acts_678 : decode cL_acts 678 = .ok (.goto 4, 3) := by decide +kernel
theorem dL_acts_681 : decode cL_acts 681 = .ok (.iconst 0, 1) := by decide +kernel
theorem dL_acts_682 : decode cL_acts 682 = .ok (.ireturn, 1) := by decide +kernel
theorem dL_acts_683 : decode cL_acts 683 = .ok (.iload_n 3, 1) := by decide +kernel
theorem dL_acts_684 : decode cL_acts 684 = .ok (.bipush 11, 2) := by decide +kernel
theorem dL_acts_686 : decode cL_acts 686 = .ok (.if_icmp .ne 80, 3) := by decide +kernel
theorem dL_acts_689 : decode cL_acts 689 = .ok (.iload_n 2, 1) := by decide +kernel
theorem dL_acts_690 : decode cL_acts 690 = .ok (.iconst 3, 1) := by decide +kernel
theorem dL_acts_691 : decode cL_acts 691 = .ok (.invokestatic 30, 3) := by decide +kernel
theorem dL_acts_694 : decode cL_acts 694 = .ok (.istore 6, 2) := by decide +kernel
theorem dL_acts_696 : decode cL_acts 696 = .ok (.iload_n 2, 1) := by decide +kernel
theorem dL_acts_697 : decode cL_acts 697 = .ok (.iconst 2, 1) := by decide +kernel
theorem dL_acts_698 : decode cL_acts 698 = .ok (.ishr, 1) := by decide +kernel
theorem dL_acts_699 : decode cL_acts 699 = .ok (.iconst 5, 1) := by decide +kernel
theorem dL_acts_700 : decode cL_acts 700 = .ok (.invokestatic 30, 3) := by decide +kernel
theorem dL_acts_703 : decode cL_acts 703 = .ok (.istore 7, 2) := by decide +kernel
theorem dL_acts_705 : decode cL_acts 705 = .ok (.aload_n 0, 1) := by decide +kernel
theorem dL_acts_706 : decode cL_acts 706 = .ok (.iload 6, 2) := by decide +kernel
theorem dL_acts_708 : decode cL_acts 708 = .ok (.iconst 2, 1) := by decide +kernel
theorem dL_acts_709 : decode cL_acts 709 = .ok (.if_icmp .ne 7, 3) := by decide +kernel
theorem dL_acts_712 : decode cL_acts 712 = .ok (.iconst 5, 1) := by decide +kernel
theorem dL_acts_713 : decode cL_acts 713 = .ok (.goto 7, 3) := by decide +kernel
theorem dL_acts_716 : decode cL_acts 716 = .ok (.iconst 5, 1) := by decide +kernel
theorem dL_acts_717 : decode cL_acts 717 = .ok (.iload 6, 2) := by decide +kernel
theorem dL_acts_719 : decode cL_acts 719 = .ok (.iadd, 1) := by decide +kernel
theorem dL_acts_720 : decode cL_acts 720 = .ok (.invokevirtual 13, 3) := by decide +kernel
theorem dL_acts_723 : decode cL_acts 723 = .ok (.istore 8, 2) := by decide +kernel
theorem dL_acts_725 : decode cL_acts 725 = .ok (.aload_n 0, 1) := by decide +kernel
theorem dL_acts_726 : decode cL_acts 726 = .ok (.iload 6, 2) := by decide +kernel
theorem dL_acts_728 : decode cL_acts 728 = .ok (.iload 7, 2) := by decide +kernel
theorem dL_acts_730 : decode cL_acts 730 = .ok (.invokevirtual 89, 3) := by decide +kernel
theorem dL_acts_733 : decode cL_acts 733 = .ok (.iload 6, 2) := by decide +kernel
theorem dL_acts_735 : decode cL_acts 735 = .ok (.iconst 2, 1) := by decide +kernel
theorem dL_acts_736 : decode cL_acts 736 = .ok (.if_icmp .eq 14, 3) := by decide +kernel
theorem dL_acts_739 : decode cL_acts 739 = .ok (.iload 6, 2) := by decide +kernel
theorem dL_acts_741 : decode cL_acts 741 = .ok (.iconst 1, 1) := by decide +kernel
theorem dL_acts_742 : decode cL_acts 742 = .ok (.if_icmp .ne 13, 3) := by decide +kernel
theorem dL_acts_745 : decode cL_acts 745 = .ok (.iload 7, 2) := by decide +kernel
theorem dL_acts_747 : decode cL_acts 747 = .ok (.ifCond .ne 8, 3) := by decide +kernel
theorem dL_acts_750 : decode cL_acts 750 = .ok (.ldc 63, 2) := by decide +kernel
theorem dL_acts_752 : decode cL_acts 752 = .ok (.goto 5, 3) := by decide +kernel
theorem dL_acts_755 : decode cL_acts 755 = .ok (.iload 8, 2) := by decide +kernel
theorem dL_acts_757 : decode cL_acts 757 = .ok (.if_icmp .ne 7, 3) := by decide +kernel
theorem dL_acts_760 : decode cL_acts 760 = .ok (.iconst 1, 1) := by decide +kernel
theorem dL_acts_761 : decode cL_acts 761 = .ok (.goto 4, 3) := by decide +kernel
theorem dL_acts_764 : decode cL_acts 764 = .ok (.iconst 0, 1) := by decide +kernel
theorem dL_acts_765 : decode cL_acts 765 = .ok (.ireturn, 1) := by decide +kernel
theorem dL_acts_766 : decode cL_acts 766 = .ok (.iload_n 3, 1) := by decide +kernel
theorem dL_acts_767 : decode cL_acts 767 = .ok (.bipush 15, 2) := by decide +kernel
theorem dL_acts_769 : decode cL_acts 769 = .ok (.if_icmp .ge 134, 3) := by decide +kernel
theorem dL_acts_772 : decode cL_acts 772 = .ok (.iload_n 2, 1) := by decide +kernel
theorem dL_acts_773 : decode cL_acts 773 = .ok (.iconst 3, 1) := by decide +kernel
theorem dL_acts_774 : decode cL_acts 774 = .ok (.invokestatic 30, 3) := by decide +kernel
theorem dL_acts_777 : decode cL_acts 777 = .ok (.ifCond .ne 15, 3) := by decide +kernel
theorem dL_acts_780 : decode cL_acts 780 = .ok (.iload_n 2, 1) := by decide +kernel
theorem dL_acts_781 : decode cL_acts 781 = .ok (.iconst 2, 1) := by decide +kernel
theorem dL_acts_782 : decode cL_acts 782 = .ok (.ishr, 1) := by decide +kernel
theorem dL_acts_783 : decode cL_acts 783 = .ok (.sipush 202, 3) := by decide +kernel
theorem dL_acts_786 : decode cL_acts 786 = .ok (.invokestatic 30, 3) := by decide +kernel
theorem dL_acts_789 : decode cL_acts 789 = .ok (.goto 13, 3) := by decide +kernel
theorem dL_acts_792 : decode cL_acts 792 = .ok (.iconst 1, 1) := by decide +kernel
theorem dL_acts_793 : decode cL_acts 793 = .ok (.iload_n 2, 1) := by decide +kernel
theorem dL_acts_794 : decode cL_acts 794 = .ok (.iconst 2, 1) := by decide +kernel
theorem dL_acts_795 : decode cL_acts 795 = .ok (.ishr, 1) := by decide +kernel
theorem dL_acts_796 : decode cL_acts 796 = .ok (.bipush 12, 2) := by decide +kernel
theorem dL_acts_798 : decode cL_acts 798 = .ok (.invokestatic 30, 3) := by decide +kernel
theorem dL_acts_801 : decode cL_acts 801 = .ok (.iadd, 1) := by decide +kernel
theorem dL_acts_802 : decode cL_acts 802 = .ok (.istore 6, 2) := by decide +kernel
theorem dL_acts_804 : decode cL_acts 804 = .ok (.aload_n 0, 1) := by decide +kernel
theorem dL_acts_805 : decode cL_acts 805 = .ok (.iconst 0, 1) := by decide +kernel
theorem dL_acts_806 : decode cL_acts 806 = .ok (.invokevirtual 13, 3) := by decide +kernel
theorem dL_acts_809 : decode cL_acts 809 = .ok (.istore 7, 2) := by decide +kernel
theorem dL_acts_811 : decode cL_acts 811 = .ok (.aload_n 0, 1) := by decide +kernel
theorem dL_acts_812 : decode cL_acts 812 = .ok (.iconst 1, 1) := by decide +kernel
theorem dL_acts_813 : decode cL_acts 813 = .ok (.invokevirtual 13, 3) := by decide +kernel
theorem dL_acts_816 : decode cL_acts 816 = .ok (.istore 8, 2) := by decide +kernel
theorem dL_acts_818 : decode cL_acts 818 = .ok (.aload_n 0, 1) := by decide +kernel
theorem dL_acts_819 : decode cL_acts 819 = .ok (.iload 6, 2) := by decide +kernel
theorem dL_acts_821 : decode cL_acts 821 = .ok (.invokevirtual 92, 3) := by decide +kernel
theorem dL_acts_824 : decode cL_acts 824 = .ok (.istore 9, 2) := by decide +kernel
theorem dL_acts_826 : decode cL_acts 826 = .ok (.iload 6, 2) := by decide +kernel
theorem dL_acts_828 : decode cL_acts 828 = .ok (.ifCond .eq 11, 3) := by decide +kernel
theorem dL_acts_831 : decode cL_acts 831 = .ok (.iload 6, 2) := by decide +kernel
theorem dL_acts_833 : decode cL_acts 833 = .ok (.sipush 201, 3) := by decide +kernel
theorem dL_acts_836 : decode cL_acts 836 = .ok (.if_icmp .ne 18, 3) := by decide +kernel
theorem dL_acts_839 : decode cL_acts 839 = .ok (.iload 9, 2) := by decide +kernel
theorem dL_acts_841 : decode cL_acts 841 = .ok (.ldc 63, 2) := by decide +kernel
theorem dL_acts_843 : decode cL_acts 843 = .ok (.if_icmp .ne 7, 3) := by decide +kernel
theorem dL_acts_846 : decode cL_acts 846 = .ok (.iconst 1, 1) := by decide +kernel
theorem dL_acts_847 : decode cL_acts 847 = .ok (.goto 55, 3) := by decide +kernel
theorem dL_acts_850 : decode cL_acts 850 = .ok (.iconst 0, 1) := by decide +kernel
theorem dL_acts_851 : decode cL_acts 851 = .ok (.goto 51, 3) := by decide +kernel
theorem dL_acts_854 : decode cL_acts 854 = .ok (.iload 9, 2) := by decide +kernel
theorem dL_acts_856 : decode cL_acts 856 = .ok (.aload_n 0, 1) := by decide +kernel
theorem dL_acts_857 : decode cL_acts 857 = .ok (.iconst 1, 1) := by decide +kernel
theorem dL_acts_858 : decode cL_acts 858 = .ok (.invokevirtual 13, 3) := by decide +kernel
theorem dL_acts_861 : decode cL_acts 861 = .ok (.iload 8, 2) := by decide +kernel
theorem dL_acts_863 : decode cL_acts 863 = .ok (.isub, 1) := by decide +kernel
theorem dL_acts_864 : decode cL_acts 864 = .ok (.if_icmp .lt 37, 3) := by decide +kernel
theorem dL_acts_867 : decode cL_acts 867 = .ok (.iload 9, 2) := by decide +kernel
theorem dL_acts_869 : decode cL_acts 869 = .ok (.iconst 2, 1) := by decide +kernel
theorem dL_acts_870 : decode cL_acts 870 = .ok (.aload_n 0, 1) := by decide +kernel
theorem dL_acts_871 : decode cL_acts 871 = .ok (.iconst 1, 1) := by decide +kernel
theorem dL_acts_872 : decode cL_acts 872 = .ok (.invokevirtual 13, 3) := by decide +kernel
theorem dL_acts_875 : decode cL_acts 875 = .ok (.iload 8, 2) := by decide +kernel
theorem dL_acts_877 : decode cL_acts 877 = .ok (.isub, 1) := by decide +kernel
theorem dL_acts_878 : decode cL_acts 878 = .ok (.imul, 1) := by decide +kernel
theorem dL_acts_879 : decode cL_acts 879 = .ok (.iconst 3, 1) := by decide +kernel
theorem dL_acts_880 : decode cL_acts 880 = .ok (.iadd, 1) := by decide +kernel
theorem dL_acts_881 : decode cL_acts 881 = .ok (.if_icmp .gt 20, 3) := by decide +kernel
theorem dL_acts_884 : decode cL_acts 884 = .ok (.aload_n 0, 1) := by decide +kernel
theorem dL_acts_885 : decode cL_acts 885 = .ok (.iconst 0, 1) := by decide +kernel
theorem dL_acts_886 : decode cL_acts 886 = .ok (.invokevirtual 13, 3) := by decide +kernel
theorem dL_acts_889 : decode cL_acts 889 = .ok (.iload 7, 2) := by decide +kernel
theorem dL_acts_891 : decode cL_acts 891 = .ok (.iload 6, 2) := by decide +kernel
theorem dL_acts_893 : decode cL_acts 893 = .ok (.iadd, 1) := by decide +kernel
theorem dL_acts_894 : decode cL_acts 894 = .ok (.if_icmp .ne 7, 3) := by decide +kernel
theorem dL_acts_897 : decode cL_acts 897 = .ok (.iconst 1, 1) := by decide +kernel
theorem dL_acts_898 : decode cL_acts 898 = .ok (.goto 4, 3) := by decide +kernel
theorem dL_acts_901 : decode cL_acts 901 = .ok (.iconst 0, 1) := by decide +kernel
theorem dL_acts_902 : decode cL_acts 902 = .ok (.ireturn, 1) := by decide +kernel
theorem dL_acts_903 : decode cL_acts 903 = .ok (.aload_n 0, 1) := by decide +kernel
theorem dL_acts_904 : decode cL_acts 904 = .ok (.iload_n 2, 1) := by decide +kernel
theorem dL_acts_905 : decode cL_acts 905 = .ok (.invokestatic 95, 3) := by decide +kernel
theorem dL_acts_908 : decode cL_acts 908 = .ok (.ifCond .eq 16, 3) := by decide +kernel
theorem dL_acts_911 : decode cL_acts 911 = .ok (.aload_n 0, 1) := by decide +kernel
theorem dL_acts_912 : decode cL_acts 912 = .ok (.iload 4, 2) := by decide +kernel
theorem dL_acts_914 : decode cL_acts 914 = .ok (.invokestatic 99, 3) := by decide +kernel
theorem dL_acts_917 : decode cL_acts 917 = .ok (.ifCond .eq 7, 3) := by decide +kernel
theorem dL_acts_920 : decode cL_acts 920 = .ok (.iconst 1, 1) := by decide +kernel
theorem dL_acts_921 : decode cL_acts 921 = .ok (.goto 4, 3) := by decide +kernel
theorem dL_acts_924 : decode cL_acts 924 = .ok (.iconst 0, 1) := by decide +kernel
theorem dL_acts_925 : decode cL_acts 925 = .ok (.ireturn, 1) := by decide +kernel
theorem dL_law_0 : decode cL_law 0 = .ok (.new 14, 3) := by decide +kernel
theorem dL_law_3 : decode cL_law 3 = .ok (.dup, 1) := by decide +kernel
theorem dL_law_4 : decode cL_law 4 = .ok (.invokespecial 102, 3) := by decide +kernel
theorem dL_law_7 : decode cL_law 7 = .ok (.astore_n 1, 1) := by decide +kernel
theorem dL_law_8 : decode cL_law 8 = .ok (.aload_n 1, 1) := by decide +kernel
theorem dL_law_9 : decode cL_law 9 = .ok (.iconst 0, 1) := by decide +kernel
theorem dL_law_10 : decode cL_law 10 = .ok (.invokestatic 103, 3) := by decide +kernel
theorem dL_law_13 : decode cL_law 13 = .ok (.ifCond .eq 16, 3) := by decide +kernel
theorem dL_law_16 : decode cL_law 16 = .ok (.aload_n 1, 1) := by decide +kernel
theorem dL_law_17 : decode cL_law 17 = .ok (.invokevirtual 106, 3) := by decide +kernel
theorem dL_law_20 : decode cL_law 20 = .ok (.ldc 58, 2) := by decide +kernel
theorem dL_law_22 : decode cL_law 22 = .ok (.if_icmp .ne 7, 3) := by decide +kernel
theorem dL_law_25 : decode cL_law 25 = .ok (.iconst 1, 1) := by decide +kernel
theorem dL_law_26 : decode cL_law 26 = .ok (.goto 4, 3) := by decide +kernel
theorem dL_law_29 : decode cL_law 29 = .ok (.iconst 0, 1) := by decide +kernel
theorem dL_law_30 : decode cL_law 30 = .ok (.istore_n 2, 1) := by decide +kernel
theorem dL_law_31 : decode cL_law 31 = .ok (.iconst 0, 1) := by decide +kernel
theorem dL_law_32 : decode cL_law 32 = .ok (.istore_n 3, 1) := by decide +kernel
theorem dL_law_33 : decode cL_law 33 = .ok (.iload_n 3, 1) := by decide +kernel
theorem dL_law_34 : decode cL_law 34 = .ok (.bipush 28, 2) := by decide +kernel
theorem dL_law_36 : decode cL_law 36 = .ok (.if_icmp .ge 236, 3) := by decide +kernel
theorem dL_law_39 : decode cL_law 39 = .ok (.iload_n 2, 1) := by decide +kernel
theorem dL_law_40 : decode cL_law 40 = .ok (.ifCond .eq 232, 3) := by decide +kernel
theorem dL_law_43 : decode cL_law 43 = .ok (.aload_n 0, 1) := by decide +kernel
theorem dL_law_44 : decode cL_law 44 = .ok (.iconst 2, 1) := by decide +kernel
theorem dL_law_45 : decode cL_law 45 = .ok (.iload_n 3, 1) := by decide +kernel
theorem dL_law_46 : decode cL_law 46 = .ok (.imul, 1) := by decide +kernel
theorem dL_law_47 : decode cL_law 47 = .ok (.invokestatic 109, 3) := by decide +kernel
theorem dL_law_50 : decode cL_law 50 = .ok (.istore 4, 2) := by decide +kernel
theorem dL_law_52 : decode cL_law 52 = .ok (.aload_n 0, 1) := by decide +kernel
theorem dL_law_53 : decode cL_law 53 = .ok (.iconst 2, 1) := by decide +kernel
theorem dL_law_54 : decode cL_law 54 = .ok (.iload_n 3, 1) := by decide +kernel
theorem dL_law_55 : decode cL_law 55 = .ok (.imul, 1) := by decide +kernel
theorem dL_law_56 : decode cL_law 56 = .ok (.iconst 1, 1) := by decide +kernel
theorem dL_law_57 : decode cL_law 57 = .ok (.iadd, 1) := by decide +kernel
theorem dL_law_58 : decode cL_law 58 = .ok (.invokestatic 109, 3) := by decide +kernel
theorem dL_law_61 : decode cL_law 61 = .ok (.istore 5, 2) := by decide +kernel
theorem dL_law_63 : decode cL_law 63 = .ok (.aload_n 1, 1) := by decide +kernel
theorem dL_law_64 : decode cL_law 64 = .ok (.invokestatic 113, 3) := by decide +kernel
theorem dL_law_67 : decode cL_law 67 = .ok (.lstore 6, 2) := by decide +kernel
theorem dL_law_69 : decode cL_law 69 = .ok (.aload_n 1, 1) := by decide +kernel
theorem dL_law_70 : decode cL_law 70 = .ok (.iconst 3, 1) := by decide +kernel
theorem dL_law_71 : decode cL_law 71 = .ok (.invokevirtual 13, 3) := by decide +kernel
theorem dL_law_74 : decode cL_law 74 = .ok (.istore 8, 2) := by decide +kernel
theorem dL_law_76 : decode cL_law 76 = .ok (.aload_n 1, 1) := by decide +kernel
theorem dL_law_77 : decode cL_law 77 = .ok (.iload_n 3, 1) := by decide +kernel
theorem dL_law_78 : decode cL_law 78 = .ok (.iconst 4, 1) := by decide +kernel
theorem dL_law_79 : decode cL_law 79 = .ok (.if_icmp .ge 11, 3) := by decide +kernel
theorem dL_law_82 : decode cL_law 82 = .ok (.iload 4, 2) := by decide +kernel
theorem dL_law_84 : decode cL_law 84 = .ok (.bipush (-16), 2) := by decide +kernel
theorem dL_law_86 : decode cL_law 86 = .ok (.iand, 1) := by decide +kernel
theorem dL_law_87 : decode cL_law 87 = .ok (.goto 5, 3) := by decide +kernel
theorem dL_law_90 : decode cL_law 90 = .ok (.iload 4, 2) := by decide +kernel
theorem dL_law_92 : decode cL_law 92 = .ok (.iload 5, 2) := by decide +kernel
theorem dL_law_94 : decode cL_law 94 = .ok (.invokestatic 117, 3) := by decide +kernel
theorem dL_law_97 : decode cL_law 97 = .ok (.ifCond .eq 23, 3) := by decide +kernel
theorem dL_law_100 : decode cL_law 100 = .ok (.iload_n 3, 1) := by decide +kernel
theorem dL_law_101 : decode cL_law 101 = .ok (.iconst 4, 1) := by decide +kernel
theorem dL_law_102 : decode cL_law 102 = .ok (.irem, 1) := by decide +kernel
theorem dL_law_103 : decode cL_law 103 = .ok (.iconst 3, 1) := by decide +kernel
theorem dL_law_104 : decode cL_law 104 = .ok (.if_icmp .ne 12, 3) := by decide +kernel
theorem dL_law_107 : decode cL_law 107 = .ok (.aload_n 1, 1) := by decide +kernel
theorem dL_law_108 : decode cL_law 108 = .ok (.iload 5, 2) := by decide +kernel
theorem dL_law_110 : decode cL_law 110 = .ok (.invokestatic 103, 3) := by decide +kernel
theorem dL_law_113 : decode cL_law 113 = .ok (.ifCond .eq 7, 3) := by decide +kernel
theorem dL_law_116 : decode cL_law 116 = .ok (.iconst 1, 1) := by decide +kernel
theorem dL_law_117 : decode cL_law 117 = .ok (.goto 4, 3) := by decide +kernel
theorem dL_law_120 : decode cL_law 120 = .ok (.iconst 0, 1) := by decide +kernel
theorem dL_law_121 : decode cL_law 121 = .ok (.istore_n 2, 1) := by decide +kernel
theorem dL_law_122 : decode cL_law 122 = .ok (.aload_n 1, 1) := by decide +kernel
theorem dL_law_123 : decode cL_law 123 = .ok (.iconst 3, 1) := by decide +kernel
theorem dL_law_124 : decode cL_law 124 = .ok (.invokevirtual 13, 3) := by decide +kernel
theorem dL_law_127 : decode cL_law 127 = .ok (.istore 9, 2) := by decide +kernel
theorem dL_law_129 : decode cL_law 129 = .ok (.iload_n 2, 1) := by decide +kernel
theorem dL_law_130 : decode cL_law 130 = .ok (.ifCond .eq 39, 3) := by decide +kernel
theorem dL_law_133 : decode cL_law 133 = .ok (.iload 9, 2) := by decide +kernel
theorem dL_law_135 : decode cL_law 135 = .ok (.iload 8, 2) := by decide +kernel
theorem dL_law_137 : decode cL_law 137 = .ok (.if_icmp .ne 19, 3) := by decide +kernel
theorem dL_law_140 : decode cL_law 140 = .ok (.iload 8, 2) := by decide +kernel
theorem dL_law_142 : decode cL_law 142 = .ok (.iconst 4, 1) := by decide +kernel
theorem dL_law_143 : decode cL_law 143 = .ok (.if_icmp .eq 22, 3) := by decide +kernel
theorem dL_law_146 : decode cL_law 146 = .ok (.aload_n 1, 1) := by decide +kernel
theorem dL_law_147 : decode cL_law 147 = .ok (.invokestatic 113, 3) := by decide +kernel
theorem dL_law_150 : decode cL_law 150 = .ok (.lload 6, 2) := by decide +kernel
theorem dL_law_152 : decode cL_law 152 = .ok (.lcmp, 1) := by decide +kernel
theorem dL_law_153 : decode cL_law 153 = .ok (.ifCond .eq 12, 3) := by decide +kernel
theorem dL_law_156 : decode cL_law 156 = .ok (.iload 9, 2) := by decide +kernel
theorem dL_law_158 : decode cL_law 158 = .ok (.iload 8, 2) := by decide +kernel
theorem dL_law_160 : decode cL_law 160 = .ok (.iconst 1, 1) := by decide +kernel
theorem dL_law_161 : decode cL_law 161 = .ok (.iadd, 1) := by decide +kernel
theorem dL_law_162 : decode cL_law 162 = .ok (.if_icmp .ne 7, 3) := by decide +kernel
theorem dL_law_165 : decode cL_law 165 = .ok (.iconst 1, 1) := by decide +kernel
theorem dL_law_166 : decode cL_law 166 = .ok (.goto 4, 3) := by decide +kernel
theorem dL_law_169 : decode cL_law 169 = .ok (.iconst 0, 1) := by decide +kernel
theorem dL_law_170 : decode cL_law 170 = .ok (.istore_n 2, 1) := by decide +kernel
theorem dL_law_171 : decode cL_law 171 = .ok (.iload_n 2, 1) := by decide +kernel
theorem dL_law_172 : decode cL_law 172 = .ok (.ifCond .eq 49, 3) := by decide +kernel
theorem dL_law_175 : decode cL_law 175 = .ok (.iload 9, 2) := by decide +kernel
theorem dL_law_177 : decode cL_law 177 = .ok (.iload 8, 2) := by decide +kernel
theorem dL_law_179 : decode cL_law 179 = .ok (.iconst 1, 1) := by decide +kernel
theorem dL_law_180 : decode cL_law 180 = .ok (.iadd, 1) := by decide +kernel
theorem dL_law_181 : decode cL_law 181 = .ok (.if_icmp .ne 40, 3) := by decide +kernel
theorem dL_law_184 : decode cL_law 184 = .ok (.iload 5, 2) := by decide +kernel
theorem dL_law_186 : decode cL_law 186 = .ok (.bipush 8, 2) := by decide +kernel
theorem dL_law_188 : decode cL_law 188 = .ok (.ishr, 1) := by decide +kernel
theorem dL_law_189 : decode cL_law 189 = .ok (.iconst 2, 1) := by decide +kernel
theorem dL_law_190 : decode cL_law 190 = .ok (.invokestatic 30, 3) := by decide +kernel
theorem dL_law_193 : decode cL_law 193 = .ok (.ifCond .ne 28, 3) := by decide +kernel
theorem dL_law_196 : decode cL_law 196 = .ok (.aload_n 1, 1) := by decide +kernel
theorem dL_law_197 : decode cL_law 197 = .ok (.invokevirtual 106, 3) := by decide +kernel
theorem dL_law_200 : decode cL_law 200 = .ok (.iload 8, 2) := by decide +kernel
theorem dL_law_202 : decode cL_law 202 = .ok (.if_icmp .ne 17, 3) := by decide +kernel
theorem dL_law_205 : decode cL_law 205 = .ok (.aload_n 1, 1) := by decide +kernel
theorem dL_law_206 : decode cL_law 206 = .ok (.invokestatic 113, 3) := by decide +kernel
theorem dL_law_209 : decode cL_law 209 = .ok (.lload 6, 2) := by decide +kernel
theorem dL_law_211 : decode cL_law 211 = .ok (.lcmp, 1) := by decide +kernel
theorem dL_law_212 : decode cL_law 212 = .ok (.ifCond .ne 7, 3) := by decide +kernel
theorem dL_law_215 : decode cL_law 215 = .ok (.iconst 1, 1) := by decide +kernel
theorem dL_law_216 : decode cL_law 216 = .ok (.goto 4, 3) := by decide +kernel
theorem dL_law_219 : decode cL_law 219 = .ok (.iconst 0, 1) := by decide +kernel
theorem dL_law_220 : decode cL_law 220 = .ok (.istore_n 2, 1) := by decide +kernel
theorem dL_law_221 : decode cL_law 221 = .ok (.iload_n 2, 1) := by decide +kernel
theorem dL_law_222 : decode cL_law 222 = .ok (.ifCond .eq 44, 3) := by decide +kernel
theorem dL_law_225 : decode cL_law 225 = .ok (.iload_n 3, 1) := by decide +kernel
theorem dL_law_226 : decode cL_law 226 = .ok (.iconst 5, 1) := by decide +kernel
theorem dL_law_227 : decode cL_law 227 = .ok (.irem, 1) := by decide +kernel
theorem dL_law_228 : decode cL_law 228 = .ok (.iconst 4, 1) := by decide +kernel
theorem dL_law_229 : decode cL_law 229 = .ok (.if_icmp .ne 37, 3) := by decide +kernel
theorem dL_law_232 : decode cL_law 232 = .ok (.aload_n 1, 1) := by decide +kernel
theorem dL_law_233 : decode cL_law 233 = .ok (.iconst 3, 1) := by decide +kernel
theorem dL_law_234 : decode cL_law 234 = .ok (.invokevirtual 13, 3) := by decide +kernel
theorem dL_law_237 : decode cL_law 237 = .ok (.istore 10, 2) := by decide +kernel
theorem dL_law_239 : decode cL_law 239 = .ok (.aload_n 1, 1) := by decide +kernel
theorem dL_law_240 : decode cL_law 240 = .ok (.invokevirtual 106, 3) := by decide +kernel
theorem dL_law_243 : decode cL_law 243 = .ok (.iload 10, 2) := by decide +kernel
theorem dL_law_245 : decode cL_law 245 = .ok (.ifCond .ne 8, 3) := by decide +kernel
theorem dL_law_248 : decode cL_law 248 = .ok (.ldc 58, 2) := by decide +kernel
theorem dL_law_250 : decode cL_law 250 = .ok (.goto 7, 3) := by decide +kernel
theorem dL_law_253 : decode cL_law 253 = .ok (.iload 10, 2) := by decide +kernel
theorem dL_law_255 : decode cL_law 255 = .ok (.iconst 1, 1) := by decide +kernel
theorem dL_law_256 : decode cL_law 256 = .ok (.isub, 1) := by decide +kernel
theorem dL_law_257 : decode cL_law 257 = .ok (.if_icmp .ne 7, 3) := by decide +kernel
theorem dL_law_260 : decode cL_law 260 = .ok (.iconst 1, 1) := by decide +kernel
theorem dL_law_261 : decode cL_law 261 = .ok (.goto 4, 3) := by decide +kernel
theorem dL_law_264 : decode cL_law 264 = .ok (.iconst 0, 1) := by decide +kernel
theorem dL_law_265 : decode cL_law 265 = .ok (.istore_n 2, 1) := by decide +kernel
theorem dL_law_266 : decode cL_law 266 = .ok (.iinc 3 1, 3) := by decide +kernel
theorem dL_law_269 : decode cL_law 269 = .ok (.goto (-236), 3) := by decide +kernel
theorem dL_law_272 : decode cL_law 272 = .ok (.iload_n 2, 1) := by decide +kernel
theorem dL_law_273 : decode cL_law 273 = .ok (.ireturn, 1) := by decide +kernel
