/-! decode rows -/
theorem dX0_init_0 : decode cX0_init 0 = .ok (.aload_n 0, 1) := by decide +kernel
theorem dX0_init_1 : decode cX0_init 1 = .ok (.invokespecial 1, 3) := by decide +kernel
theorem dX0_init_4 : decode cX0_init 4 = .ok (.aload_n 0, 1) := by decide +kernel
theorem dX0_init_5 : decode cX0_init 5 = .ok (.iconst 4, 1) := by decide +kernel
theorem dX0_init_6 : decode cX0_init 6 = .ok (.anewarray 9, 3) := by decide +kernel
theorem dX0_init_9 : decode cX0_init 9 = .ok (.putfield 11, 3) := by decide +kernel
theorem dX0_init_12 : decode cX0_init 12 = .ok (.iconst 0, 1) := by decide +kernel
theorem dX0_init_13 : decode cX0_init 13 = .ok (.istore_n 1, 1) := by decide +kernel
theorem dX0_init_14 : decode cX0_init 14 = .ok (.iload_n 1, 1) := by decide +kernel
theorem dX0_init_15 : decode cX0_init 15 = .ok (.iconst 4, 1) := by decide +kernel
theorem dX0_init_16 : decode cX0_init 16 = .ok (.if_icmp .ge 22, 3) := by decide +kernel
theorem dX0_init_19 : decode cX0_init 19 = .ok (.aload_n 0, 1) := by decide +kernel
theorem dX0_init_20 : decode cX0_init 20 = .ok (.getfield 11, 3) := by decide +kernel
theorem dX0_init_23 : decode cX0_init 23 = .ok (.iload_n 1, 1) := by decide +kernel
theorem dX0_init_24 : decode cX0_init 24 = .ok (.new 9, 3) := by decide +kernel
theorem dX0_init_27 : decode cX0_init 27 = .ok (.dup, 1) := by decide +kernel
theorem dX0_init_28 : decode cX0_init 28 = .ok (.invokespecial 15, 3) := by decide +kernel
theorem dX0_init_31 : decode cX0_init 31 = .ok (.aastore, 1) := by decide +kernel
theorem dX0_init_32 : decode cX0_init 32 = .ok (.iinc 1 1, 3) := by decide +kernel
theorem dX0_init_35 : decode cX0_init 35 = .ok (.goto (-21), 3) := by decide +kernel
theorem dX0_init_38 : decode cX0_init 38 = .ok (.return_, 1) := by decide +kernel
theorem dX0_take_0 : decode cX0_take 0 = .ok (.aload_n 0, 1) := by decide +kernel
theorem dX0_take_1 : decode cX0_take 1 = .ok (.getfield 11, 3) := by decide +kernel
theorem dX0_take_4 : decode cX0_take 4 = .ok (.aload_n 0, 1) := by decide +kernel
theorem dX0_take_5 : decode cX0_take 5 = .ok (.getfield 16, 3) := by decide +kernel
theorem dX0_take_8 : decode cX0_take 8 = .ok (.aload_n 0, 1) := by decide +kernel
theorem dX0_take_9 : decode cX0_take 9 = .ok (.getfield 20, 3) := by decide +kernel
theorem dX0_take_12 : decode cX0_take 12 = .ok (.iadd, 1) := by decide +kernel
theorem dX0_take_13 : decode cX0_take 13 = .ok (.iconst 4, 1) := by decide +kernel
theorem dX0_take_14 : decode cX0_take 14 = .ok (.irem, 1) := by decide +kernel
theorem dX0_take_15 : decode cX0_take 15 = .ok (.aaload, 1) := by decide +kernel
theorem dX0_take_16 : decode cX0_take 16 = .ok (.aload_n 1, 1) := by decide +kernel
theorem dX0_take_17 : decode cX0_take 17 = .ok (.invokevirtual 23, 3) := by decide +kernel
theorem dX0_take_20 : decode cX0_take 20 = .ok (.aload_n 0, 1) := by decide +kernel
theorem dX0_take_21 : decode cX0_take 21 = .ok (.getfield 20, 3) := by decide +kernel
theorem dX0_take_24 : decode cX0_take 24 = .ok (.iconst 4, 1) := by decide +kernel
theorem dX0_take_25 : decode cX0_take 25 = .ok (.if_icmp .ge 16, 3) := by decide +kernel
theorem dX0_take_28 : decode cX0_take 28 = .ok (.aload_n 0, 1) := by decide +kernel
theorem dX0_take_29 : decode cX0_take 29 = .ok (.dup, 1) := by decide +kernel
theorem dX0_take_30 : decode cX0_take 30 = .ok (.getfield 20, 3) := by decide +kernel
theorem dX0_take_33 : decode cX0_take 33 = .ok (.iconst 1, 1) := by decide +kernel
theorem dX0_take_34 : decode cX0_take 34 = .ok (.iadd, 1) := by decide +kernel
theorem dX0_take_35 : decode cX0_take 35 = .ok (.putfield 20, 3) := by decide +kernel
theorem dX0_take_38 : decode cX0_take 38 = .ok (.goto 15, 3) := by decide +kernel
theorem dX0_take_41 : decode cX0_take 41 = .ok (.aload_n 0, 1) := by decide +kernel
theorem dX0_take_42 : decode cX0_take 42 = .ok (.aload_n 0, 1) := by decide +kernel
theorem dX0_take_43 : decode cX0_take 43 = .ok (.getfield 16, 3) := by decide +kernel
theorem dX0_take_46 : decode cX0_take 46 = .ok (.iconst 1, 1) := by decide +kernel
theorem dX0_take_47 : decode cX0_take 47 = .ok (.iadd, 1) := by decide +kernel
theorem dX0_take_48 : decode cX0_take 48 = .ok (.iconst 4, 1) := by decide +kernel
theorem dX0_take_49 : decode cX0_take 49 = .ok (.irem, 1) := by decide +kernel
theorem dX0_take_50 : decode cX0_take 50 = .ok (.putfield 16, 3) := by decide +kernel
theorem dX0_take_53 : decode cX0_take 53 = .ok (.return_, 1) := by decide +kernel
theorem dX0_giveBack_0 : decode cX0_giveBack 0 = .ok (.aload_n 0, 1) := by decide +kernel
theorem dX0_giveBack_1 : decode cX0_giveBack 1 = .ok (.getfield 20, 3) := by decide +kernel
theorem dX0_giveBack_4 : decode cX0_giveBack 4 = .ok (.ifCond .le 33, 3) := by decide +kernel
theorem dX0_giveBack_7 : decode cX0_giveBack 7 = .ok (.aload_n 0, 1) := by decide +kernel
theorem dX0_giveBack_8 : decode cX0_giveBack 8 = .ok (.dup, 1) := by decide +kernel
theorem dX0_giveBack_9 : decode cX0_giveBack 9 = .ok (.getfield 20, 3) := by decide +kernel
theorem dX0_giveBack_12 : decode cX0_giveBack 12 = .ok (.iconst 1, 1) := by decide +kernel
theorem dX0_giveBack_13 : decode cX0_giveBack 13 = .ok (.isub, 1) := by decide +kernel
theorem dX0_giveBack_14 : decode cX0_giveBack 14 = .ok (.putfield 20, 3) := by decide +kernel
theorem dX0_giveBack_17 : decode cX0_giveBack 17 = .ok (.aload_n 1, 1) := by decide +kernel
theorem dX0_giveBack_18 : decode cX0_giveBack 18 = .ok (.aload_n 0, 1) := by decide +kernel
theorem dX0_giveBack_19 : decode cX0_giveBack 19 = .ok (.getfield 11, 3) := by decide +kernel
theorem dX0_giveBack_22 : decode cX0_giveBack 22 = .ok (.aload_n 0, 1) := by decide +kernel
theorem dX0_giveBack_23 : decode cX0_giveBack 23 = .ok (.getfield 16, 3) := by decide +kernel
theorem dX0_giveBack_26 : decode cX0_giveBack 26 = .ok (.aload_n 0, 1) := by decide +kernel
theorem dX0_giveBack_27 : decode cX0_giveBack 27 = .ok (.getfield 20, 3) := by decide +kernel
theorem dX0_giveBack_30 : decode cX0_giveBack 30 = .ok (.iadd, 1) := by decide +kernel
theorem dX0_giveBack_31 : decode cX0_giveBack 31 = .ok (.iconst 4, 1) := by decide +kernel
theorem dX0_giveBack_32 : decode cX0_giveBack 32 = .ok (.irem, 1) := by decide +kernel
theorem dX0_giveBack_33 : decode cX0_giveBack 33 = .ok (.aaload, 1) := by decide +kernel
theorem dX0_giveBack_34 : decode cX0_giveBack 34 = .ok (.invokevirtual 23, 3) := by decide +kernel
theorem dX0_giveBack_37 : decode cX0_giveBack 37 = .ok (.return_, 1) := by decide +kernel
theorem dX1_init_0 : decode cX1_init 0 = .ok (.aload_n 0, 1) := by decide +kernel
theorem dX1_init_1 : decode cX1_init 1 = .ok (.invokespecial 3, 3) := by decide +kernel
theorem dX1_init_4 : decode cX1_init 4 = .ok (.aload_n 0, 1) := by decide +kernel
theorem dX1_init_5 : decode cX1_init 5 = .ok (.new 9, 3) := by decide +kernel
theorem dX1_init_8 : decode cX1_init 8 = .ok (.dup, 1) := by decide +kernel
theorem dX1_init_9 : decode cX1_init 9 = .ok (.invokespecial 11, 3) := by decide +kernel
theorem dX1_init_12 : decode cX1_init 12 = .ok (.putfield 12, 3) := by decide +kernel
theorem dX1_init_15 : decode cX1_init 15 = .ok (.aload_n 0, 1) := by decide +kernel
theorem dX1_init_16 : decode cX1_init 16 = .ok (.sipush 1501, 3) := by decide +kernel
theorem dX1_init_19 : decode cX1_init 19 = .ok (.newarray .long, 2) := by decide +kernel
theorem dX1_init_21 : decode cX1_init 21 = .ok (.putfield 18, 3) := by decide +kernel
theorem dX1_init_24 : decode cX1_init 24 = .ok (.aload_n 0, 1) := by decide +kernel
theorem dX1_init_25 : decode cX1_init 25 = .ok (.sipush 1501, 3) := by decide +kernel
theorem dX1_init_28 : decode cX1_init 28 = .ok (.newarray .int, 2) := by decide +kernel
theorem dX1_init_30 : decode cX1_init 30 = .ok (.putfield 22, 3) := by decide +kernel
theorem dX1_init_33 : decode cX1_init 33 = .ok (.aload_n 0, 1) := by decide +kernel
theorem dX1_init_34 : decode cX1_init 34 = .ok (.sipush 4096, 3) := by decide +kernel
theorem dX1_init_37 : decode cX1_init 37 = .ok (.newarray .int, 2) := by decide +kernel
theorem dX1_init_39 : decode cX1_init 39 = .ok (.putfield 26, 3) := by decide +kernel
theorem dX1_init_42 : decode cX1_init 42 = .ok (.return_, 1) := by decide +kernel
theorem dX1_seek_0 : decode cX1_seek 0 = .ok (.aload_n 0, 1) := by decide +kernel
theorem dX1_seek_1 : decode cX1_seek 1 = .ok (.getfield 12, 3) := by decide +kernel
theorem dX1_seek_4 : decode cX1_seek 4 = .ok (.aload_n 1, 1) := by decide +kernel
theorem dX1_seek_5 : decode cX1_seek 5 = .ok (.invokevirtual 29, 3) := by decide +kernel
theorem dX1_seek_8 : decode cX1_seek 8 = .ok (.aload_n 0, 1) := by decide +kernel
theorem dX1_seek_9 : decode cX1_seek 9 = .ok (.getfield 12, 3) := by decide +kernel
theorem dX1_seek_12 : decode cX1_seek 12 = .ok (.getfield 33, 3) := by decide +kernel
theorem dX1_seek_15 : decode cX1_seek 15 = .ok (.iconst 0, 1) := by decide +kernel
theorem dX1_seek_16 : decode cX1_seek 16 = .ok (.iconst 0, 1) := by decide +kernel
theorem dX1_seek_17 : decode cX1_seek 17 = .ok (.iastore, 1) := by decide +kernel
theorem dX1_seek_18 : decode cX1_seek 18 = .ok (.aload_n 0, 1) := by decide +kernel
theorem dX1_seek_19 : decode cX1_seek 19 = .ok (.getfield 12, 3) := by decide +kernel
theorem dX1_seek_22 : decode cX1_seek 22 = .ok (.invokevirtual 36, 3) := by decide +kernel
theorem dX1_seek_25 : decode cX1_seek 25 = .ok (.aload_n 0, 1) := by decide +kernel
theorem dX1_seek_26 : decode cX1_seek 26 = .ok (.getfield 26, 3) := by decide +kernel
theorem dX1_seek_29 : decode cX1_seek 29 = .ok (.iconst (-1), 1) := by decide +kernel
theorem dX1_seek_30 : decode cX1_seek 30 = .ok (.invokestatic 39, 3) := by decide +kernel
theorem dX1_seek_33 : decode cX1_seek 33 = .ok (.aload_n 0, 1) := by decide +kernel
theorem dX1_seek_34 : decode cX1_seek 34 = .ok (.iconst 0, 1) := by decide +kernel
theorem dX1_seek_35 : decode cX1_seek 35 = .ok (.putfield 45, 3) := by decide +kernel
theorem dX1_seek_38 : decode cX1_seek 38 = .ok (.iconst 0, 1) := by decide +kernel
theorem dX1_seek_39 : decode cX1_seek 39 = .ok (.istore_n 2, 1) := by decide +kernel
theorem dX1_seek_40 : decode cX1_seek 40 = .ok (.iload_n 2, 1) := by decide +kernel
theorem dX1_seek_41 : decode cX1_seek 41 = .ok (.sipush 1500, 3) := by decide +kernel
theorem dX1_seek_44 : decode cX1_seek 44 = .ok (.if_icmp .gt 95, 3) := by decide +kernel
theorem dX1_seek_47 : decode cX1_seek 47 = .ok (.aload_n 0, 1) := by decide +kernel
theorem dX1_seek_48 : decode cX1_seek 48 = .ok (.getfield 45, 3) := by decide +kernel
theorem dX1_seek_51 : decode cX1_seek 51 = .ok (.ifCond .ne 88, 3) := by decide +kernel
theorem dX1_seek_54 : decode cX1_seek 54 = .ok (.aload_n 0, 1) := by decide +kernel
theorem dX1_seek_55 : decode cX1_seek 55 = .ok (.getfield 18, 3) := by decide +kernel
theorem dX1_seek_58 : decode cX1_seek 58 = .ok (.iload_n 2, 1) := by decide +kernel
theorem dX1_seek_59 : decode cX1_seek 59 = .ok (.aload_n 0, 1) := by decide +kernel
theorem dX1_seek_60 : decode cX1_seek 60 = .ok (.getfield 12, 3) := by decide +kernel
theorem dX1_seek_63 : decode cX1_seek 63 = .ok (.invokevirtual 49, 3) := by decide +kernel
theorem dX1_seek_66 : decode cX1_seek 66 = .ok (.lastore, 1) := by decide +kernel
theorem dX1_seek_67 : decode cX1_seek 67 = .ok (.aload_n 0, 1) := by decide +kernel
theorem dX1_seek_68 : decode cX1_seek 68 = .ok (.getfield 22, 3) := by decide +kernel
theorem dX1_seek_71 : decode cX1_seek 71 = .ok (.iload_n 2, 1) := by decide +kernel
theorem dX1_seek_72 : decode cX1_seek 72 = .ok (.aload_n 0, 1) := by decide +kernel
theorem dX1_seek_73 : decode cX1_seek 73 = .ok (.getfield 12, 3) := by decide +kernel
theorem dX1_seek_76 : decode cX1_seek 76 = .ok (.invokevirtual 53, 3) := by decide +kernel
theorem dX1_seek_79 : decode cX1_seek 79 = .ok (.iastore, 1) := by decide +kernel
theorem dX1_seek_80 : decode cX1_seek 80 = .ok (.aload_n 0, 1) := by decide +kernel
theorem dX1_seek_81 : decode cX1_seek 81 = .ok (.iload_n 2, 1) := by decide +kernel
theorem dX1_seek_82 : decode cX1_seek 82 = .ok (.invokevirtual 57, 3) := by decide +kernel
theorem dX1_seek_85 : decode cX1_seek 85 = .ok (.istore_n 3, 1) := by decide +kernel
theorem dX1_seek_86 : decode cX1_seek 86 = .ok (.iload_n 3, 1) := by decide +kernel
theorem dX1_seek_87 : decode cX1_seek 87 = .ok (.iconst (-1), 1) := by decide +kernel
theorem dX1_seek_88 : decode cX1_seek 88 = .ok (.if_icmp .eq 37, 3) := by decide +kernel
theorem dX1_seek_91 : decode cX1_seek 91 = .ok (.aload_n 0, 1) := by decide +kernel
theorem dX1_seek_92 : decode cX1_seek 92 = .ok (.iconst 1, 1) := by decide +kernel
theorem dX1_seek_93 : decode cX1_seek 93 = .ok (.putfield 45, 3) := by decide +kernel
theorem dX1_seek_96 : decode cX1_seek 96 = .ok (.aload_n 0, 1) := by decide +kernel
theorem dX1_seek_97 : decode cX1_seek 97 = .ok (.iload_n 3, 1) := by decide +kernel
theorem dX1_seek_98 : decode cX1_seek 98 = .ok (.putfield 61, 3) := by decide +kernel
theorem dX1_seek_101 : decode cX1_seek 101 = .ok (.aload_n 0, 1) := by decide +kernel
theorem dX1_seek_102 : decode cX1_seek 102 = .ok (.iload_n 2, 1) := by decide +kernel
theorem dX1_seek_103 : decode cX1_seek 103 = .ok (.iload_n 3, 1) := by decide +kernel
theorem dX1_seek_104 : decode cX1_seek 104 = .ok (.isub, 1) := by decide +kernel
theorem dX1_seek_105 : decode cX1_seek 105 = .ok (.putfield 65, 3) := by decide +kernel
theorem dX1_seek_108 : decode cX1_seek 108 = .ok (.aload_n 0, 1) := by decide +kernel
theorem dX1_seek_109 : decode cX1_seek 109 = .ok (.aload_n 0, 1) := by decide +kernel
theorem dX1_seek_110 : decode cX1_seek 110 = .ok (.getfield 22, 3) := by decide +kernel
theorem dX1_seek_113 : decode cX1_seek 113 = .ok (.iload_n 2, 1) := by decide +kernel
theorem dX1_seek_114 : decode cX1_seek 114 = .ok (.iaload, 1) := by decide +kernel
theorem dX1_seek_115 : decode cX1_seek 115 = .ok (.aload_n 0, 1) := by decide +kernel
theorem dX1_seek_116 : decode cX1_seek 116 = .ok (.getfield 22, 3) := by decide +kernel
theorem dX1_seek_119 : decode cX1_seek 119 = .ok (.iload_n 3, 1) := by decide +kernel
theorem dX1_seek_120 : decode cX1_seek 120 = .ok (.iaload, 1) := by decide +kernel
theorem dX1_seek_121 : decode cX1_seek 121 = .ok (.isub, 1) := by decide +kernel
theorem dX1_seek_122 : decode cX1_seek 122 = .ok (.putfield 68, 3) := by decide +kernel
theorem dX1_seek_125 : decode cX1_seek 125 = .ok (.aload_n 0, 1) := by decide +kernel
theorem dX1_seek_126 : decode cX1_seek 126 = .ok (.getfield 12, 3) := by decide +kernel
theorem dX1_seek_129 : decode cX1_seek 129 = .ok (.invokevirtual 70, 3) := by decide +kernel
theorem dX1_seek_132 : decode cX1_seek 132 = .ok (.pop, 1) := by decide +kernel
theorem dX1_seek_133 : decode cX1_seek 133 = .ok (.iinc 2 1, 3) := by decide +kernel
theorem dX1_seek_136 : decode cX1_seek 136 = .ok (.goto (-96), 3) := by decide +kernel
theorem dX1_seek_139 : decode cX1_seek 139 = .ok (.return_, 1) := by decide +kernel
theorem dX1_sameStepOrEnter_0 : decode cX1_sameStepOrEnter 0 = .ok (.aload_n 0, 1) := by decide +kernel
theorem dX1_sameStepOrEnter_1 : decode cX1_sameStepOrEnter 1 = .ok (.getfield 18, 3) := by decide +kernel
theorem dX1_sameStepOrEnter_4 : decode cX1_sameStepOrEnter 4 = .ok (.iload_n 1, 1) := by decide +kernel
theorem dX1_sameStepOrEnter_5 : decode cX1_sameStepOrEnter 5 = .ok (.laload, 1) := by decide +kernel
theorem dX1_sameStepOrEnter_6 : decode cX1_sameStepOrEnter 6 = .ok (.lstore_n 2, 1) := by decide +kernel
theorem dX1_sameStepOrEnter_7 : decode cX1_sameStepOrEnter 7 = .ok (.lload_n 2, 1) := by decide +kernel
theorem dX1_sameStepOrEnter_8 : decode cX1_sameStepOrEnter 8 = .ok (.ldc2_w 73, 3) := by decide +kernel
theorem dX1_sameStepOrEnter_11 : decode cX1_sameStepOrEnter 11 = .ok (.lmul, 1) := by decide +kernel
theorem dX1_sameStepOrEnter_12 : decode cX1_sameStepOrEnter 12 = .ok (.bipush 52, 2) := by decide +kernel
theorem dX1_sameStepOrEnter_14 : decode cX1_sameStepOrEnter 14 = .ok (.lushr, 1) := by decide +kernel
theorem dX1_sameStepOrEnter_15 : decode cX1_sameStepOrEnter 15 = .ok (.l2i, 1) := by decide +kernel
theorem dX1_sameStepOrEnter_16 : decode cX1_sameStepOrEnter 16 = .ok (.istore 4, 2) := by decide +kernel
theorem dX1_sameStepOrEnter_18 : decode cX1_sameStepOrEnter 18 = .ok (.iconst 0, 1) := by decide +kernel
theorem dX1_sameStepOrEnter_19 : decode cX1_sameStepOrEnter 19 = .ok (.istore 5, 2) := by decide +kernel
theorem dX1_sameStepOrEnter_21 : decode cX1_sameStepOrEnter 21 = .ok (.iload 5, 2) := by decide +kernel
theorem dX1_sameStepOrEnter_23 : decode cX1_sameStepOrEnter 23 = .ok (.sipush 4096, 3) := by decide +kernel
theorem dX1_sameStepOrEnter_26 : decode cX1_sameStepOrEnter 26 = .ok (.if_icmp .ge 59, 3) := by decide +kernel
theorem dX1_sameStepOrEnter_29 : decode cX1_sameStepOrEnter 29 = .ok (.aload_n 0, 1) := by decide +kernel
theorem dX1_sameStepOrEnter_30 : decode cX1_sameStepOrEnter 30 = .ok (.getfield 26, 3) := by decide +kernel
theorem dX1_sameStepOrEnter_33 : decode cX1_sameStepOrEnter 33 = .ok (.iload 4, 2) := by decide +kernel
theorem dX1_sameStepOrEnter_35 : decode cX1_sameStepOrEnter 35 = .ok (.iaload, 1) := by decide +kernel
theorem dX1_sameStepOrEnter_36 : decode cX1_sameStepOrEnter 36 = .ok (.istore 6, 2) := by decide +kernel
theorem dX1_sameStepOrEnter_38 : decode cX1_sameStepOrEnter 38 = .ok (.iload 6, 2) := by decide +kernel
theorem dX1_sameStepOrEnter_40 : decode cX1_sameStepOrEnter 40 = .ok (.iconst (-1), 1) := by decide +kernel
theorem dX1_sameStepOrEnter_41 : decode cX1_sameStepOrEnter 41 = .ok (.if_icmp .ne 13, 3) := by decide +kernel
theorem dX1_sameStepOrEnter_44 : decode cX1_sameStepOrEnter 44 = .ok (.aload_n 0, 1) := by decide +kernel
theorem dX1_sameStepOrEnter_45 : decode cX1_sameStepOrEnter 45 = .ok (.getfield 26, 3) := by decide +kernel
theorem dX1_sameStepOrEnter_48 : decode cX1_sameStepOrEnter 48 = .ok (.iload 4, 2) := by decide +kernel
theorem dX1_sameStepOrEnter_50 : decode cX1_sameStepOrEnter 50 = .ok (.iload_n 1, 1) := by decide +kernel
theorem dX1_sameStepOrEnter_51 : decode cX1_sameStepOrEnter 51 = .ok (.iastore, 1) := by decide +kernel
theorem dX1_sameStepOrEnter_52 : decode cX1_sameStepOrEnter 52 = .ok (.iconst (-1), 1) := by decide +kernel
theorem dX1_sameStepOrEnter_53 : decode cX1_sameStepOrEnter 53 = .ok (.ireturn, 1) := by decide +kernel
theorem dX1_sameStepOrEnter_54 : decode cX1_sameStepOrEnter 54 = .ok (.aload_n 0, 1) := by decide +kernel
theorem dX1_sameStepOrEnter_55 : decode cX1_sameStepOrEnter 55 = .ok (.getfield 18, 3) := by decide +kernel
theorem dX1_sameStepOrEnter_58 : decode cX1_sameStepOrEnter 58 = .ok (.iload 6, 2) := by decide +kernel
theorem dX1_sameStepOrEnter_60 : decode cX1_sameStepOrEnter 60 = .ok (.laload, 1) := by decide +kernel
theorem dX1_sameStepOrEnter_61 : decode cX1_sameStepOrEnter 61 = .ok (.lload_n 2, 1) := by decide +kernel
theorem dX1_sameStepOrEnter_62 : decode cX1_sameStepOrEnter 62 = .ok (.lcmp, 1) := by decide +kernel
theorem dX1_sameStepOrEnter_63 : decode cX1_sameStepOrEnter 63 = .ok (.ifCond .ne 6, 3) := by decide +kernel
theorem dX1_sameStepOrEnter_66 : decode cX1_sameStepOrEnter 66 = .ok (.iload 6, 2) := by decide +kernel
theorem dX1_sameStepOrEnter_68 : decode cX1_sameStepOrEnter 68 = .ok (.ireturn, 1) := by decide +kernel
theorem dX1_sameStepOrEnter_69 : decode cX1_sameStepOrEnter 69 = .ok (.iload 4, 2) := by decide +kernel
theorem dX1_sameStepOrEnter_71 : decode cX1_sameStepOrEnter 71 = .ok (.iconst 1, 1) := by decide +kernel
theorem dX1_sameStepOrEnter_72 : decode cX1_sameStepOrEnter 72 = .ok (.iadd, 1) := by decide +kernel
theorem dX1_sameStepOrEnter_73 : decode cX1_sameStepOrEnter 73 = .ok (.sipush 4096, 3) := by decide +kernel
theorem dX1_sameStepOrEnter_76 : decode cX1_sameStepOrEnter 76 = .ok (.irem, 1) := by decide +kernel
theorem dX1_sameStepOrEnter_77 : decode cX1_sameStepOrEnter 77 = .ok (.istore 4, 2) := by decide +kernel
theorem dX1_sameStepOrEnter_79 : decode cX1_sameStepOrEnter 79 = .ok (.iinc 5 1, 3) := by decide +kernel
theorem dX1_sameStepOrEnter_82 : decode cX1_sameStepOrEnter 82 = .ok (.goto (-61), 3) := by decide +kernel
theorem dX1_sameStepOrEnter_85 : decode cX1_sameStepOrEnter 85 = .ok (.iconst (-1), 1) := by decide +kernel
theorem dX1_sameStepOrEnter_86 : decode cX1_sameStepOrEnter 86 = .ok (.ireturn, 1) := by decide +kernel
theorem dX2_init_0 : decode cX2_init 0 = .ok (.aload_n 0, 1) := by decide +kernel
theorem dX2_init_1 : decode cX2_init 1 = .ok (.invokespecial 3, 3) := by decide +kernel
theorem dX2_init_4 : decode cX2_init 4 = .ok (.aload_n 0, 1) := by decide +kernel
theorem dX2_init_5 : decode cX2_init 5 = .ok (.sipush 200, 3) := by decide +kernel
theorem dX2_init_8 : decode cX2_init 8 = .ok (.putfield 9, 3) := by decide +kernel
theorem dX2_init_11 : decode cX2_init 11 = .ok (.aload_n 0, 1) := by decide +kernel
theorem dX2_init_12 : decode cX2_init 12 = .ok (.bipush 20, 2) := by decide +kernel
theorem dX2_init_14 : decode cX2_init 14 = .ok (.putfield 15, 3) := by decide +kernel
theorem dX2_init_17 : decode cX2_init 17 = .ok (.aload_n 0, 1) := by decide +kernel
theorem dX2_init_18 : decode cX2_init 18 = .ok (.sipush (-500), 3) := by decide +kernel
theorem dX2_init_21 : decode cX2_init 21 = .ok (.putfield 18, 3) := by decide +kernel
theorem dX2_init_24 : decode cX2_init 24 = .ok (.aload_n 0, 1) := by decide +kernel
theorem dX2_init_25 : decode cX2_init 25 = .ok (.sipush 1500, 3) := by decide +kernel
theorem dX2_init_28 : decode cX2_init 28 = .ok (.putfield 21, 3) := by decide +kernel
theorem dX2_init_31 : decode cX2_init 31 = .ok (.return_, 1) := by decide +kernel
theorem dX2_copyFrom_0 : decode cX2_copyFrom 0 = .ok (.aload_n 0, 1) := by decide +kernel
theorem dX2_copyFrom_1 : decode cX2_copyFrom 1 = .ok (.aload_n 1, 1) := by decide +kernel
theorem dX2_copyFrom_2 : decode cX2_copyFrom 2 = .ok (.getfield 9, 3) := by decide +kernel
theorem dX2_copyFrom_5 : decode cX2_copyFrom 5 = .ok (.putfield 9, 3) := by decide +kernel
theorem dX2_copyFrom_8 : decode cX2_copyFrom 8 = .ok (.aload_n 0, 1) := by decide +kernel
theorem dX2_copyFrom_9 : decode cX2_copyFrom 9 = .ok (.aload_n 1, 1) := by decide +kernel
theorem dX2_copyFrom_10 : decode cX2_copyFrom 10 = .ok (.getfield 24, 3) := by decide +kernel
theorem dX2_copyFrom_13 : decode cX2_copyFrom 13 = .ok (.putfield 24, 3) := by decide +kernel
theorem dX2_copyFrom_16 : decode cX2_copyFrom 16 = .ok (.aload_n 0, 1) := by decide +kernel
theorem dX2_copyFrom_17 : decode cX2_copyFrom 17 = .ok (.aload_n 1, 1) := by decide +kernel
theorem dX2_copyFrom_18 : decode cX2_copyFrom 18 = .ok (.getfield 15, 3) := by decide +kernel
theorem dX2_copyFrom_21 : decode cX2_copyFrom 21 = .ok (.putfield 15, 3) := by decide +kernel
theorem dX2_copyFrom_24 : decode cX2_copyFrom 24 = .ok (.aload_n 0, 1) := by decide +kernel
theorem dX2_copyFrom_25 : decode cX2_copyFrom 25 = .ok (.aload_n 1, 1) := by decide +kernel
theorem dX2_copyFrom_26 : decode cX2_copyFrom 26 = .ok (.getfield 27, 3) := by decide +kernel
theorem dX2_copyFrom_29 : decode cX2_copyFrom 29 = .ok (.putfield 27, 3) := by decide +kernel
theorem dX2_copyFrom_32 : decode cX2_copyFrom 32 = .ok (.aload_n 0, 1) := by decide +kernel
theorem dX2_copyFrom_33 : decode cX2_copyFrom 33 = .ok (.aload_n 1, 1) := by decide +kernel
theorem dX2_copyFrom_34 : decode cX2_copyFrom 34 = .ok (.getfield 31, 3) := by decide +kernel
theorem dX2_copyFrom_37 : decode cX2_copyFrom 37 = .ok (.putfield 31, 3) := by decide +kernel
theorem dX2_copyFrom_40 : decode cX2_copyFrom 40 = .ok (.aload_n 0, 1) := by decide +kernel
theorem dX2_copyFrom_41 : decode cX2_copyFrom 41 = .ok (.aload_n 1, 1) := by decide +kernel
theorem dX2_copyFrom_42 : decode cX2_copyFrom 42 = .ok (.getfield 18, 3) := by decide +kernel
theorem dX2_copyFrom_45 : decode cX2_copyFrom 45 = .ok (.putfield 18, 3) := by decide +kernel
theorem dX2_copyFrom_48 : decode cX2_copyFrom 48 = .ok (.aload_n 0, 1) := by decide +kernel
theorem dX2_copyFrom_49 : decode cX2_copyFrom 49 = .ok (.aload_n 1, 1) := by decide +kernel
theorem dX2_copyFrom_50 : decode cX2_copyFrom 50 = .ok (.getfield 21, 3) := by decide +kernel
theorem dX2_copyFrom_53 : decode cX2_copyFrom 53 = .ok (.putfield 21, 3) := by decide +kernel
theorem dX2_copyFrom_56 : decode cX2_copyFrom 56 = .ok (.return_, 1) := by decide +kernel
theorem dX2_lossTo_0 : decode cX2_lossTo 0 = .ok (.aload_n 0, 1) := by decide +kernel
theorem dX2_lossTo_1 : decode cX2_lossTo 1 = .ok (.getfield 15, 3) := by decide +kernel
theorem dX2_lossTo_4 : decode cX2_lossTo 4 = .ok (.ifCond .ne 7, 3) := by decide +kernel
theorem dX2_lossTo_7 : decode cX2_lossTo 7 = .ok (.iconst 0, 1) := by decide +kernel
theorem dX2_lossTo_8 : decode cX2_lossTo 8 = .ok (.goto 14, 3) := by decide +kernel
theorem dX2_lossTo_11 : decode cX2_lossTo 11 = .ok (.aload_n 0, 1) := by decide +kernel
theorem dX2_lossTo_12 : decode cX2_lossTo 12 = .ok (.getfield 9, 3) := by decide +kernel
theorem dX2_lossTo_15 : decode cX2_lossTo 15 = .ok (.iload_n 1, 1) := by decide +kernel
theorem dX2_lossTo_16 : decode cX2_lossTo 16 = .ok (.isub, 1) := by decide +kernel
theorem dX2_lossTo_17 : decode cX2_lossTo 17 = .ok (.aload_n 0, 1) := by decide +kernel
theorem dX2_lossTo_18 : decode cX2_lossTo 18 = .ok (.getfield 15, 3) := by decide +kernel
theorem dX2_lossTo_21 : decode cX2_lossTo 21 = .ok (.idiv, 1) := by decide +kernel
theorem dX2_lossTo_22 : decode cX2_lossTo 22 = .ok (.ireturn, 1) := by decide +kernel
theorem dX2_lossTo__0 : decode cX2_lossTo_ 0 = .ok (.aload_n 0, 1) := by decide +kernel
theorem dX2_lossTo__1 : decode cX2_lossTo_ 1 = .ok (.getfield 9, 3) := by decide +kernel
theorem dX2_lossTo__4 : decode cX2_lossTo_ 4 = .ok (.aload_n 1, 1) := by decide +kernel
theorem dX2_lossTo__5 : decode cX2_lossTo_ 5 = .ok (.getfield 9, 3) := by decide +kernel
theorem dX2_lossTo__8 : decode cX2_lossTo_ 8 = .ok (.isub, 1) := by decide +kernel
theorem dX2_lossTo__9 : decode cX2_lossTo_ 9 = .ok (.bipush 10, 2) := by decide +kernel
theorem dX2_lossTo__11 : decode cX2_lossTo_ 11 = .ok (.idiv, 1) := by decide +kernel
theorem dX2_lossTo__12 : decode cX2_lossTo_ 12 = .ok (.ireturn, 1) := by decide +kernel
theorem dX2_come_0 : decode cX2_come 0 = .ok (.aload_n 0, 1) := by decide +kernel
theorem dX2_come_1 : decode cX2_come 1 = .ok (.iload_n 1, 1) := by decide +kernel
theorem dX2_come_2 : decode cX2_come 2 = .ok (.putfield 9, 3) := by decide +kernel
theorem dX2_come_5 : decode cX2_come 5 = .ok (.aload_n 0, 1) := by decide +kernel
theorem dX2_come_6 : decode cX2_come 6 = .ok (.aload_n 0, 1) := by decide +kernel
theorem dX2_come_7 : decode cX2_come 7 = .ok (.getfield 18, 3) := by decide +kernel
theorem dX2_come_10 : decode cX2_come 10 = .ok (.iload_n 1, 1) := by decide +kernel
theorem dX2_come_11 : decode cX2_come 11 = .ok (.invokestatic 34, 3) := by decide +kernel
theorem dX2_come_14 : decode cX2_come 14 = .ok (.putfield 18, 3) := by decide +kernel
theorem dX2_come_17 : decode cX2_come 17 = .ok (.aload_n 0, 1) := by decide +kernel
theorem dX2_come_18 : decode cX2_come 18 = .ok (.aload_n 0, 1) := by decide +kernel
theorem dX2_come_19 : decode cX2_come 19 = .ok (.getfield 21, 3) := by decide +kernel
theorem dX2_come_22 : decode cX2_come 22 = .ok (.iload_n 1, 1) := by decide +kernel
theorem dX2_come_23 : decode cX2_come 23 = .ok (.invokestatic 40, 3) := by decide +kernel
theorem dX2_come_26 : decode cX2_come 26 = .ok (.putfield 21, 3) := by decide +kernel
theorem dX2_come_29 : decode cX2_come 29 = .ok (.return_, 1) := by decide +kernel
theorem dX3_init_0 : decode cX3_init 0 = .ok (.aload_n 0, 1) := by decide +kernel
theorem dX3_init_1 : decode cX3_init 1 = .ok (.invokespecial 5, 3) := by decide +kernel
theorem dX3_init_4 : decode cX3_init 4 = .ok (.aload_n 0, 1) := by decide +kernel
theorem dX3_init_5 : decode cX3_init 5 = .ok (.bipush 6, 2) := by decide +kernel
theorem dX3_init_7 : decode cX3_init 7 = .ok (.newarray .int, 2) := by decide +kernel
theorem dX3_init_9 : decode cX3_init 9 = .ok (.putfield 11, 3) := by decide +kernel
theorem dX3_init_12 : decode cX3_init 12 = .ok (.aload_n 0, 1) := by decide +kernel
theorem dX3_init_13 : decode cX3_init 13 = .ok (.bipush 36, 2) := by decide +kernel
theorem dX3_init_15 : decode cX3_init 15 = .ok (.newarray .int, 2) := by decide +kernel
theorem dX3_init_17 : decode cX3_init 17 = .ok (.putfield 15, 3) := by decide +kernel
theorem dX3_init_20 : decode cX3_init 20 = .ok (.aload_n 0, 1) := by decide +kernel
theorem dX3_init_21 : decode cX3_init 21 = .ok (.sipush 271, 3) := by decide +kernel
theorem dX3_init_24 : decode cX3_init 24 = .ok (.newarray .int, 2) := by decide +kernel
theorem dX3_init_26 : decode cX3_init 26 = .ok (.putfield 18, 3) := by decide +kernel
theorem dX3_init_29 : decode cX3_init 29 = .ok (.aload_n 0, 1) := by decide +kernel
theorem dX3_init_30 : decode cX3_init 30 = .ok (.sipush 541, 3) := by decide +kernel
theorem dX3_init_33 : decode cX3_init 33 = .ok (.newarray .int, 2) := by decide +kernel
theorem dX3_init_35 : decode cX3_init 35 = .ok (.putfield 21, 3) := by decide +kernel
theorem dX3_init_38 : decode cX3_init 38 = .ok (.return_, 1) := by decide +kernel
theorem dX4_init_0 : decode cX4_init 0 = .ok (.aload_n 0, 1) := by decide +kernel
theorem dX4_init_1 : decode cX4_init 1 = .ok (.invokespecial 3, 3) := by decide +kernel
theorem dX4_init_4 : decode cX4_init 4 = .ok (.aload_n 0, 1) := by decide +kernel
theorem dX4_init_5 : decode cX4_init 5 = .ok (.bipush 6, 2) := by decide +kernel
theorem dX4_init_7 : decode cX4_init 7 = .ok (.newarray .int, 2) := by decide +kernel
theorem dX4_init_9 : decode cX4_init 9 = .ok (.putfield 9, 3) := by decide +kernel
theorem dX4_init_12 : decode cX4_init 12 = .ok (.iconst 0, 1) := by decide +kernel
theorem dX4_init_13 : decode cX4_init 13 = .ok (.istore_n 1, 1) := by decide +kernel
theorem dX4_init_14 : decode cX4_init 14 = .ok (.iload_n 1, 1) := by decide +kernel
theorem dX4_init_15 : decode cX4_init 15 = .ok (.bipush 6, 2) := by decide +kernel
theorem dX4_init_17 : decode cX4_init 17 = .ok (.if_icmp .ge 18, 3) := by decide +kernel
theorem dX4_init_20 : decode cX4_init 20 = .ok (.aload_n 0, 1) := by decide +kernel
theorem dX4_init_21 : decode cX4_init 21 = .ok (.getfield 9, 3) := by decide +kernel
theorem dX4_init_24 : decode cX4_init 24 = .ok (.iload_n 1, 1) := by decide +kernel
theorem dX4_init_25 : decode cX4_init 25 = .ok (.iconst 5, 1) := by decide +kernel
theorem dX4_init_26 : decode cX4_init 26 = .ok (.iload_n 1, 1) := by decide +kernel
theorem dX4_init_27 : decode cX4_init 27 = .ok (.imul, 1) := by decide +kernel
theorem dX4_init_28 : decode cX4_init 28 = .ok (.iastore, 1) := by decide +kernel
theorem dX4_init_29 : decode cX4_init 29 = .ok (.iinc 1 1, 3) := by decide +kernel
theorem dX4_init_32 : decode cX4_init 32 = .ok (.goto (-18), 3) := by decide +kernel
theorem dX4_init_35 : decode cX4_init 35 = .ok (.aload_n 0, 1) := by decide +kernel
theorem dX4_init_36 : decode cX4_init 36 = .ok (.iconst 2, 1) := by decide +kernel
theorem dX4_init_37 : decode cX4_init 37 = .ok (.newarray .int, 2) := by decide +kernel
theorem dX4_init_39 : decode cX4_init 39 = .ok (.putfield 15, 3) := by decide +kernel
theorem dX4_init_42 : decode cX4_init 42 = .ok (.aload_n 0, 1) := by decide +kernel
theorem dX4_init_43 : decode cX4_init 43 = .ok (.getfield 15, 3) := by decide +kernel
theorem dX4_init_46 : decode cX4_init 46 = .ok (.iconst 1, 1) := by decide +kernel
theorem dX4_init_47 : decode cX4_init 47 = .ok (.bipush 50, 2) := by decide +kernel
theorem dX4_init_49 : decode cX4_init 49 = .ok (.iastore, 1) := by decide +kernel
theorem dX4_init_50 : decode cX4_init 50 = .ok (.aload_n 0, 1) := by decide +kernel
theorem dX4_init_51 : decode cX4_init 51 = .ok (.iconst 3, 1) := by decide +kernel
theorem dX4_init_52 : decode cX4_init 52 = .ok (.anewarray 18, 3) := by decide +kernel
theorem dX4_init_55 : decode cX4_init 55 = .ok (.putfield 20, 3) := by decide +kernel
theorem dX4_init_58 : decode cX4_init 58 = .ok (.aload_n 0, 1) := by decide +kernel
theorem dX4_init_59 : decode cX4_init 59 = .ok (.iconst 3, 1) := by decide +kernel
theorem dX4_init_60 : decode cX4_init 60 = .ok (.anewarray 24, 3) := by decide +kernel
theorem dX4_init_63 : decode cX4_init 63 = .ok (.putfield 26, 3) := by decide +kernel
theorem dX4_init_66 : decode cX4_init 66 = .ok (.iconst 0, 1) := by decide +kernel
theorem dX4_init_67 : decode cX4_init 67 = .ok (.istore_n 1, 1) := by decide +kernel
theorem dX4_init_68 : decode cX4_init 68 = .ok (.iload_n 1, 1) := by decide +kernel
theorem dX4_init_69 : decode cX4_init 69 = .ok (.iconst 3, 1) := by decide +kernel
theorem dX4_init_70 : decode cX4_init 70 = .ok (.if_icmp .ge 35, 3) := by decide +kernel
theorem dX4_init_73 : decode cX4_init 73 = .ok (.aload_n 0, 1) := by decide +kernel
theorem dX4_init_74 : decode cX4_init 74 = .ok (.getfield 20, 3) := by decide +kernel
theorem dX4_init_77 : decode cX4_init 77 = .ok (.iload_n 1, 1) := by decide +kernel
theorem dX4_init_78 : decode cX4_init 78 = .ok (.new 18, 3) := by decide +kernel
theorem dX4_init_81 : decode cX4_init 81 = .ok (.dup, 1) := by decide +kernel
theorem dX4_init_82 : decode cX4_init 82 = .ok (.invokespecial 30, 3) := by decide +kernel
theorem dX4_init_85 : decode cX4_init 85 = .ok (.aastore, 1) := by decide +kernel
theorem dX4_init_86 : decode cX4_init 86 = .ok (.aload_n 0, 1) := by decide +kernel
theorem dX4_init_87 : decode cX4_init 87 = .ok (.getfield 26, 3) := by decide +kernel
theorem dX4_init_90 : decode cX4_init 90 = .ok (.iload_n 1, 1) := by decide +kernel
theorem dX4_init_91 : decode cX4_init 91 = .ok (.new 24, 3) := by decide +kernel
theorem dX4_init_94 : decode cX4_init 94 = .ok (.dup, 1) := by decide +kernel
theorem dX4_init_95 : decode cX4_init 95 = .ok (.invokespecial 31, 3) := by decide +kernel
theorem dX4_init_98 : decode cX4_init 98 = .ok (.aastore, 1) := by decide +kernel
theorem dX4_init_99 : decode cX4_init 99 = .ok (.iinc 1 1, 3) := by decide +kernel
theorem dX4_init_102 : decode cX4_init 102 = .ok (.goto (-34), 3) := by decide +kernel
theorem dX4_init_105 : decode cX4_init 105 = .ok (.aload_n 0, 1) := by decide +kernel
theorem dX4_init_106 : decode cX4_init 106 = .ok (.bipush 100, 2) := by decide +kernel
theorem dX4_init_108 : decode cX4_init 108 = .ok (.putfield 32, 3) := by decide +kernel
theorem dX4_init_111 : decode cX4_init 111 = .ok (.aload_n 0, 1) := by decide +kernel
theorem dX4_init_112 : decode cX4_init 112 = .ok (.iconst 3, 1) := by decide +kernel
theorem dX4_init_113 : decode cX4_init 113 = .ok (.newarray .int, 2) := by decide +kernel
theorem dX4_init_115 : decode cX4_init 115 = .ok (.putfield 36, 3) := by decide +kernel
theorem dX4_init_118 : decode cX4_init 118 = .ok (.aload_n 0, 1) := by decide +kernel
theorem dX4_init_119 : decode cX4_init 119 = .ok (.iconst 3, 1) := by decide +kernel
theorem dX4_init_120 : decode cX4_init 120 = .ok (.newarray .int, 2) := by decide +kernel
theorem dX4_init_122 : decode cX4_init 122 = .ok (.putfield 39, 3) := by decide +kernel
theorem dX4_init_125 : decode cX4_init 125 = .ok (.return_, 1) := by decide +kernel
theorem dX4_copyFrom_0 : decode cX4_copyFrom 0 = .ok (.aload_n 1, 1) := by decide +kernel
theorem dX4_copyFrom_1 : decode cX4_copyFrom 1 = .ok (.getfield 9, 3) := by decide +kernel
theorem dX4_copyFrom_4 : decode cX4_copyFrom 4 = .ok (.iconst 0, 1) := by decide +kernel
theorem dX4_copyFrom_5 : decode cX4_copyFrom 5 = .ok (.aload_n 0, 1) := by decide +kernel
theorem dX4_copyFrom_6 : decode cX4_copyFrom 6 = .ok (.getfield 9, 3) := by decide +kernel
theorem dX4_copyFrom_9 : decode cX4_copyFrom 9 = .ok (.iconst 0, 1) := by decide +kernel
theorem dX4_copyFrom_10 : decode cX4_copyFrom 10 = .ok (.bipush 6, 2) := by decide +kernel
theorem dX4_copyFrom_12 : decode cX4_copyFrom 12 = .ok (.invokestatic 42, 3) := by decide +kernel
theorem dX4_copyFrom_15 : decode cX4_copyFrom 15 = .ok (.aload_n 1, 1) := by decide +kernel
theorem dX4_copyFrom_16 : decode cX4_copyFrom 16 = .ok (.getfield 15, 3) := by decide +kernel
theorem dX4_copyFrom_19 : decode cX4_copyFrom 19 = .ok (.iconst 0, 1) := by decide +kernel
theorem dX4_copyFrom_20 : decode cX4_copyFrom 20 = .ok (.aload_n 0, 1) := by decide +kernel
theorem dX4_copyFrom_21 : decode cX4_copyFrom 21 = .ok (.getfield 15, 3) := by decide +kernel
theorem dX4_copyFrom_24 : decode cX4_copyFrom 24 = .ok (.iconst 0, 1) := by decide +kernel
theorem dX4_copyFrom_25 : decode cX4_copyFrom 25 = .ok (.iconst 2, 1) := by decide +kernel
theorem dX4_copyFrom_26 : decode cX4_copyFrom 26 = .ok (.invokestatic 42, 3) := by decide +kernel
theorem dX4_copyFrom_29 : decode cX4_copyFrom 29 = .ok (.iconst 0, 1) := by decide +kernel
theorem dX4_copyFrom_30 : decode cX4_copyFrom 30 = .ok (.istore_n 2, 1) := by decide +kernel
theorem dX4_copyFrom_31 : decode cX4_copyFrom 31 = .ok (.iload_n 2, 1) := by decide +kernel
theorem dX4_copyFrom_32 : decode cX4_copyFrom 32 = .ok (.iconst 3, 1) := by decide +kernel
theorem dX4_copyFrom_33 : decode cX4_copyFrom 33 = .ok (.if_icmp .ge 39, 3) := by decide +kernel
theorem dX4_copyFrom_36 : decode cX4_copyFrom 36 = .ok (.aload_n 0, 1) := by decide +kernel
theorem dX4_copyFrom_37 : decode cX4_copyFrom 37 = .ok (.getfield 20, 3) := by decide +kernel
theorem dX4_copyFrom_40 : decode cX4_copyFrom 40 = .ok (.iload_n 2, 1) := by decide +kernel
theorem dX4_copyFrom_41 : decode cX4_copyFrom 41 = .ok (.aaload, 1) := by decide +kernel
theorem dX4_copyFrom_42 : decode cX4_copyFrom 42 = .ok (.aload_n 1, 1) := by decide +kernel
theorem dX4_copyFrom_43 : decode cX4_copyFrom 43 = .ok (.getfield 20, 3) := by decide +kernel
theorem dX4_copyFrom_46 : decode cX4_copyFrom 46 = .ok (.iload_n 2, 1) := by decide +kernel
theorem dX4_copyFrom_47 : decode cX4_copyFrom 47 = .ok (.aaload, 1) := by decide +kernel
theorem dX4_copyFrom_48 : decode cX4_copyFrom 48 = .ok (.invokevirtual 48, 3) := by decide +kernel
theorem dX4_copyFrom_51 : decode cX4_copyFrom 51 = .ok (.aload_n 0, 1) := by decide +kernel
theorem dX4_copyFrom_52 : decode cX4_copyFrom 52 = .ok (.getfield 26, 3) := by decide +kernel
theorem dX4_copyFrom_55 : decode cX4_copyFrom 55 = .ok (.iload_n 2, 1) := by decide +kernel
theorem dX4_copyFrom_56 : decode cX4_copyFrom 56 = .ok (.aaload, 1) := by decide +kernel
theorem dX4_copyFrom_57 : decode cX4_copyFrom 57 = .ok (.aload_n 1, 1) := by decide +kernel
theorem dX4_copyFrom_58 : decode cX4_copyFrom 58 = .ok (.getfield 26, 3) := by decide +kernel
theorem dX4_copyFrom_61 : decode cX4_copyFrom 61 = .ok (.iload_n 2, 1) := by decide +kernel
theorem dX4_copyFrom_62 : decode cX4_copyFrom 62 = .ok (.aaload, 1) := by decide +kernel
theorem dX4_copyFrom_63 : decode cX4_copyFrom 63 = .ok (.invokevirtual 52, 3) := by decide +kernel
theorem dX4_copyFrom_66 : decode cX4_copyFrom 66 = .ok (.iinc 2 1, 3) := by decide +kernel
theorem dX4_copyFrom_69 : decode cX4_copyFrom 69 = .ok (.goto (-38), 3) := by decide +kernel
theorem dX4_copyFrom_72 : decode cX4_copyFrom 72 = .ok (.aload_n 0, 1) := by decide +kernel
theorem dX4_copyFrom_73 : decode cX4_copyFrom 73 = .ok (.aload_n 1, 1) := by decide +kernel
theorem dX4_copyFrom_74 : decode cX4_copyFrom 74 = .ok (.getfield 32, 3) := by decide +kernel
theorem dX4_copyFrom_77 : decode cX4_copyFrom 77 = .ok (.putfield 32, 3) := by decide +kernel
theorem dX4_copyFrom_80 : decode cX4_copyFrom 80 = .ok (.aload_n 0, 1) := by decide +kernel
theorem dX4_copyFrom_81 : decode cX4_copyFrom 81 = .ok (.aload_n 1, 1) := by decide +kernel
theorem dX4_copyFrom_82 : decode cX4_copyFrom 82 = .ok (.getfield 55, 3) := by decide +kernel
theorem dX4_copyFrom_85 : decode cX4_copyFrom 85 = .ok (.putfield 55, 3) := by decide +kernel
theorem dX4_copyFrom_88 : decode cX4_copyFrom 88 = .ok (.return_, 1) := by decide +kernel
theorem dX4_bendInRoom_0 : decode cX4_bendInRoom 0 = .ok (.aload_n 0, 1) := by decide +kernel
theorem dX4_bendInRoom_1 : decode cX4_bendInRoom 1 = .ok (.getfield 20, 3) := by decide +kernel
theorem dX4_bendInRoom_4 : decode cX4_bendInRoom 4 = .ok (.iload_n 1, 1) := by decide +kernel
theorem dX4_bendInRoom_5 : decode cX4_bendInRoom 5 = .ok (.aaload, 1) := by decide +kernel
theorem dX4_bendInRoom_6 : decode cX4_bendInRoom 6 = .ok (.aload_n 0, 1) := by decide +kernel
theorem dX4_bendInRoom_7 : decode cX4_bendInRoom 7 = .ok (.getfield 9, 3) := by decide +kernel
theorem dX4_bendInRoom_10 : decode cX4_bendInRoom 10 = .ok (.invokevirtual 58, 3) := by decide +kernel
theorem dX4_bendInRoom_13 : decode cX4_bendInRoom 13 = .ok (.aload_n 0, 1) := by decide +kernel
theorem dX4_bendInRoom_14 : decode cX4_bendInRoom 14 = .ok (.getfield 26, 3) := by decide +kernel
theorem dX4_bendInRoom_17 : decode cX4_bendInRoom 17 = .ok (.iload_n 1, 1) := by decide +kernel
theorem dX4_bendInRoom_18 : decode cX4_bendInRoom 18 = .ok (.aaload, 1) := by decide +kernel
theorem dX4_bendInRoom_19 : decode cX4_bendInRoom 19 = .ok (.getfield 62, 3) := by decide +kernel
theorem dX4_bendInRoom_22 : decode cX4_bendInRoom 22 = .ok (.invokestatic 65, 3) := by decide +kernel
theorem dX4_bendInRoom_25 : decode cX4_bendInRoom 25 = .ok (.ireturn, 1) := by decide +kernel
theorem dX4_openings_0 : decode cX4_openings 0 = .ok (.iconst 0, 1) := by decide +kernel
theorem dX4_openings_1 : decode cX4_openings 1 = .ok (.istore_n 1, 1) := by decide +kernel
theorem dX4_openings_2 : decode cX4_openings 2 = .ok (.iconst 0, 1) := by decide +kernel
theorem dX4_openings_3 : decode cX4_openings 3 = .ok (.istore_n 2, 1) := by decide +kernel
theorem dX4_openings_4 : decode cX4_openings 4 = .ok (.iload_n 2, 1) := by decide +kernel
theorem dX4_openings_5 : decode cX4_openings 5 = .ok (.iconst 3, 1) := by decide +kernel
theorem dX4_openings_6 : decode cX4_openings 6 = .ok (.if_icmp .ge 24, 3) := by decide +kernel
theorem dX4_openings_9 : decode cX4_openings 9 = .ok (.iload_n 1, 1) := by decide +kernel
theorem dX4_openings_10 : decode cX4_openings 10 = .ok (.aload_n 0, 1) := by decide +kernel
theorem dX4_openings_11 : decode cX4_openings 11 = .ok (.getfield 26, 3) := by decide +kernel
theorem dX4_openings_14 : decode cX4_openings 14 = .ok (.iload_n 2, 1) := by decide +kernel
theorem dX4_openings_15 : decode cX4_openings 15 = .ok (.aaload, 1) := by decide +kernel
theorem dX4_openings_16 : decode cX4_openings 16 = .ok (.getfield 69, 3) := by decide +kernel
theorem dX4_openings_19 : decode cX4_openings 19 = .ok (.invokestatic 73, 3) := by decide +kernel
theorem dX4_openings_22 : decode cX4_openings 22 = .ok (.iadd, 1) := by decide +kernel
theorem dX4_openings_23 : decode cX4_openings 23 = .ok (.istore_n 1, 1) := by decide +kernel
theorem dX4_openings_24 : decode cX4_openings 24 = .ok (.iinc 2 1, 3) := by decide +kernel
theorem dX4_openings_27 : decode cX4_openings 27 = .ok (.goto (-23), 3) := by decide +kernel
theorem dX4_openings_30 : decode cX4_openings 30 = .ok (.iload_n 1, 1) := by decide +kernel
theorem dX4_openings_31 : decode cX4_openings 31 = .ok (.ireturn, 1) := by decide +kernel
theorem dX4_snaps_0 : decode cX4_snaps 0 = .ok (.iconst 0, 1) := by decide +kernel
theorem dX4_snaps_1 : decode cX4_snaps 1 = .ok (.istore_n 1, 1) := by decide +kernel
theorem dX4_snaps_2 : decode cX4_snaps 2 = .ok (.iconst 0, 1) := by decide +kernel
theorem dX4_snaps_3 : decode cX4_snaps 3 = .ok (.istore_n 2, 1) := by decide +kernel
theorem dX4_snaps_4 : decode cX4_snaps 4 = .ok (.iload_n 2, 1) := by decide +kernel
theorem dX4_snaps_5 : decode cX4_snaps 5 = .ok (.iconst 3, 1) := by decide +kernel
theorem dX4_snaps_6 : decode cX4_snaps 6 = .ok (.if_icmp .ge 21, 3) := by decide +kernel
theorem dX4_snaps_9 : decode cX4_snaps 9 = .ok (.iload_n 1, 1) := by decide +kernel
theorem dX4_snaps_10 : decode cX4_snaps 10 = .ok (.aload_n 0, 1) := by decide +kernel
theorem dX4_snaps_11 : decode cX4_snaps 11 = .ok (.getfield 20, 3) := by decide +kernel
theorem dX4_snaps_14 : decode cX4_snaps 14 = .ok (.iload_n 2, 1) := by decide +kernel
theorem dX4_snaps_15 : decode cX4_snaps 15 = .ok (.aaload, 1) := by decide +kernel
theorem dX4_snaps_16 : decode cX4_snaps 16 = .ok (.getfield 77, 3) := by decide +kernel
theorem dX4_snaps_19 : decode cX4_snaps 19 = .ok (.iadd, 1) := by decide +kernel
theorem dX4_snaps_20 : decode cX4_snaps 20 = .ok (.istore_n 1, 1) := by decide +kernel
theorem dX4_snaps_21 : decode cX4_snaps 21 = .ok (.iinc 2 1, 3) := by decide +kernel
theorem dX4_snaps_24 : decode cX4_snaps 24 = .ok (.goto (-20), 3) := by decide +kernel
theorem dX4_snaps_27 : decode cX4_snaps 27 = .ok (.iload_n 1, 1) := by decide +kernel
theorem dX4_snaps_28 : decode cX4_snaps 28 = .ok (.ireturn, 1) := by decide +kernel
theorem dX4_sumRates_0 : decode cX4_sumRates 0 = .ok (.iconst 0, 1) := by decide +kernel
theorem dX4_sumRates_1 : decode cX4_sumRates 1 = .ok (.istore_n 1, 1) := by decide +kernel
theorem dX4_sumRates_2 : decode cX4_sumRates 2 = .ok (.iload_n 1, 1) := by decide +kernel
theorem dX4_sumRates_3 : decode cX4_sumRates 3 = .ok (.iconst 3, 1) := by decide +kernel
theorem dX4_sumRates_4 : decode cX4_sumRates 4 = .ok (.if_icmp .ge 28, 3) := by decide +kernel
theorem dX4_sumRates_7 : decode cX4_sumRates 7 = .ok (.aload_n 0, 1) := by decide +kernel
theorem dX4_sumRates_8 : decode cX4_sumRates 8 = .ok (.getfield 36, 3) := by decide +kernel
theorem dX4_sumRates_11 : decode cX4_sumRates 11 = .ok (.iload_n 1, 1) := by decide +kernel
theorem dX4_sumRates_12 : decode cX4_sumRates 12 = .ok (.aload_n 0, 1) := by decide +kernel
theorem dX4_sumRates_13 : decode cX4_sumRates 13 = .ok (.getfield 20, 3) := by decide +kernel
theorem dX4_sumRates_16 : decode cX4_sumRates 16 = .ok (.iload_n 1, 1) := by decide +kernel
theorem dX4_sumRates_17 : decode cX4_sumRates 17 = .ok (.aaload, 1) := by decide +kernel
theorem dX4_sumRates_18 : decode cX4_sumRates 18 = .ok (.aload_n 0, 1) := by decide +kernel
theorem dX4_sumRates_19 : decode cX4_sumRates 19 = .ok (.getfield 9, 3) := by decide +kernel
theorem dX4_sumRates_22 : decode cX4_sumRates 22 = .ok (.invokevirtual 58, 3) := by decide +kernel
theorem dX4_sumRates_25 : decode cX4_sumRates 25 = .ok (.iastore, 1) := by decide +kernel
theorem dX4_sumRates_26 : decode cX4_sumRates 26 = .ok (.iinc 1 1, 3) := by decide +kernel
theorem dX4_sumRates_29 : decode cX4_sumRates 29 = .ok (.goto (-27), 3) := by decide +kernel
theorem dX4_sumRates_32 : decode cX4_sumRates 32 = .ok (.return_, 1) := by decide +kernel
theorem dX4_passTick_0 : decode cX4_passTick 0 = .ok (.iconst 0, 1) := by decide +kernel
theorem dX4_passTick_1 : decode cX4_passTick 1 = .ok (.istore_n 1, 1) := by decide +kernel
theorem dX4_passTick_2 : decode cX4_passTick 2 = .ok (.iload_n 1, 1) := by decide +kernel
theorem dX4_passTick_3 : decode cX4_passTick 3 = .ok (.iconst 3, 1) := by decide +kernel
theorem dX4_passTick_4 : decode cX4_passTick 4 = .ok (.if_icmp .ge 20, 3) := by decide +kernel
theorem dX4_passTick_7 : decode cX4_passTick 7 = .ok (.aload_n 0, 1) := by decide +kernel
theorem dX4_passTick_8 : decode cX4_passTick 8 = .ok (.getfield 39, 3) := by decide +kernel
theorem dX4_passTick_11 : decode cX4_passTick 11 = .ok (.iload_n 1, 1) := by decide +kernel
theorem dX4_passTick_12 : decode cX4_passTick 12 = .ok (.aload_n 0, 1) := by decide +kernel
theorem dX4_passTick_13 : decode cX4_passTick 13 = .ok (.iload_n 1, 1) := by decide +kernel
theorem dX4_passTick_14 : decode cX4_passTick 14 = .ok (.invokevirtual 80, 3) := by decide +kernel
theorem dX4_passTick_17 : decode cX4_passTick 17 = .ok (.iastore, 1) := by decide +kernel
theorem dX4_passTick_18 : decode cX4_passTick 18 = .ok (.iinc 1 1, 3) := by decide +kernel
theorem dX4_passTick_21 : decode cX4_passTick 21 = .ok (.goto (-19), 3) := by decide +kernel
theorem dX4_passTick_24 : decode cX4_passTick 24 = .ok (.iconst 0, 1) := by decide +kernel
theorem dX4_passTick_25 : decode cX4_passTick 25 = .ok (.istore_n 1, 1) := by decide +kernel
theorem dX4_passTick_26 : decode cX4_passTick 26 = .ok (.iconst 0, 1) := by decide +kernel
theorem dX4_passTick_27 : decode cX4_passTick 27 = .ok (.istore_n 2, 1) := by decide +kernel
theorem dX4_passTick_28 : decode cX4_passTick 28 = .ok (.iload_n 2, 1) := by decide +kernel
theorem dX4_passTick_29 : decode cX4_passTick 29 = .ok (.iconst 3, 1) := by decide +kernel
theorem dX4_passTick_30 : decode cX4_passTick 30 = .ok (.if_icmp .ge 61, 3) := by decide +kernel
theorem dX4_passTick_33 : decode cX4_passTick 33 = .ok (.aload_n 0, 1) := by decide +kernel
theorem dX4_passTick_34 : decode cX4_passTick 34 = .ok (.getfield 26, 3) := by decide +kernel
theorem dX4_passTick_37 : decode cX4_passTick 37 = .ok (.iload_n 2, 1) := by decide +kernel
theorem dX4_passTick_38 : decode cX4_passTick 38 = .ok (.aaload, 1) := by decide +kernel
theorem dX4_passTick_39 : decode cX4_passTick 39 = .ok (.dup, 1) := by decide +kernel
theorem dX4_passTick_40 : decode cX4_passTick 40 = .ok (.getfield 84, 3) := by decide +kernel
theorem dX4_passTick_43 : decode cX4_passTick 43 = .ok (.aload_n 0, 1) := by decide +kernel
theorem dX4_passTick_44 : decode cX4_passTick 44 = .ok (.getfield 20, 3) := by decide +kernel
theorem dX4_passTick_47 : decode cX4_passTick 47 = .ok (.iload_n 2, 1) := by decide +kernel
theorem dX4_passTick_48 : decode cX4_passTick 48 = .ok (.aaload, 1) := by decide +kernel
theorem dX4_passTick_49 : decode cX4_passTick 49 = .ok (.invokevirtual 87, 3) := by decide +kernel
theorem dX4_passTick_52 : decode cX4_passTick 52 = .ok (.invokestatic 73, 3) := by decide +kernel
theorem dX4_passTick_55 : decode cX4_passTick 55 = .ok (.iadd, 1) := by decide +kernel
theorem dX4_passTick_56 : decode cX4_passTick 56 = .ok (.putfield 84, 3) := by decide +kernel
theorem dX4_passTick_59 : decode cX4_passTick 59 = .ok (.aload_n 0, 1) := by decide +kernel
theorem dX4_passTick_60 : decode cX4_passTick 60 = .ok (.getfield 26, 3) := by decide +kernel
theorem dX4_passTick_63 : decode cX4_passTick 63 = .ok (.iload_n 2, 1) := by decide +kernel
theorem dX4_passTick_64 : decode cX4_passTick 64 = .ok (.aaload, 1) := by decide +kernel
theorem dX4_passTick_65 : decode cX4_passTick 65 = .ok (.aload_n 0, 1) := by decide +kernel
theorem dX4_passTick_66 : decode cX4_passTick 66 = .ok (.getfield 39, 3) := by decide +kernel
theorem dX4_passTick_69 : decode cX4_passTick 69 = .ok (.iload_n 2, 1) := by decide +kernel
theorem dX4_passTick_70 : decode cX4_passTick 70 = .ok (.iaload, 1) := by decide +kernel
theorem dX4_passTick_71 : decode cX4_passTick 71 = .ok (.invokevirtual 91, 3) := by decide +kernel
theorem dX4_passTick_74 : decode cX4_passTick 74 = .ok (.iload_n 1, 1) := by decide +kernel
theorem dX4_passTick_75 : decode cX4_passTick 75 = .ok (.aload_n 0, 1) := by decide +kernel
theorem dX4_passTick_76 : decode cX4_passTick 76 = .ok (.iload_n 2, 1) := by decide +kernel
theorem dX4_passTick_77 : decode cX4_passTick 77 = .ok (.invokevirtual 95, 3) := by decide +kernel
theorem dX4_passTick_80 : decode cX4_passTick 80 = .ok (.invokestatic 73, 3) := by decide +kernel
theorem dX4_passTick_83 : decode cX4_passTick 83 = .ok (.iadd, 1) := by decide +kernel
theorem dX4_passTick_84 : decode cX4_passTick 84 = .ok (.istore_n 1, 1) := by decide +kernel
theorem dX4_passTick_85 : decode cX4_passTick 85 = .ok (.iinc 2 1, 3) := by decide +kernel
theorem dX4_passTick_88 : decode cX4_passTick 88 = .ok (.goto (-60), 3) := by decide +kernel
theorem dX4_passTick_91 : decode cX4_passTick 91 = .ok (.aload_n 0, 1) := by decide +kernel
theorem dX4_passTick_92 : decode cX4_passTick 92 = .ok (.dup, 1) := by decide +kernel
theorem dX4_passTick_93 : decode cX4_passTick 93 = .ok (.getfield 55, 3) := by decide +kernel
theorem dX4_passTick_96 : decode cX4_passTick 96 = .ok (.iconst 1, 1) := by decide +kernel
theorem dX4_passTick_97 : decode cX4_passTick 97 = .ok (.iadd, 1) := by decide +kernel
theorem dX4_passTick_98 : decode cX4_passTick 98 = .ok (.putfield 55, 3) := by decide +kernel
theorem dX4_passTick_101 : decode cX4_passTick 101 = .ok (.iload_n 1, 1) := by decide +kernel
theorem dX4_passTick_102 : decode cX4_passTick 102 = .ok (.ireturn, 1) := by decide +kernel
theorem dX4_warmthToCome_0 : decode cX4_warmthToCome 0 = .ok (.aload_n 0, 1) := by decide +kernel
theorem dX4_warmthToCome_1 : decode cX4_warmthToCome 1 = .ok (.getfield 26, 3) := by decide +kernel
theorem dX4_warmthToCome_4 : decode cX4_warmthToCome 4 = .ok (.iload_n 1, 1) := by decide +kernel
theorem dX4_warmthToCome_5 : decode cX4_warmthToCome 5 = .ok (.aaload, 1) := by decide +kernel
theorem dX4_warmthToCome_6 : decode cX4_warmthToCome 6 = .ok (.astore_n 2, 1) := by decide +kernel
theorem dX4_warmthToCome_7 : decode cX4_warmthToCome 7 = .ok (.aload_n 0, 1) := by decide +kernel
theorem dX4_warmthToCome_8 : decode cX4_warmthToCome 8 = .ok (.getfield 26, 3) := by decide +kernel
theorem dX4_warmthToCome_11 : decode cX4_warmthToCome 11 = .ok (.iload_n 1, 1) := by decide +kernel
theorem dX4_warmthToCome_12 : decode cX4_warmthToCome 12 = .ok (.iconst 1, 1) := by decide +kernel
theorem dX4_warmthToCome_13 : decode cX4_warmthToCome 13 = .ok (.iadd, 1) := by decide +kernel
theorem dX4_warmthToCome_14 : decode cX4_warmthToCome 14 = .ok (.iconst 3, 1) := by decide +kernel
theorem dX4_warmthToCome_15 : decode cX4_warmthToCome 15 = .ok (.irem, 1) := by decide +kernel
theorem dX4_warmthToCome_16 : decode cX4_warmthToCome 16 = .ok (.aaload, 1) := by decide +kernel
theorem dX4_warmthToCome_17 : decode cX4_warmthToCome 17 = .ok (.astore_n 3, 1) := by decide +kernel
theorem dX4_warmthToCome_18 : decode cX4_warmthToCome 18 = .ok (.aload_n 0, 1) := by decide +kernel
theorem dX4_warmthToCome_19 : decode cX4_warmthToCome 19 = .ok (.getfield 26, 3) := by decide +kernel
theorem dX4_warmthToCome_22 : decode cX4_warmthToCome 22 = .ok (.iload_n 1, 1) := by decide +kernel
theorem dX4_warmthToCome_23 : decode cX4_warmthToCome 23 = .ok (.iconst 3, 1) := by decide +kernel
theorem dX4_warmthToCome_24 : decode cX4_warmthToCome 24 = .ok (.iadd, 1) := by decide +kernel
theorem dX4_warmthToCome_25 : decode cX4_warmthToCome 25 = .ok (.iconst 1, 1) := by decide +kernel
theorem dX4_warmthToCome_26 : decode cX4_warmthToCome 26 = .ok (.isub, 1) := by decide +kernel
theorem dX4_warmthToCome_27 : decode cX4_warmthToCome 27 = .ok (.iconst 3, 1) := by decide +kernel
theorem dX4_warmthToCome_28 : decode cX4_warmthToCome 28 = .ok (.irem, 1) := by decide +kernel
theorem dX4_warmthToCome_29 : decode cX4_warmthToCome 29 = .ok (.aaload, 1) := by decide +kernel
theorem dX4_warmthToCome_30 : decode cX4_warmthToCome 30 = .ok (.astore 4, 2) := by decide +kernel
theorem dX4_warmthToCome_32 : decode cX4_warmthToCome 32 = .ok (.aload_n 2, 1) := by decide +kernel
theorem dX4_warmthToCome_33 : decode cX4_warmthToCome 33 = .ok (.getfield 62, 3) := by decide +kernel
theorem dX4_warmthToCome_36 : decode cX4_warmthToCome 36 = .ok (.aload_n 2, 1) := by decide +kernel
theorem dX4_warmthToCome_37 : decode cX4_warmthToCome 37 = .ok (.aload_n 0, 1) := by decide +kernel
theorem dX4_warmthToCome_38 : decode cX4_warmthToCome 38 = .ok (.getfield 32, 3) := by decide +kernel
theorem dX4_warmthToCome_41 : decode cX4_warmthToCome 41 = .ok (.invokevirtual 99, 3) := by decide +kernel
theorem dX4_warmthToCome_44 : decode cX4_warmthToCome 44 = .ok (.isub, 1) := by decide +kernel
theorem dX4_warmthToCome_45 : decode cX4_warmthToCome 45 = .ok (.istore 5, 2) := by decide +kernel
theorem dX4_warmthToCome_47 : decode cX4_warmthToCome 47 = .ok (.aload_n 0, 1) := by decide +kernel
theorem dX4_warmthToCome_48 : decode cX4_warmthToCome 48 = .ok (.getfield 20, 3) := by decide +kernel
theorem dX4_warmthToCome_51 : decode cX4_warmthToCome 51 = .ok (.iload_n 1, 1) := by decide +kernel
theorem dX4_warmthToCome_52 : decode cX4_warmthToCome 52 = .ok (.aaload, 1) := by decide +kernel
theorem dX4_warmthToCome_53 : decode cX4_warmthToCome 53 = .ok (.invokevirtual 87, 3) := by decide +kernel
theorem dX4_warmthToCome_56 : decode cX4_warmthToCome 56 = .ok (.ifCond .eq 12, 3) := by decide +kernel
theorem dX4_warmthToCome_59 : decode cX4_warmthToCome 59 = .ok (.iload 5, 2) := by decide +kernel
theorem dX4_warmthToCome_61 : decode cX4_warmthToCome 61 = .ok (.aload_n 2, 1) := by decide +kernel
theorem dX4_warmthToCome_62 : decode cX4_warmthToCome 62 = .ok (.getfield 102, 3) := by decide +kernel
theorem dX4_warmthToCome_65 : decode cX4_warmthToCome 65 = .ok (.iadd, 1) := by decide +kernel
theorem dX4_warmthToCome_66 : decode cX4_warmthToCome 66 = .ok (.istore 5, 2) := by decide +kernel
theorem dX4_warmthToCome_68 : decode cX4_warmthToCome 68 = .ok (.aload_n 2, 1) := by decide +kernel
theorem dX4_warmthToCome_69 : decode cX4_warmthToCome 69 = .ok (.getfield 69, 3) := by decide +kernel
theorem dX4_warmthToCome_72 : decode cX4_warmthToCome 72 = .ok (.ifCond .eq 13, 3) := by decide +kernel
theorem dX4_warmthToCome_75 : decode cX4_warmthToCome 75 = .ok (.iload 5, 2) := by decide +kernel
theorem dX4_warmthToCome_77 : decode cX4_warmthToCome 77 = .ok (.aload_n 2, 1) := by decide +kernel
theorem dX4_warmthToCome_78 : decode cX4_warmthToCome 78 = .ok (.aload_n 3, 1) := by decide +kernel
theorem dX4_warmthToCome_79 : decode cX4_warmthToCome 79 = .ok (.invokevirtual 105, 3) := by decide +kernel
theorem dX4_warmthToCome_82 : decode cX4_warmthToCome 82 = .ok (.isub, 1) := by decide +kernel
theorem dX4_warmthToCome_83 : decode cX4_warmthToCome 83 = .ok (.istore 5, 2) := by decide +kernel
theorem dX4_warmthToCome_85 : decode cX4_warmthToCome 85 = .ok (.aload 4, 2) := by decide +kernel
theorem dX4_warmthToCome_87 : decode cX4_warmthToCome 87 = .ok (.getfield 69, 3) := by decide +kernel
theorem dX4_warmthToCome_90 : decode cX4_warmthToCome 90 = .ok (.ifCond .eq 14, 3) := by decide +kernel
theorem dX4_warmthToCome_93 : decode cX4_warmthToCome 93 = .ok (.iload 5, 2) := by decide +kernel
theorem dX4_warmthToCome_95 : decode cX4_warmthToCome 95 = .ok (.aload_n 2, 1) := by decide +kernel
theorem dX4_warmthToCome_96 : decode cX4_warmthToCome 96 = .ok (.aload 4, 2) := by decide +kernel
theorem dX4_warmthToCome_98 : decode cX4_warmthToCome 98 = .ok (.invokevirtual 105, 3) := by decide +kernel
theorem dX4_warmthToCome_101 : decode cX4_warmthToCome 101 = .ok (.isub, 1) := by decide +kernel
theorem dX4_warmthToCome_102 : decode cX4_warmthToCome 102 = .ok (.istore 5, 2) := by decide +kernel
theorem dX4_warmthToCome_104 : decode cX4_warmthToCome 104 = .ok (.sipush (-500), 3) := by decide +kernel
theorem dX4_warmthToCome_107 : decode cX4_warmthToCome 107 = .ok (.iload 5, 2) := by decide +kernel
theorem dX4_warmthToCome_109 : decode cX4_warmthToCome 109 = .ok (.sipush 1500, 3) := by decide +kernel
theorem dX4_warmthToCome_112 : decode cX4_warmthToCome 112 = .ok (.invokestatic 108, 3) := by decide +kernel
theorem dX4_warmthToCome_115 : decode cX4_warmthToCome 115 = .ok (.invokestatic 113, 3) := by decide +kernel
theorem dX4_warmthToCome_118 : decode cX4_warmthToCome 118 = .ok (.ireturn, 1) := by decide +kernel
theorem dX4_moveStrip_0 : decode cX4_moveStrip 0 = .ok (.aload_n 0, 1) := by decide +kernel
theorem dX4_moveStrip_1 : decode cX4_moveStrip 1 = .ok (.getfield 20, 3) := by decide +kernel
theorem dX4_moveStrip_4 : decode cX4_moveStrip 4 = .ok (.iload_n 1, 1) := by decide +kernel
theorem dX4_moveStrip_5 : decode cX4_moveStrip 5 = .ok (.aaload, 1) := by decide +kernel
theorem dX4_moveStrip_6 : decode cX4_moveStrip 6 = .ok (.astore_n 2, 1) := by decide +kernel
theorem dX4_moveStrip_7 : decode cX4_moveStrip 7 = .ok (.aload_n 2, 1) := by decide +kernel
theorem dX4_moveStrip_8 : decode cX4_moveStrip 8 = .ok (.aload_n 0, 1) := by decide +kernel
theorem dX4_moveStrip_9 : decode cX4_moveStrip 9 = .ok (.getfield 36, 3) := by decide +kernel
theorem dX4_moveStrip_12 : decode cX4_moveStrip 12 = .ok (.iload_n 1, 1) := by decide +kernel
theorem dX4_moveStrip_13 : decode cX4_moveStrip 13 = .ok (.iaload, 1) := by decide +kernel
theorem dX4_moveStrip_14 : decode cX4_moveStrip 14 = .ok (.aload_n 0, 1) := by decide +kernel
theorem dX4_moveStrip_15 : decode cX4_moveStrip 15 = .ok (.getfield 26, 3) := by decide +kernel
theorem dX4_moveStrip_18 : decode cX4_moveStrip 18 = .ok (.iload_n 1, 1) := by decide +kernel
theorem dX4_moveStrip_19 : decode cX4_moveStrip 19 = .ok (.aaload, 1) := by decide +kernel
theorem dX4_moveStrip_20 : decode cX4_moveStrip 20 = .ok (.getfield 62, 3) := by decide +kernel
theorem dX4_moveStrip_23 : decode cX4_moveStrip 23 = .ok (.invokestatic 65, 3) := by decide +kernel
theorem dX4_moveStrip_26 : decode cX4_moveStrip 26 = .ok (.invokevirtual 116, 3) := by decide +kernel
theorem dX4_moveStrip_29 : decode cX4_moveStrip 29 = .ok (.ifCond .ne 5, 3) := by decide +kernel
theorem dX4_moveStrip_32 : decode cX4_moveStrip 32 = .ok (.iconst 0, 1) := by decide +kernel
theorem dX4_moveStrip_33 : decode cX4_moveStrip 33 = .ok (.ireturn, 1) := by decide +kernel
theorem dX4_moveStrip_34 : decode cX4_moveStrip 34 = .ok (.aload_n 2, 1) := by decide +kernel
theorem dX4_moveStrip_35 : decode cX4_moveStrip 35 = .ok (.getfield 119, 3) := by decide +kernel
theorem dX4_moveStrip_38 : decode cX4_moveStrip 38 = .ok (.ifCond .eq 29, 3) := by decide +kernel
theorem dX4_moveStrip_41 : decode cX4_moveStrip 41 = .ok (.aload_n 2, 1) := by decide +kernel
theorem dX4_moveStrip_42 : decode cX4_moveStrip 42 = .ok (.dup, 1) := by decide +kernel
theorem dX4_moveStrip_43 : decode cX4_moveStrip 43 = .ok (.getfield 77, 3) := by decide +kernel
theorem dX4_moveStrip_46 : decode cX4_moveStrip 46 = .ok (.iconst 1, 1) := by decide +kernel
theorem dX4_moveStrip_47 : decode cX4_moveStrip 47 = .ok (.iadd, 1) := by decide +kernel
theorem dX4_moveStrip_48 : decode cX4_moveStrip 48 = .ok (.putfield 77, 3) := by decide +kernel
theorem dX4_moveStrip_51 : decode cX4_moveStrip 51 = .ok (.aload_n 2, 1) := by decide +kernel
theorem dX4_moveStrip_52 : decode cX4_moveStrip 52 = .ok (.aload_n 0, 1) := by decide +kernel
theorem dX4_moveStrip_53 : decode cX4_moveStrip 53 = .ok (.getfield 15, 3) := by decide +kernel
theorem dX4_moveStrip_56 : decode cX4_moveStrip 56 = .ok (.iconst 0, 1) := by decide +kernel
theorem dX4_moveStrip_57 : decode cX4_moveStrip 57 = .ok (.iaload, 1) := by decide +kernel
theorem dX4_moveStrip_58 : decode cX4_moveStrip 58 = .ok (.aload_n 0, 1) := by decide +kernel
theorem dX4_moveStrip_59 : decode cX4_moveStrip 59 = .ok (.getfield 15, 3) := by decide +kernel
theorem dX4_moveStrip_62 : decode cX4_moveStrip 62 = .ok (.iconst 1, 1) := by decide +kernel
theorem dX4_moveStrip_63 : decode cX4_moveStrip 63 = .ok (.iaload, 1) := by decide +kernel
theorem dX4_moveStrip_64 : decode cX4_moveStrip 64 = .ok (.invokevirtual 122, 3) := by decide +kernel
theorem dX4_moveStrip_67 : decode cX4_moveStrip 67 = .ok (.iconst 1, 1) := by decide +kernel
theorem dX4_moveStrip_68 : decode cX4_moveStrip 68 = .ok (.ireturn, 1) := by decide +kernel
theorem dX4_loopKey_0 : decode cX4_loopKey 0 = .ok (.lconst 0, 1) := by decide +kernel
theorem dX4_loopKey_1 : decode cX4_loopKey 1 = .ok (.lstore_n 1, 1) := by decide +kernel
theorem dX4_loopKey_2 : decode cX4_loopKey 2 = .ok (.iconst 0, 1) := by decide +kernel
theorem dX4_loopKey_3 : decode cX4_loopKey 3 = .ok (.istore_n 3, 1) := by decide +kernel
theorem dX4_loopKey_4 : decode cX4_loopKey 4 = .ok (.iload_n 3, 1) := by decide +kernel
theorem dX4_loopKey_5 : decode cX4_loopKey 5 = .ok (.iconst 3, 1) := by decide +kernel
theorem dX4_loopKey_6 : decode cX4_loopKey 6 = .ok (.if_icmp .ge 62, 3) := by decide +kernel
theorem dX4_loopKey_9 : decode cX4_loopKey 9 = .ok (.lload_n 1, 1) := by decide +kernel
theorem dX4_loopKey_10 : decode cX4_loopKey 10 = .ok (.bipush 11, 2) := by decide +kernel
theorem dX4_loopKey_12 : decode cX4_loopKey 12 = .ok (.lshl, 1) := by decide +kernel
theorem dX4_loopKey_13 : decode cX4_loopKey 13 = .ok (.aload_n 0, 1) := by decide +kernel
theorem dX4_loopKey_14 : decode cX4_loopKey 14 = .ok (.getfield 26, 3) := by decide +kernel
theorem dX4_loopKey_17 : decode cX4_loopKey 17 = .ok (.iload_n 3, 1) := by decide +kernel
theorem dX4_loopKey_18 : decode cX4_loopKey 18 = .ok (.aaload, 1) := by decide +kernel
theorem dX4_loopKey_19 : decode cX4_loopKey 19 = .ok (.getfield 62, 3) := by decide +kernel
theorem dX4_loopKey_22 : decode cX4_loopKey 22 = .ok (.sipush (-500), 3) := by decide +kernel
theorem dX4_loopKey_25 : decode cX4_loopKey 25 = .ok (.isub, 1) := by decide +kernel
theorem dX4_loopKey_26 : decode cX4_loopKey 26 = .ok (.i2l, 1) := by decide +kernel
theorem dX4_loopKey_27 : decode cX4_loopKey 27 = .ok (.lor, 1) := by decide +kernel
theorem dX4_loopKey_28 : decode cX4_loopKey 28 = .ok (.lstore_n 1, 1) := by decide +kernel
theorem dX4_loopKey_29 : decode cX4_loopKey 29 = .ok (.lload_n 1, 1) := by decide +kernel
theorem dX4_loopKey_30 : decode cX4_loopKey 30 = .ok (.iconst 1, 1) := by decide +kernel
theorem dX4_loopKey_31 : decode cX4_loopKey 31 = .ok (.lshl, 1) := by decide +kernel
theorem dX4_loopKey_32 : decode cX4_loopKey 32 = .ok (.aload_n 0, 1) := by decide +kernel
theorem dX4_loopKey_33 : decode cX4_loopKey 33 = .ok (.getfield 20, 3) := by decide +kernel
theorem dX4_loopKey_36 : decode cX4_loopKey 36 = .ok (.iload_n 3, 1) := by decide +kernel
theorem dX4_loopKey_37 : decode cX4_loopKey 37 = .ok (.aaload, 1) := by decide +kernel
theorem dX4_loopKey_38 : decode cX4_loopKey 38 = .ok (.getfield 119, 3) := by decide +kernel
theorem dX4_loopKey_41 : decode cX4_loopKey 41 = .ok (.invokestatic 73, 3) := by decide +kernel
theorem dX4_loopKey_44 : decode cX4_loopKey 44 = .ok (.i2l, 1) := by decide +kernel
theorem dX4_loopKey_45 : decode cX4_loopKey 45 = .ok (.lor, 1) := by decide +kernel
theorem dX4_loopKey_46 : decode cX4_loopKey 46 = .ok (.lstore_n 1, 1) := by decide +kernel
theorem dX4_loopKey_47 : decode cX4_loopKey 47 = .ok (.lload_n 1, 1) := by decide +kernel
theorem dX4_loopKey_48 : decode cX4_loopKey 48 = .ok (.iconst 3, 1) := by decide +kernel
theorem dX4_loopKey_49 : decode cX4_loopKey 49 = .ok (.lshl, 1) := by decide +kernel
theorem dX4_loopKey_50 : decode cX4_loopKey 50 = .ok (.aload_n 0, 1) := by decide +kernel
theorem dX4_loopKey_51 : decode cX4_loopKey 51 = .ok (.getfield 20, 3) := by decide +kernel
theorem dX4_loopKey_54 : decode cX4_loopKey 54 = .ok (.iload_n 3, 1) := by decide +kernel
theorem dX4_loopKey_55 : decode cX4_loopKey 55 = .ok (.aaload, 1) := by decide +kernel
theorem dX4_loopKey_56 : decode cX4_loopKey 56 = .ok (.getfield 126, 3) := by decide +kernel
theorem dX4_loopKey_59 : decode cX4_loopKey 59 = .ok (.i2l, 1) := by decide +kernel
theorem dX4_loopKey_60 : decode cX4_loopKey 60 = .ok (.lor, 1) := by decide +kernel
theorem dX4_loopKey_61 : decode cX4_loopKey 61 = .ok (.lstore_n 1, 1) := by decide +kernel
theorem dX4_loopKey_62 : decode cX4_loopKey 62 = .ok (.iinc 3 1, 3) := by decide +kernel
theorem dX4_loopKey_65 : decode cX4_loopKey 65 = .ok (.goto (-61), 3) := by decide +kernel
theorem dX4_loopKey_68 : decode cX4_loopKey 68 = .ok (.lload_n 1, 1) := by decide +kernel
theorem dX4_loopKey_69 : decode cX4_loopKey 69 = .ok (.lreturn, 1) := by decide +kernel
theorem dX5_init_0 : decode cX5_init 0 = .ok (.aload_n 0, 1) := by decide +kernel
theorem dX5_init_1 : decode cX5_init 1 = .ok (.invokespecial 3, 3) := by decide +kernel
theorem dX5_init_4 : decode cX5_init 4 = .ok (.aload_n 0, 1) := by decide +kernel
theorem dX5_init_5 : decode cX5_init 5 = .ok (.bipush 8, 2) := by decide +kernel
theorem dX5_init_7 : decode cX5_init 7 = .ok (.newarray .int, 2) := by decide +kernel
theorem dX5_init_9 : decode cX5_init 9 = .ok (.putfield 9, 3) := by decide +kernel
theorem dX5_init_12 : decode cX5_init 12 = .ok (.aload_n 0, 1) := by decide +kernel
theorem dX5_init_13 : decode cX5_init 13 = .ok (.bipush 8, 2) := by decide +kernel
theorem dX5_init_15 : decode cX5_init 15 = .ok (.newarray .int, 2) := by decide +kernel
theorem dX5_init_17 : decode cX5_init 17 = .ok (.putfield 15, 3) := by decide +kernel
theorem dX5_init_20 : decode cX5_init 20 = .ok (.aload_n 0, 1) := by decide +kernel
theorem dX5_init_21 : decode cX5_init 21 = .ok (.bipush 8, 2) := by decide +kernel
theorem dX5_init_23 : decode cX5_init 23 = .ok (.newarray .int, 2) := by decide +kernel
theorem dX5_init_25 : decode cX5_init 25 = .ok (.putfield 18, 3) := by decide +kernel
theorem dX5_init_28 : decode cX5_init 28 = .ok (.aload_n 0, 1) := by decide +kernel
theorem dX5_init_29 : decode cX5_init 29 = .ok (.sipush 1000, 3) := by decide +kernel
theorem dX5_init_32 : decode cX5_init 32 = .ok (.putfield 21, 3) := by decide +kernel
theorem dX5_init_35 : decode cX5_init 35 = .ok (.aload_n 0, 1) := by decide +kernel
theorem dX5_init_36 : decode cX5_init 36 = .ok (.sipush 3000, 3) := by decide +kernel
theorem dX5_init_39 : decode cX5_init 39 = .ok (.putfield 25, 3) := by decide +kernel
theorem dX5_init_42 : decode cX5_init 42 = .ok (.return_, 1) := by decide +kernel
theorem dX5_copyFrom_0 : decode cX5_copyFrom 0 = .ok (.aload_n 1, 1) := by decide +kernel
theorem dX5_copyFrom_1 : decode cX5_copyFrom 1 = .ok (.getfield 9, 3) := by decide +kernel
theorem dX5_copyFrom_4 : decode cX5_copyFrom 4 = .ok (.iconst 0, 1) := by decide +kernel
theorem dX5_copyFrom_5 : decode cX5_copyFrom 5 = .ok (.aload_n 0, 1) := by decide +kernel
theorem dX5_copyFrom_6 : decode cX5_copyFrom 6 = .ok (.getfield 9, 3) := by decide +kernel
theorem dX5_copyFrom_9 : decode cX5_copyFrom 9 = .ok (.iconst 0, 1) := by decide +kernel
theorem dX5_copyFrom_10 : decode cX5_copyFrom 10 = .ok (.bipush 8, 2) := by decide +kernel
theorem dX5_copyFrom_12 : decode cX5_copyFrom 12 = .ok (.invokestatic 28, 3) := by decide +kernel
theorem dX5_copyFrom_15 : decode cX5_copyFrom 15 = .ok (.aload_n 1, 1) := by decide +kernel
theorem dX5_copyFrom_16 : decode cX5_copyFrom 16 = .ok (.getfield 15, 3) := by decide +kernel
theorem dX5_copyFrom_19 : decode cX5_copyFrom 19 = .ok (.iconst 0, 1) := by decide +kernel
theorem dX5_copyFrom_20 : decode cX5_copyFrom 20 = .ok (.aload_n 0, 1) := by decide +kernel
theorem dX5_copyFrom_21 : decode cX5_copyFrom 21 = .ok (.getfield 15, 3) := by decide +kernel
theorem dX5_copyFrom_24 : decode cX5_copyFrom 24 = .ok (.iconst 0, 1) := by decide +kernel
theorem dX5_copyFrom_25 : decode cX5_copyFrom 25 = .ok (.bipush 8, 2) := by decide +kernel
theorem dX5_copyFrom_27 : decode cX5_copyFrom 27 = .ok (.invokestatic 28, 3) := by decide +kernel
theorem dX5_copyFrom_30 : decode cX5_copyFrom 30 = .ok (.aload_n 1, 1) := by decide +kernel
theorem dX5_copyFrom_31 : decode cX5_copyFrom 31 = .ok (.getfield 18, 3) := by decide +kernel
theorem dX5_copyFrom_34 : decode cX5_copyFrom 34 = .ok (.iconst 0, 1) := by decide +kernel
theorem dX5_copyFrom_35 : decode cX5_copyFrom 35 = .ok (.aload_n 0, 1) := by decide +kernel
theorem dX5_copyFrom_36 : decode cX5_copyFrom 36 = .ok (.getfield 18, 3) := by decide +kernel
theorem dX5_copyFrom_39 : decode cX5_copyFrom 39 = .ok (.iconst 0, 1) := by decide +kernel
theorem dX5_copyFrom_40 : decode cX5_copyFrom 40 = .ok (.bipush 8, 2) := by decide +kernel
theorem dX5_copyFrom_42 : decode cX5_copyFrom 42 = .ok (.invokestatic 28, 3) := by decide +kernel
theorem dX5_copyFrom_45 : decode cX5_copyFrom 45 = .ok (.aload_n 0, 1) := by decide +kernel
theorem dX5_copyFrom_46 : decode cX5_copyFrom 46 = .ok (.aload_n 1, 1) := by decide +kernel
theorem dX5_copyFrom_47 : decode cX5_copyFrom 47 = .ok (.getfield 34, 3) := by decide +kernel
theorem dX5_copyFrom_50 : decode cX5_copyFrom 50 = .ok (.putfield 34, 3) := by decide +kernel
theorem dX5_copyFrom_53 : decode cX5_copyFrom 53 = .ok (.aload_n 0, 1) := by decide +kernel
theorem dX5_copyFrom_54 : decode cX5_copyFrom 54 = .ok (.aload_n 1, 1) := by decide +kernel
theorem dX5_copyFrom_55 : decode cX5_copyFrom 55 = .ok (.getfield 21, 3) := by decide +kernel
theorem dX5_copyFrom_58 : decode cX5_copyFrom 58 = .ok (.putfield 21, 3) := by decide +kernel
theorem dX5_copyFrom_61 : decode cX5_copyFrom 61 = .ok (.aload_n 0, 1) := by decide +kernel
theorem dX5_copyFrom_62 : decode cX5_copyFrom 62 = .ok (.aload_n 1, 1) := by decide +kernel
theorem dX5_copyFrom_63 : decode cX5_copyFrom 63 = .ok (.getfield 25, 3) := by decide +kernel
theorem dX5_copyFrom_66 : decode cX5_copyFrom 66 = .ok (.putfield 25, 3) := by decide +kernel
theorem dX5_copyFrom_69 : decode cX5_copyFrom 69 = .ok (.aload_n 0, 1) := by decide +kernel
theorem dX5_copyFrom_70 : decode cX5_copyFrom 70 = .ok (.aload_n 1, 1) := by decide +kernel
theorem dX5_copyFrom_71 : decode cX5_copyFrom 71 = .ok (.getfield 37, 3) := by decide +kernel
theorem dX5_copyFrom_74 : decode cX5_copyFrom 74 = .ok (.putfield 37, 3) := by decide +kernel
theorem dX5_copyFrom_77 : decode cX5_copyFrom 77 = .ok (.aload_n 0, 1) := by decide +kernel
theorem dX5_copyFrom_78 : decode cX5_copyFrom 78 = .ok (.aload_n 1, 1) := by decide +kernel
theorem dX5_copyFrom_79 : decode cX5_copyFrom 79 = .ok (.getfield 40, 3) := by decide +kernel
theorem dX5_copyFrom_82 : decode cX5_copyFrom 82 = .ok (.putfield 40, 3) := by decide +kernel
theorem dX5_copyFrom_85 : decode cX5_copyFrom 85 = .ok (.aload_n 0, 1) := by decide +kernel
theorem dX5_copyFrom_86 : decode cX5_copyFrom 86 = .ok (.aload_n 1, 1) := by decide +kernel
theorem dX5_copyFrom_87 : decode cX5_copyFrom 87 = .ok (.getfield 43, 3) := by decide +kernel
theorem dX5_copyFrom_90 : decode cX5_copyFrom 90 = .ok (.putfield 43, 3) := by decide +kernel
theorem dX5_copyFrom_93 : decode cX5_copyFrom 93 = .ok (.aload_n 0, 1) := by decide +kernel
theorem dX5_copyFrom_94 : decode cX5_copyFrom 94 = .ok (.aload_n 1, 1) := by decide +kernel
theorem dX5_copyFrom_95 : decode cX5_copyFrom 95 = .ok (.getfield 46, 3) := by decide +kernel
theorem dX5_copyFrom_98 : decode cX5_copyFrom 98 = .ok (.putfield 46, 3) := by decide +kernel
theorem dX5_copyFrom_101 : decode cX5_copyFrom 101 = .ok (.aload_n 0, 1) := by decide +kernel
theorem dX5_copyFrom_102 : decode cX5_copyFrom 102 = .ok (.aload_n 1, 1) := by decide +kernel
theorem dX5_copyFrom_103 : decode cX5_copyFrom 103 = .ok (.getfield 49, 3) := by decide +kernel
theorem dX5_copyFrom_106 : decode cX5_copyFrom 106 = .ok (.putfield 49, 3) := by decide +kernel
theorem dX5_copyFrom_109 : decode cX5_copyFrom 109 = .ok (.return_, 1) := by decide +kernel
theorem dX5_addPart_0 : decode cX5_addPart 0 = .ok (.aload_n 0, 1) := by decide +kernel
theorem dX5_addPart_1 : decode cX5_addPart 1 = .ok (.getfield 34, 3) := by decide +kernel
theorem dX5_addPart_4 : decode cX5_addPart 4 = .ok (.bipush 8, 2) := by decide +kernel
