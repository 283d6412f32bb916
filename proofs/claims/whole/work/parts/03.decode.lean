/-! decode rows -/
theorem dX0_init_0 : decode cX0_init 0 = .ok (.aload_n 0, 1) := by decide +kernel
theorem dX0_init_1 : decode cX0_init 1 = .ok (.invokespecial 1, 3) := by decide +kernel
theorem dX0_init_4 : decode cX0_init 4 = .ok (.aload_n 0, 1) := by decide +kernel
theorem dX0_init_5 : decode cX0_init 5 = .ok (.iconst 4, 1) := by decide +kernel
theorem dX0_init_6 : decode cX0_init 6 = .ok (.anewarray 9, 3) := by decide +kernel
theorem dX0_init_9 : decode cX0_init 9 = .ok (.putfield 11, 3) := by decide +kernel
theorem dX0_init_12 : decode cX0_init 12 = .ok (.iconst 0, 1) := by decide +kernel
theorem dX0_init_13 : decode cX0_init 13 = .ok (.istore_n 1, 1) := by decide +kernel
theorem dX0_init_14 : decode cX0_init 14 = .ok (.iload_n 1, 1) := by decide +kernel
theorem dX0_init_15 : decode cX0_init 15 = .ok (.iconst 4, 1) := by decide +kernel
theorem dX0_init_16 : decode cX0_init 16 = .ok (.if_icmp .ge 22, 3) := by decide +kernel
theorem dX0_init_19 : decode cX0_init 19 = .ok (.aload_n 0, 1) := by decide +kernel
theorem dX0_init_20 : decode cX0_init 20 = .ok (.getfield 11, 3) := by decide +kernel
theorem dX0_init_23 : decode cX0_init 23 = .ok (.iload_n 1, 1) := by decide +kernel
theorem dX0_init_24 : decode cX0_init 24 = .ok (.new 9, 3) := by decide +kernel
theorem dX0_init_27 : decode cX0_init 27 = .ok (.dup, 1) := by decide +kernel
theorem dX0_init_28 : decode cX0_init 28 = .ok (.invokespecial 15, 3) := by decide +kernel
theorem dX0_init_31 : decode cX0_init 31 = .ok (.aastore, 1) := by decide +kernel
theorem dX0_init_32 : decode cX0_init 32 = .ok (.iinc 1 1, 3) := by decide +kernel
theorem dX0_init_35 : decode cX0_init 35 = .ok (.goto (-21), 3) := by decide +kernel
theorem dX0_init_38 : decode cX0_init 38 = .ok (.return_, 1) := by decide +kernel
theorem dX0_take_0 : decode cX0_take 0 = .ok (.aload_n 0, 1) := by decide +kernel
theorem dX0_take_1 : decode cX0_take 1 = .ok (.getfield 11, 3) := by decide +kernel
theorem dX0_take_4 : decode cX0_take 4 = .ok (.aload_n 0, 1) := by decide +kernel
theorem dX0_take_5 : decode cX0_take 5 = .ok (.getfield 16, 3) := by decide +kernel
theorem dX0_take_8 : decode cX0_take 8 = .ok (.aload_n 0, 1) := by decide +kernel
theorem dX0_take_9 : decode cX0_take 9 = .ok (.getfield 20, 3) := by decide +kernel
theorem dX0_take_12 : decode cX0_take 12 = .ok (.iadd, 1) := by decide +kernel
theorem dX0_take_13 : decode cX0_take 13 = .ok (.iconst 4, 1) := by decide +kernel
theorem dX0_take_14 : decode cX0_take 14 = .ok (.irem, 1) := by decide +kernel
theorem dX0_take_15 : decode cX0_take 15 = .ok (.aaload, 1) := by decide +kernel
theorem dX0_take_16 : decode cX0_take 16 = .ok (.aload_n 1, 1) := by decide +kernel
theorem dX0_take_17 : decode cX0_take 17 = .ok (.invokevirtual 23, 3) := by decide +kernel
theorem dX0_take_20 : decode cX0_take 20 = .ok (.aload_n 0, 1) := by decide +kernel
theorem dX0_take_21 : decode cX0_take 21 = .ok (.getfield 20, 3) := by decide +kernel
theorem dX0_take_24 : decode cX0_take 24 = .ok (.iconst 4, 1) := by decide +kernel
theorem dX0_take_25 : decode cX0_take 25 = .ok (.if_icmp .ge 16, 3) := by decide +kernel
theorem dX0_take_28 : decode cX0_take 28 = .ok (.aload_n 0, 1) := by decide +kernel
theorem dX0_take_29 : decode cX0_take 29 = .ok (.dup, 1) := by decide +kernel
theorem dX0_take_30 : decode cX0_take 30 = .ok (.getfield 20, 3) := by decide +kernel
theorem dX0_take_33 : decode cX0_take 33 = .ok (.iconst 1, 1) := by decide +kernel
theorem dX0_take_34 : decode cX0_take 34 = .ok (.iadd, 1) := by decide +kernel
theorem dX0_take_35 : decode cX0_take 35 = .ok (.putfield 20, 3) := by decide +kernel
theorem dX0_take_38 : decode cX0_take 38 = .ok (.goto 15, 3) := by decide +kernel
theorem dX0_take_41 : decode cX0_take 41 = .ok (.aload_n 0, 1) := by decide +kernel
theorem dX0_take_42 : decode cX0_take 42 = .ok (.aload_n 0, 1) := by decide +kernel
theorem dX0_take_43 : decode cX0_take 43 = .ok (.getfield 16, 3) := by decide +kernel
theorem dX0_take_46 : decode cX0_take 46 = .ok (.iconst 1, 1) := by decide +kernel
theorem dX0_take_47 : decode cX0_take 47 = .ok (.iadd, 1) := by decide +kernel
theorem dX0_take_48 : decode cX0_take 48 = .ok (.iconst 4, 1) := by decide +kernel
theorem dX0_take_49 : decode cX0_take 49 = .ok (.irem, 1) := by decide +kernel
theorem dX0_take_50 : decode cX0_take 50 = .ok (.putfield 16, 3) := by decide +kernel
theorem dX0_take_53 : decode cX0_take 53 = .ok (.return_, 1) := by decide +kernel
theorem dX0_giveBack_0 : decode cX0_giveBack 0 = .ok (.aload_n 0, 1) := by decide +kernel
theorem dX0_giveBack_1 : decode cX0_giveBack 1 = .ok (.getfield 20, 3) := by decide +kernel
theorem dX0_giveBack_4 : decode cX0_giveBack 4 = .ok (.ifCond .le 33, 3) := by decide +kernel
theorem dX0_giveBack_7 : decode cX0_giveBack 7 = .ok (.aload_n 0, 1) := by decide +kernel
theorem dX0_giveBack_8 : decode cX0_giveBack 8 = .ok (.dup, 1) := by decide +kernel
theorem dX0_giveBack_9 : decode cX0_giveBack 9 = .ok (.getfield 20, 3) := by decide +kernel
theorem dX0_giveBack_12 : decode cX0_giveBack 12 = .ok (.iconst 1, 1) := by decide +kernel
theorem dX0_giveBack_13 : decode cX0_giveBack 13 = .ok (.isub, 1) := by decide +kernel
theorem dX0_giveBack_14 : decode cX0_giveBack 14 = .ok (.putfield 20, 3) := by decide +kernel
theorem dX0_giveBack_17 : decode cX0_giveBack 17 = .ok (.aload_n 1, 1) := by decide +kernel
theorem dX0_giveBack_18 : decode cX0_giveBack 18 = .ok (.aload_n 0, 1) := by decide +kernel
theorem dX0_giveBack_19 : decode cX0_giveBack 19 = .ok (.getfield 11, 3) := by decide +kernel
theorem dX0_giveBack_22 : decode cX0_giveBack 22 = .ok (.aload_n 0, 1) := by decide +kernel
theorem dX0_giveBack_23 : decode cX0_giveBack 23 = .ok (.getfield 16, 3) := by decide +kernel
theorem dX0_giveBack_26 : decode cX0_giveBack 26 = .ok (.aload_n 0, 1) := by decide +kernel
theorem dX0_giveBack_27 : decode cX0_giveBack 27 = .ok (.getfield 20, 3) := by decide +kernel
theorem dX0_giveBack_30 : decode cX0_giveBack 30 = .ok (.iadd, 1) := by decide +kernel
theorem dX0_giveBack_31 : decode cX0_giveBack 31 = .ok (.iconst 4, 1) := by decide +kernel
theorem dX0_giveBack_32 : decode cX0_giveBack 32 = .ok (.irem, 1) := by decide +kernel
theorem dX0_giveBack_33 : decode cX0_giveBack 33 = .ok (.aaload, 1) := by decide +kernel
theorem dX0_giveBack_34 : decode cX0_giveBack 34 = .ok (.invokevirtual 23, 3) := by decide +kernel
theorem dX0_giveBack_37 : decode cX0_giveBack 37 = .ok (.return_, 1) := by decide +kernel
theorem dX1_init_0 : decode cX1_init 0 = .ok (.aload_n 0, 1) := by decide +kernel
theorem dX1_init_1 : decode cX1_init 1 = .ok (.invokespecial 3, 3) := by decide +kernel
theorem dX1_init_4 : decode cX1_init 4 = .ok (.aload_n 0, 1) := by decide +kernel
theorem dX1_init_5 : decode cX1_init 5 = .ok (.new 9, 3) := by decide +kernel
theorem dX1_init_8 : decode cX1_init 8 = .ok (.dup, 1) := by decide +kernel
theorem dX1_init_9 : decode cX1_init 9 = .ok (.invokespecial 11, 3) := by decide +kernel
theorem dX1_init_12 : decode cX1_init 12 = .ok (.putfield 12, 3) := by decide +kernel
theorem dX1_init_15 : decode cX1_init 15 = .ok (.aload_n 0, 1) := by decide +kernel
theorem dX1_init_16 : decode cX1_init 16 = .ok (.sipush 1501, 3) := by decide +kernel
theorem dX1_init_19 : decode cX1_init 19 = .ok (.newarray .long, 2) := by decide +kernel
theorem dX1_init_21 : decode cX1_init 21 = .ok (.putfield 18, 3) := by decide +kernel
theorem dX1_init_24 : decode cX1_init 24 = .ok (.aload_n 0, 1) := by decide +kernel
theorem dX1_init_25 : decode cX1_init 25 = .ok (.sipush 1501, 3) := by decide +kernel
theorem dX1_init_28 : decode cX1_init 28 = .ok (.newarray .int, 2) := by decide +kernel
theorem dX1_init_30 : decode cX1_init 30 = .ok (.putfield 22, 3) := by decide +kernel
theorem dX1_init_33 : decode cX1_init 33 = .ok (.aload_n 0, 1) := by decide +kernel
theorem dX1_init_34 : decode cX1_init 34 = .ok (.sipush 4096, 3) := by decide +kernel
theorem dX1_init_37 : decode cX1_init 37 = .ok (.newarray .int, 2) := by decide +kernel
theorem dX1_init_39 : decode cX1_init 39 = .ok (.putfield 26, 3) := by decide +kernel
theorem dX1_init_42 : decode cX1_init 42 = .ok (.return_, 1) := by decide +kernel
theorem dX1_seek_0 : decode cX1_seek 0 = .ok (.aload_n 0, 1) := by decide +kernel
theorem dX1_seek_1 : decode cX1_seek 1 = .ok (.getfield 12, 3) := by decide +kernel
theorem dX1_seek_4 : decode cX1_seek 4 = .ok (.aload_n 1, 1) := by decide +kernel
theorem dX1_seek_5 : decode cX1_seek 5 = .ok (.invokevirtual 29, 3) := by decide +kernel
theorem dX1_seek_8 : decode cX1_seek 8 = .ok (.aload_n 0, 1) := by decide +kernel
theorem dX1_seek_9 : decode cX1_seek 9 = .ok (.getfield 12, 3) := by decide +kernel
theorem dX1_seek_12 : decode cX1_seek 12 = .ok (.getfield 33, 3) := by decide +kernel
theorem dX1_seek_15 : decode cX1_seek 15 = .ok (.iconst 0, 1) := by decide +kernel
theorem dX1_seek_16 : decode cX1_seek 16 = .ok (.iconst 0, 1) := by decide +kernel
theorem dX1_seek_17 : decode cX1_seek 17 = .ok (.iastore, 1) := by decide +kernel
theorem dX1_seek_18 : decode cX1_seek 18 = .ok (.aload_n 0, 1) := by decide +kernel
theorem dX1_seek_19 : decode cX1_seek 19 = .ok (.getfield 12, 3) := by decide +kernel
theorem dX1_seek_22 : decode cX1_seek 22 = .ok (.invokevirtual 36, 3) := by decide +kernel
theorem dX1_seek_25 : decode cX1_seek 25 = .ok (.aload_n 0, 1) := by decide +kernel
theorem dX1_seek_26 : decode cX1_seek 26 = .ok (.getfield 26, 3) := by decide +kernel
theorem dX1_seek_29 : decode cX1_seek 29 = .ok (.iconst (-1), 1) := by decide +kernel
theorem dX1_seek_30 : decode cX1_seek 30 = .ok (.invokestatic 39, 3) := by decide +kernel
theorem dX1_seek_33 : decode cX1_seek 33 = .ok (.aload_n 0, 1) := by decide +kernel
theorem dX1_seek_34 : decode cX1_seek 34 = .ok (.iconst 0, 1) := by decide +kernel
theorem dX1_seek_35 : decode cX1_seek 35 = .ok (.putfield 45, 3) := by decide +kernel
theorem dX1_seek_38 : decode cX1_seek 38 = .ok (.iconst 0, 1) := by decide +kernel
theorem dX1_seek_39 : decode cX1_seek 39 = .ok (.istore_n 2, 1) := by decide +kernel
theorem dX1_seek_40 : decode cX1_seek 40 = .ok (.iload_n 2, 1) := by decide +kernel
theorem dX1_seek_41 : decode cX1_seek 41 = .ok (.sipush 1500, 3) := by decide +kernel
theorem dX1_seek_44 : decode cX1_seek 44 = .ok (.if_icmp .gt 95, 3) := by decide +kernel
theorem dX1_seek_47 : decode cX1_seek 47 = .ok (.aload_n 0, 1) := by decide +kernel
theorem dX1_seek_48 : decode cX1_seek 48 = .ok (.getfield 45, 3) := by decide +kernel
theorem dX1_seek_51 : decode cX1_seek 51 = .ok (.ifCond .ne 88, 3) := by decide +kernel
theorem dX1_seek_54 : decode cX1_seek 54 = .ok (.aload_n 0, 1) := by decide +kernel
theorem dX1_seek_55 : decode cX1_seek 55 = .ok (.getfield 18, 3) := by decide +kernel
theorem dX1_seek_58 : decode cX1_seek 58 = .ok (.iload_n 2, 1) := by decide +kernel
theorem dX1_seek_59 : decode cX1_seek 59 = .ok (.aload_n 0, 1) := by decide +kernel
theorem dX1_seek_60 : decode cX1_seek 60 = .ok (.getfield 12, 3) := by decide +kernel
theorem dX1_seek_63 : decode cX1_seek 63 = .ok (.invokevirtual 49, 3) := by decide +kernel
theorem dX1_seek_66 : decode cX1_seek 66 = .ok (.lastore, 1) := by decide +kernel
theorem dX1_seek_67 : decode cX1_seek 67 = .ok (.aload_n 0, 1) := by decide +kernel
theorem dX1_seek_68 : decode cX1_seek 68 = .ok (.getfield 22, 3) := by decide +kernel
theorem dX1_seek_71 : decode cX1_seek 71 = .ok (.iload_n 2, 1) := by decide +kernel
theorem dX1_seek_72 : decode cX1_seek 72 = .ok (.aload_n 0, 1) := by decide +kernel
theorem dX1_seek_73 : decode cX1_seek 73 = .ok (.getfield 12, 3) := by decide +kernel
theorem dX1_seek_76 : decode cX1_seek 76 = .ok (.invokevirtual 53, 3) := by decide +kernel
theorem dX1_seek_79 : decode cX1_seek 79 = .ok (.iastore, 1) := by decide +kernel
theorem dX1_seek_80 : decode cX1_seek 80 = .ok (.aload_n 0, 1) := by decide +kernel
theorem dX1_seek_81 : decode cX1_seek 81 = .ok (.iload_n 2, 1) := by decide +kernel
theorem dX1_seek_82 : decode cX1_seek 82 = .ok (.invokevirtual 57, 3) := by decide +kernel
theorem dX1_seek_85 : decode cX1_seek 85 = .ok (.istore_n 3, 1) := by decide +kernel
theorem dX1_seek_86 : decode cX1_seek 86 = .ok (.iload_n 3, 1) := by decide +kernel
theorem dX1_seek_87 : decode cX1_seek 87 = .ok (.iconst (-1), 1) := by decide +kernel
theorem dX1_seek_88 : decode cX1_seek 88 = .ok (.if_icmp .eq 37, 3) := by decide +kernel
theorem dX1_seek_91 : decode cX1_seek 91 = .ok (.aload_n 0, 1) := by decide +kernel
theorem dX1_seek_92 : decode cX1_seek 92 = .ok (.iconst 1, 1) := by decide +kernel
theorem dX1_seek_93 : decode cX1_seek 93 = .ok (.putfield 45, 3) := by decide +kernel
theorem dX1_seek_96 : decode cX1_seek 96 = .ok (.aload_n 0, 1) := by decide +kernel
theorem dX1_seek_97 : decode cX1_seek 97 = .ok (.iload_n 3, 1) := by decide +kernel
theorem dX1_seek_98 : decode cX1_seek 98 = .ok (.putfield 61, 3) := by decide +kernel
theorem dX1_seek_101 : decode cX1_seek 101 = .ok (.aload_n 0, 1) := by decide +kernel
theorem dX1_seek_102 : decode cX1_seek 102 = .ok (.iload_n 2, 1) := by decide +kernel
theorem dX1_seek_103 : decode cX1_seek 103 = .ok (.iload_n 3, 1) := by decide +kernel
theorem dX1_seek_104 : decode cX1_seek 104 = .ok (.isub, 1) := by decide +kernel
theorem dX1_seek_105 : decode cX1_seek 105 = .ok (.putfield 65, 3) := by decide +kernel
theorem dX1_seek_108 : decode cX1_seek 108 = .ok (.aload_n 0, 1) := by decide +kernel
theorem dX1_seek_109 : decode cX1_seek 109 = .ok (.aload_n 0, 1) := by decide +kernel
theorem dX1_seek_110 : decode cX1_seek 110 = .ok (.getfield 22, 3) := by decide +kernel
theorem dX1_seek_113 : decode cX1_seek 113 = .ok (.iload_n 2, 1) := by decide +kernel
theorem dX1_seek_114 : decode cX1_seek 114 = .ok (.iaload, 1) := by decide +kernel
theorem dX1_seek_115 : decode cX1_seek 115 = .ok (.aload_n 0, 1) := by decide +kernel
theorem dX1_seek_116 : decode cX1_seek 116 = .ok (.getfield 22, 3) := by decide +kernel
theorem dX1_seek_119 : decode cX1_seek 119 = .ok (.iload_n 3, 1) := by decide +kernel
theorem dX1_seek_120 : decode cX1_seek 120 = .ok (.iaload, 1) := by decide +kernel
theorem dX1_seek_121 : decode cX1_seek 121 = .ok (.isub, 1) := by decide +kernel
theorem dX1_seek_122 : decode cX1_seek 122 = .ok (.putfield 68, 3) := by decide +kernel
theorem dX1_seek_125 : decode cX1_seek 125 = .ok (.aload_n 0, 1) := by decide +kernel
theorem dX1_seek_126 : decode cX1_seek 126 = .ok (.getfield 12, 3) := by decide +kernel
theorem dX1_seek_129 : decode cX1_seek 129 = .ok (.invokevirtual 70, 3) := by decide +kernel
theorem dX1_seek_132 : decode cX1_seek 132 = .ok (.pop, 1) := by decide +kernel
theorem dX1_seek_133 : decode cX1_seek 133 = .ok (.iinc 2 1, 3) := by decide +kernel
theorem dX1_seek_136 : decode cX1_seek 136 = .ok (.goto (-96), 3) := by decide +kernel
theorem dX1_seek_139 : decode cX1_seek 139 = .ok (.return_, 1) := by decide +kernel
theorem dX1_sameStepOrEnter_0 : decode cX1_sameStepOrEnter 0 = .ok (.aload_n 0, 1) := by decide +kernel
theorem dX1_sameStepOrEnter_1 : decode cX1_sameStepOrEnter 1 = .ok (.getfield 18, 3) := by decide +kernel
theorem dX1_sameStepOrEnter_4 : decode cX1_sameStepOrEnter 4 = .ok (.iload_n 1, 1) := by decide +kernel
theorem dX1_sameStepOrEnter_5 : decode cX1_sameStepOrEnter 5 = .ok (.laload, 1) := by decide +kernel
theorem dX1_sameStepOrEnter_6 : decode cX1_sameStepOrEnter 6 = .ok (.lstore_n 2, 1) := by decide +kernel
theorem dX1_sameStepOrEnter_7 : decode cX1_sameStepOrEnter 7 = .ok (.lload_n 2, 1) := by decide +kernel
theorem dX1_sameStepOrEnter_8 : decode cX1_sameStepOrEnter 8 = .ok (.ldc2_w 73, 3) := by decide +kernel
theorem dX1_sameStepOrEnter_11 : decode cX1_sameStepOrEnter 11 = .ok (.lmul, 1) := by decide +kernel
theorem dX1_sameStepOrEnter_12 : decode cX1_sameStepOrEnter 12 = .ok (.bipush 52, 2) := by decide +kernel
theorem dX1_sameStepOrEnter_14 : decode cX1_sameStepOrEnter 14 = .ok (.lushr, 1) := by decide +kernel
theorem dX1_sameStepOrEnter_15 : decode cX1_sameStepOrEnter 15 = .ok (.l2i, 1) := by decide +kernel
theorem dX1_sameStepOrEnter_16 : decode cX1_sameStepOrEnter 16 = .ok (.istore 4, 2) := by decide +kernel
theorem dX1_sameStepOrEnter_18 : decode cX1_sameStepOrEnter 18 = .ok (.iconst 0, 1) := by decide +kernel
theorem dX1_sameStepOrEnter_19 : decode cX1_sameStepOrEnter 19 = .ok (.istore 5, 2) := by decide +kernel
theorem dX1_sameStepOrEnter_21 : decode cX1_sameStepOrEnter 21 = .ok (.iload 5, 2) := by decide +kernel
theorem dX1_sameStepOrEnter_23 : decode cX1_sameStepOrEnter 23 = .ok (.sipush 4096, 3) := by decide +kernel
theorem dX1_sameStepOrEnter_26 : decode cX1_sameStepOrEnter 26 = .ok (.if_icmp .ge 59, 3) := by decide +kernel
theorem dX1_sameStepOrEnter_29 : decode cX1_sameStepOrEnter 29 = .ok (.aload_n 0, 1) := by decide +kernel
theorem dX1_sameStepOrEnter_30 : decode cX1_sameStepOrEnter 30 = .ok (.getfield 26, 3) := by decide +kernel
theorem dX1_sameStepOrEnter_33 : decode cX1_sameStepOrEnter 33 = .ok (.iload 4, 2) := by decide +kernel
theorem dX1_sameStepOrEnter_35 : decode cX1_sameStepOrEnter 35 = .ok (.iaload, 1) := by decide +kernel
theorem dX1_sameStepOrEnter_36 : decode cX1_sameStepOrEnter 36 = .ok (.istore 6, 2) := by decide +kernel
theorem dX1_sameStepOrEnter_38 : decode cX1_sameStepOrEnter 38 = .ok (.iload 6, 2) := by decide +kernel
theorem dX1_sameStepOrEnter_40 : decode cX1_sameStepOrEnter 40 = .ok (.iconst (-1), 1) := by decide +kernel
theorem dX1_sameStepOrEnter_41 : decode cX1_sameStepOrEnter 41 = .ok (.if_icmp .ne 13, 3) := by decide +kernel
theorem dX1_sameStepOrEnter_44 : decode cX1_sameStepOrEnter 44 = .ok (.aload_n 0, 1) := by decide +kernel
theorem dX1_sameStepOrEnter_45 : decode cX1_sameStepOrEnter 45 = .ok (.getfield 26, 3) := by decide +kernel
theorem dX1_sameStepOrEnter_48 : decode cX1_sameStepOrEnter 48 = .ok (.iload 4, 2) := by decide +kernel
theorem dX1_sameStepOrEnter_50 : decode cX1_sameStepOrEnter 50 = .ok (.iload_n 1, 1) := by decide +kernel
theorem dX1_sameStepOrEnter_51 : decode cX1_sameStepOrEnter 51 = .ok (.iastore, 1) := by decide +kernel
theorem dX1_sameStepOrEnter_52 : decode cX1_sameStepOrEnter 52 = .ok (.iconst (-1), 1) := by decide +kernel
theorem dX1_sameStepOrEnter_53 : decode cX1_sameStepOrEnter 53 = .ok (.ireturn, 1) := by decide +kernel
theorem dX1_sameStepOrEnter_54 : decode cX1_sameStepOrEnter 54 = .ok (.aload_n 0, 1) := by decide +kernel
theorem dX1_sameStepOrEnter_55 : decode cX1_sameStepOrEnter 55 = .ok (.getfield 18, 3) := by decide +kernel
theorem dX1_sameStepOrEnter_58 : decode cX1_sameStepOrEnter 58 = .ok (.iload 6, 2) := by decide +kernel
theorem dX1_sameStepOrEnter_60 : decode cX1_sameStepOrEnter 60 = .ok (.laload, 1) := by decide +kernel
theorem dX1_sameStepOrEnter_61 : decode cX1_sameStepOrEnter 61 = .ok (.lload_n 2, 1) := by decide +kernel
theorem dX1_sameStepOrEnter_62 : decode cX1_sameStepOrEnter 62 = .ok (.lcmp, 1) := by decide +kernel
theorem dX1_sameStepOrEnter_63 : decode cX1_sameStepOrEnter 63 = .ok (.ifCond .ne 6, 3) := by decide +kernel
theorem dX1_sameStepOrEnter_66 : decode cX1_sameStepOrEnter 66 = .ok (.iload 6, 2) := by decide +kernel
theorem dX1_sameStepOrEnter_68 : decode cX1_sameStepOrEnter 68 = .ok (.ireturn, 1) := by decide +kernel
theorem dX1_sameStepOrEnter_69 : decode cX1_sameStepOrEnter 69 = .ok (.iload 4, 2) := by decide +kernel
theorem dX1_sameStepOrEnter_71 : decode cX1_sameStepOrEnter 71 = .ok (.iconst 1, 1) := by decide +kernel
theorem dX1_sameStepOrEnter_72 : decode cX1_sameStepOrEnter 72 = .ok (.iadd, 1) := by decide +kernel
theorem dX1_sameStepOrEnter_73 : decode cX1_sameStepOrEnter 73 = .ok (.sipush 4096, 3) := by decide +kernel
theorem dX1_sameStepOrEnter_76 : decode cX1_sameStepOrEnter 76 = .ok (.irem, 1) := by decide +kernel
theorem dX1_sameStepOrEnter_77 : decode cX1_sameStepOrEnter 77 = .ok (.istore 4, 2) := by decide +kernel
theorem dX1_sameStepOrEnter_79 : decode cX1_sameStepOrEnter 79 = .ok (.iinc 5 1, 3) := by decide +kernel
theorem dX1_sameStepOrEnter_82 : decode cX1_sameStepOrEnter 82 = .ok (.goto (-61), 3) := by decide +kernel
theorem dX1_sameStepOrEnter_85 : decode cX1_sameStepOrEnter 85 = .ok (.iconst (-1), 1) := by decide +kernel
theorem dX1_sameStepOrEnter_86 : decode cX1_sameStepOrEnter 86 = .ok (.ireturn, 1) := by decide +kernel
theorem dX2_init_0 : decode cX2_init 0 = .ok (.aload_n 0, 1) := by decide +kernel
theorem dX2_init_1 : decode cX2_init 1 = .ok (.invokespecial 3, 3) := by decide +kernel
theorem dX2_init_4 : decode cX2_init 4 = .ok (.aload_n 0, 1) := by decide +kernel
theorem dX2_init_5 : decode cX2_init 5 = .ok (.sipush 200, 3) := by decide +kernel
theorem dX2_init_8 : decode cX2_init 8 = .ok (.putfield 9, 3) := by decide +kernel
theorem dX2_init_11 : decode cX2_init 11 = .ok (.aload_n 0, 1) := by decide +kernel
theorem dX2_init_12 : decode cX2_init 12 = .ok (.bipush 20, 2) := by decide +kernel
theorem dX2_init_14 : decode cX2_init 14 = .ok (.putfield 15, 3) := by decide +kernel
theorem dX2_init_17 : decode cX2_init 17 = .ok (.aload_n 0, 1) := by decide +kernel
theorem dX2_init_18 : decode cX2_init 18 = .ok (.sipush (-500), 3) := by decide +kernel
theorem dX2_init_21 : decode cX2_init 21 = .ok (.putfield 18, 3) := by decide +kernel
theorem dX2_init_24 : decode cX2_init 24 = .ok (.aload_n 0, 1) := by decide +kernel
theorem dX2_init_25 : decode cX2_init 25 = .ok (.sipush 1500, 3) := by decide +kernel
theorem dX2_init_28 : decode cX2_init 28 = .ok (.putfield 21, 3) := by decide +kernel
theorem dX2_init_31 : decode cX2_init 31 = .ok (.return_, 1) := by decide +kernel
theorem dX2_copyFrom_0 : decode cX2_copyFrom 0 = .ok (.aload_n 0, 1) := by decide +kernel
theorem dX2_copyFrom_1 : decode cX2_copyFrom 1 = .ok (.aload_n 1, 1) := by decide +kernel
theorem dX2_copyFrom_2 : decode cX2_copyFrom 2 = .ok (.getfield 9, 3) := by decide +kernel
theorem dX2_copyFrom_5 : decode cX2_copyFrom 5 = .ok (.putfield 9, 3) := by decide +kernel
theorem dX2_copyFrom_8 : decode cX2_copyFrom 8 = .ok (.aload_n 0, 1) := by decide +kernel
theorem dX2_copyFrom_9 : decode cX2_copyFrom 9 = .ok (.aload_n 1, 1) := by decide +kernel
theorem dX2_copyFrom_10 : decode cX2_copyFrom 10 = .ok (.getfield 24, 3) := by decide +kernel
theorem dX2_copyFrom_13 : decode cX2_copyFrom 13 = .ok (.putfield 24, 3) := by decide +kernel
theorem dX2_copyFrom_16 : decode cX2_copyFrom 16 = .ok (.aload_n 0, 1) := by decide +kernel
theorem dX2_copyFrom_17 : decode cX2_copyFrom 17 = .ok (.aload_n 1, 1) := by decide +kernel
theorem dX2_copyFrom_18 : decode cX2_copyFrom 18 = .ok (.getfield 15, 3) := by decide +kernel
theorem dX2_copyFrom_21 : decode cX2_copyFrom 21 = .ok (.putfield 15, 3) := by decide +kernel
theorem dX2_copyFrom_24 : decode cX2_copyFrom 24 = .ok (.aload_n 0, 1) := by decide +kernel
theorem dX2_copyFrom_25 : decode cX2_copyFrom 25 = .ok (.aload_n 1, 1) := by decide +kernel
theorem dX2_copyFrom_26 : decode cX2_copyFrom 26 = .ok (.getfield 27, 3) := by decide +kernel
theorem dX2_copyFrom_29 : decode cX2_copyFrom 29 = .ok (.putfield 27, 3) := by decide +kernel
theorem dX2_copyFrom_32 : decode cX2_copyFrom 32 = .ok (.aload_n 0, 1) := by decide +kernel
theorem dX2_copyFrom_33 : decode cX2_copyFrom 33 = .ok (.aload_n 1, 1) := by decide +kernel
theorem dX2_copyFrom_34 : decode cX2_copyFrom 34 = .ok (.getfield 31, 3) := by decide +kernel
theorem dX2_copyFrom_37 : decode cX2_copyFrom 37 = .ok (.putfield 31, 3) := by decide +kernel
theorem dX2_copyFrom_40 : decode cX2_copyFrom 40 = .ok (.aload_n 0, 1) := by decide +kernel
theorem dX2_copyFrom_41 : decode cX2_copyFrom 41 = .ok (.aload_n 1, 1) := by decide +kernel
theorem dX2_copyFrom_42 : decode cX2_copyFrom 42 = .ok (.getfield 18, 3) := by decide +kernel
theorem dX2_copyFrom_45 : decode cX2_copyFrom 45 = .ok (.putfield 18, 3) := by decide +kernel
theorem dX2_copyFrom_48 : decode cX2_copyFrom 48 = .ok (.aload_n 0, 1) := by decide +kernel
theorem dX2_copyFrom_49 : decode cX2_copyFrom 49 = .ok (.aload_n 1, 1) := by decide +kernel
theorem dX2_copyFrom_50 : decode cX2_copyFrom 50 = .ok (.getfield 21, 3) := by decide +kernel
theorem dX2_copyFrom_53 : decode cX2_copyFrom 53 = .ok (.putfield 21, 3) := by decide +kernel
theorem dX2_copyFrom_56 : decode cX2_copyFrom 56 = .ok (.return_, 1) := by decide +kernel
theorem dX2_lossTo_0 : decode cX2_lossTo 0 = .ok (.aload_n 0, 1) := by decide +kernel
theorem dX2_lossTo_1 : decode cX2_lossTo 1 = .ok (.getfield 15, 3) := by decide +kernel
theorem dX2_lossTo_4 : decode cX2_lossTo 4 = .ok (.ifCond .ne 7, 3) := by decide +kernel
theorem dX2_lossTo_7 : decode cX2_lossTo 7 = .ok (.iconst 0, 1) := by decide +kernel
theorem dX2_lossTo_8 : decode cX2_lossTo 8 = .ok (.goto 14, 3) := by decide +kernel
theorem dX2_lossTo_11 : decode cX2_lossTo 11 = .ok (.aload_n 0, 1) := by decide +kernel
theorem dX2_lossTo_12 : decode cX2_lossTo 12 = .ok (.getfield 9, 3) := by decide +kernel
theorem dX2_lossTo_15 : decode cX2_lossTo 15 = .ok (.iload_n 1, 1) := by decide +kernel
theorem dX2_lossTo_16 : decode cX2_lossTo 16 = .ok (.isub, 1) := by decide +kernel
theorem dX2_lossTo_17 : decode cX2_lossTo 17 = .ok (.aload_n 0, 1) := by decide +kernel
theorem dX2_lossTo_18 : decode cX2_lossTo 18 = .ok (.getfield 15, 3) := by decide +kernel
theorem dX2_lossTo_21 : decode cX2_lossTo 21 = .ok (.idiv, 1) := by decide +kernel
theorem dX2_lossTo_22 : decode cX2_lossTo 22 = .ok (.ireturn, 1) := by decide +kernel
theorem dX2_lossTo__0 : decode cX2_lossTo_ 0 = .ok (.aload_n 0, 1) := by decide +kernel
theorem dX2_lossTo__1 : decode cX2_lossTo_ 1 = .ok (.getfield 9, 3) := by decide +kernel
theorem dX2_lossTo__4 : decode cX2_lossTo_ 4 = .ok (.aload_n 1, 1) := by decide +kernel
theorem dX2_lossTo__5 : decode cX2_lossTo_ 5 = .ok (.getfield 9, 3) := by decide +kernel
theorem dX2_lossTo__8 : decode cX2_lossTo_ 8 = .ok (.isub, 1) := by decide +kernel
theorem dX2_lossTo__9 : decode cX2_lossTo_ 9 = .ok (.bipush 10, 2) := by decide +kernel
theorem dX2_lossTo__11 : decode cX2_lossTo_ 11 = .ok (.idiv, 1) := by decide +kernel
theorem dX2_lossTo__12 : decode cX2_lossTo_ 12 = .ok (.ireturn, 1) := by decide +kernel
theorem dX2_come_0 : decode cX2_come 0 = .ok (.aload_n 0, 1) := by decide +kernel
theorem dX2_come_1 : decode cX2_come 1 = .ok (.iload_n 1, 1) := by decide +kernel
theorem dX2_come_2 : decode cX2_come 2 = .ok (.putfield 9, 3) := by decide +kernel
theorem dX2_come_5 : decode cX2_come 5 = .ok (.aload_n 0, 1) := by decide +kernel
theorem dX2_come_6 : decode cX2_come 6 = .ok (.aload_n 0, 1) := by decide +kernel
theorem dX2_come_7 : decode cX2_come 7 = .ok (.getfield 18, 3) := by decide +kernel
theorem dX2_come_10 : decode cX2_come 10 = .ok (.iload_n 1, 1) := by decide +kernel
theorem dX2_come_11 : decode cX2_come 11 = .ok (.invokestatic 34, 3) := by decide +kernel
theorem dX2_come_14 : decode cX2_come 14 = .ok (.putfield 18, 3) := by decide +kernel
theorem dX2_come_17 : decode cX2_come 17 = .ok (.aload_n 0, 1) := by decide +kernel
theorem dX2_come_18 : decode cX2_come 18 = .ok (.aload_n 0, 1) := by decide +kernel
theorem dX2_come_19 : decode cX2_come 19 = .ok (.getfield 21, 3) := by decide +kernel
theorem dX2_come_22 : decode cX2_come 22 = .ok (.iload_n 1, 1) := by decide +kernel
theorem dX2_come_23 : decode cX2_come 23 = .ok (.invokestatic 40, 3) := by decide +kernel
theorem dX2_come_26 : decode cX2_come 26 = .ok (.putfield 21, 3) := by decide +kernel
theorem dX2_come_29 : decode cX2_come 29 = .ok (.return_, 1) := by decide +kernel
theorem dX3_init_0 : decode cX3_init 0 = .ok (.aload_n 0, 1) := by decide +kernel
theorem dX3_init_1 : decode cX3_init 1 = .ok (.invokespecial 5, 3) := by decide +kernel
theorem dX3_init_4 : decode cX3_init 4 = .ok (.aload_n 0, 1) := by decide +kernel
theorem dX3_init_5 : decode cX3_init 5 = .ok (.bipush 6, 2) := by decide +kernel
theorem dX3_init_7 : decode cX3_init 7 = .ok (.newarray .int, 2) := by decide +kernel
theorem dX3_init_9 : decode cX3_init 9 = .ok (.putfield 11, 3) := by decide +kernel
theorem dX3_init_12 : decode cX3_init 12 = .ok (.aload_n 0, 1) := by decide +kernel
theorem dX3_init_13 : decode cX3_init 13 = .ok (.bipush 36, 2) := by decide +kernel
theorem dX3_init_15 : decode cX3_init 15 = .ok (.newarray .int, 2) := by decide +kernel
theorem dX3_init_17 : decode cX3_init 17 = .ok (.putfield 15, 3) := by decide +kernel
theorem dX3_init_20 : decode cX3_init 20 = .ok (.aload_n 0, 1) := by decide +kernel
theorem dX3_init_21 : decode cX3_init 21 = .ok (.sipush 271, 3) := by decide +kernel
theorem dX3_init_24 : decode cX3_init 24 = .ok (.newarray .int, 2) := by decide +kernel
theorem dX3_init_26 : decode cX3_init 26 = .ok (.putfield 18, 3) := by decide +kernel
theorem dX3_init_29 : decode cX3_init 29 = .ok (.aload_n 0, 1) := by decide +kernel
theorem dX3_init_30 : decode cX3_init 30 = .ok (.sipush 541, 3) := by decide +kernel
theorem dX3_init_33 : decode cX3_init 33 = .ok (.newarray .int, 2) := by decide +kernel
theorem dX3_init_35 : decode cX3_init 35 = .ok (.putfield 21, 3) := by decide +kernel
theorem dX3_init_38 : decode cX3_init 38 = .ok (.return_, 1) := by decide +kernel
theorem dX3_takeNumbers_0 : decode cX3_takeNumbers 0 = .ok (.aload_n 0, 1) := by decide +kernel
theorem dX3_takeNumbers_1 : decode cX3_takeNumbers 1 = .ok (.getfield 24, 3) := by decide +kernel
theorem dX3_takeNumbers_4 : decode cX3_takeNumbers 4 = .ok (.istore_n 2, 1) := by decide +kernel
theorem dX3_takeNumbers_5 : decode cX3_takeNumbers 5 = .ok (.iconst 0, 1) := by decide +kernel
theorem dX3_takeNumbers_6 : decode cX3_takeNumbers 6 = .ok (.istore_n 3, 1) := by decide +kernel
theorem dX3_takeNumbers_7 : decode cX3_takeNumbers 7 = .ok (.iload_n 3, 1) := by decide +kernel
theorem dX3_takeNumbers_8 : decode cX3_takeNumbers 8 = .ok (.bipush 6, 2) := by decide +kernel
theorem dX3_takeNumbers_10 : decode cX3_takeNumbers 10 = .ok (.if_icmp .ge 40, 3) := by decide +kernel
theorem dX3_takeNumbers_13 : decode cX3_takeNumbers 13 = .ok (.iload_n 2, 1) := by decide +kernel
theorem dX3_takeNumbers_14 : decode cX3_takeNumbers 14 = .ok (.ifCond .eq 19, 3) := by decide +kernel
theorem dX3_takeNumbers_17 : decode cX3_takeNumbers 17 = .ok (.aload_n 0, 1) := by decide +kernel
theorem dX3_takeNumbers_18 : decode cX3_takeNumbers 18 = .ok (.getfield 11, 3) := by decide +kernel
theorem dX3_takeNumbers_21 : decode cX3_takeNumbers 21 = .ok (.iload_n 3, 1) := by decide +kernel
theorem dX3_takeNumbers_22 : decode cX3_takeNumbers 22 = .ok (.iaload, 1) := by decide +kernel
theorem dX3_takeNumbers_23 : decode cX3_takeNumbers 23 = .ok (.aload_n 1, 1) := by decide +kernel
theorem dX3_takeNumbers_24 : decode cX3_takeNumbers 24 = .ok (.iload_n 3, 1) := by decide +kernel
theorem dX3_takeNumbers_25 : decode cX3_takeNumbers 25 = .ok (.iaload, 1) := by decide +kernel
theorem dX3_takeNumbers_26 : decode cX3_takeNumbers 26 = .ok (.if_icmp .ne 7, 3) := by decide +kernel
theorem dX3_takeNumbers_29 : decode cX3_takeNumbers 29 = .ok (.iconst 1, 1) := by decide +kernel
theorem dX3_takeNumbers_30 : decode cX3_takeNumbers 30 = .ok (.goto 4, 3) := by decide +kernel
theorem dX3_takeNumbers_33 : decode cX3_takeNumbers 33 = .ok (.iconst 0, 1) := by decide +kernel
theorem dX3_takeNumbers_34 : decode cX3_takeNumbers 34 = .ok (.istore_n 2, 1) := by decide +kernel
theorem dX3_takeNumbers_35 : decode cX3_takeNumbers 35 = .ok (.aload_n 0, 1) := by decide +kernel
theorem dX3_takeNumbers_36 : decode cX3_takeNumbers 36 = .ok (.getfield 11, 3) := by decide +kernel
theorem dX3_takeNumbers_39 : decode cX3_takeNumbers 39 = .ok (.iload_n 3, 1) := by decide +kernel
theorem dX3_takeNumbers_40 : decode cX3_takeNumbers 40 = .ok (.aload_n 1, 1) := by decide +kernel
theorem dX3_takeNumbers_41 : decode cX3_takeNumbers 41 = .ok (.iload_n 3, 1) := by decide +kernel
theorem dX3_takeNumbers_42 : decode cX3_takeNumbers 42 = .ok (.iaload, 1) := by decide +kernel
theorem dX3_takeNumbers_43 : decode cX3_takeNumbers 43 = .ok (.iastore, 1) := by decide +kernel
theorem dX3_takeNumbers_44 : decode cX3_takeNumbers 44 = .ok (.iinc 3 1, 3) := by decide +kernel
theorem dX3_takeNumbers_47 : decode cX3_takeNumbers 47 = .ok (.goto (-40), 3) := by decide +kernel
theorem dX3_takeNumbers_50 : decode cX3_takeNumbers 50 = .ok (.iload_n 2, 1) := by decide +kernel
theorem dX3_takeNumbers_51 : decode cX3_takeNumbers 51 = .ok (.ifCond .ne 20, 3) := by decide +kernel
theorem dX3_takeNumbers_54 : decode cX3_takeNumbers 54 = .ok (.aload_n 0, 1) := by decide +kernel
theorem dX3_takeNumbers_55 : decode cX3_takeNumbers 55 = .ok (.invokevirtual 28, 3) := by decide +kernel
theorem dX3_takeNumbers_58 : decode cX3_takeNumbers 58 = .ok (.aload_n 0, 1) := by decide +kernel
theorem dX3_takeNumbers_59 : decode cX3_takeNumbers 59 = .ok (.invokevirtual 31, 3) := by decide +kernel
theorem dX3_takeNumbers_62 : decode cX3_takeNumbers 62 = .ok (.aload_n 0, 1) := by decide +kernel
theorem dX3_takeNumbers_63 : decode cX3_takeNumbers 63 = .ok (.invokevirtual 34, 3) := by decide +kernel
theorem dX3_takeNumbers_66 : decode cX3_takeNumbers 66 = .ok (.aload_n 0, 1) := by decide +kernel
theorem dX3_takeNumbers_67 : decode cX3_takeNumbers 67 = .ok (.iconst 1, 1) := by decide +kernel
theorem dX3_takeNumbers_68 : decode cX3_takeNumbers 68 = .ok (.putfield 24, 3) := by decide +kernel
theorem dX3_takeNumbers_71 : decode cX3_takeNumbers 71 = .ok (.return_, 1) := by decide +kernel
theorem dX3_fewestParts_0 : decode cX3_fewestParts 0 = .ok (.iconst 0, 1) := by decide +kernel
theorem dX3_fewestParts_1 : decode cX3_fewestParts 1 = .ok (.istore_n 2, 1) := by decide +kernel
theorem dX3_fewestParts_2 : decode cX3_fewestParts 2 = .ok (.iload_n 2, 1) := by decide +kernel
theorem dX3_fewestParts_3 : decode cX3_fewestParts 3 = .ok (.iconst 3, 1) := by decide +kernel
theorem dX3_fewestParts_4 : decode cX3_fewestParts 4 = .ok (.if_icmp .gt 20, 3) := by decide +kernel
theorem dX3_fewestParts_7 : decode cX3_fewestParts 7 = .ok (.aload_n 0, 1) := by decide +kernel
theorem dX3_fewestParts_8 : decode cX3_fewestParts 8 = .ok (.iload_n 2, 1) := by decide +kernel
theorem dX3_fewestParts_9 : decode cX3_fewestParts 9 = .ok (.iload_n 1, 1) := by decide +kernel
theorem dX3_fewestParts_10 : decode cX3_fewestParts 10 = .ok (.invokevirtual 37, 3) := by decide +kernel
theorem dX3_fewestParts_13 : decode cX3_fewestParts 13 = .ok (.ifCond .eq 5, 3) := by decide +kernel
theorem dX3_fewestParts_16 : decode cX3_fewestParts 16 = .ok (.iload_n 2, 1) := by decide +kernel
theorem dX3_fewestParts_17 : decode cX3_fewestParts 17 = .ok (.ireturn, 1) := by decide +kernel
theorem dX3_fewestParts_18 : decode cX3_fewestParts 18 = .ok (.iinc 2 1, 3) := by decide +kernel
theorem dX3_fewestParts_21 : decode cX3_fewestParts 21 = .ok (.goto (-19), 3) := by decide +kernel
theorem dX3_fewestParts_24 : decode cX3_fewestParts 24 = .ok (.iconst (-1), 1) := by decide +kernel
theorem dX3_fewestParts_25 : decode cX3_fewestParts 25 = .ok (.ireturn, 1) := by decide +kernel
theorem dX3_partOfLeastRow_0 : decode cX3_partOfLeastRow 0 = .ok (.iload_n 2, 1) := by decide +kernel
theorem dX3_partOfLeastRow_1 : decode cX3_partOfLeastRow 1 = .ok (.istore 5, 2) := by decide +kernel
theorem dX3_partOfLeastRow_3 : decode cX3_partOfLeastRow 3 = .ok (.aload_n 0, 1) := by decide +kernel
theorem dX3_partOfLeastRow_4 : decode cX3_partOfLeastRow 4 = .ok (.iload_n 1, 1) := by decide +kernel
theorem dX3_partOfLeastRow_5 : decode cX3_partOfLeastRow 5 = .ok (.iload_n 2, 1) := by decide +kernel
theorem dX3_partOfLeastRow_6 : decode cX3_partOfLeastRow 6 = .ok (.invokevirtual 37, 3) := by decide +kernel
theorem dX3_partOfLeastRow_9 : decode cX3_partOfLeastRow 9 = .ok (.invokestatic 41, 3) := by decide +kernel
theorem dX3_partOfLeastRow_12 : decode cX3_partOfLeastRow 12 = .ok (.istore 6, 2) := by decide +kernel
theorem dX3_partOfLeastRow_14 : decode cX3_partOfLeastRow 14 = .ok (.iconst 0, 1) := by decide +kernel
theorem dX3_partOfLeastRow_15 : decode cX3_partOfLeastRow 15 = .ok (.istore 7, 2) := by decide +kernel
theorem dX3_partOfLeastRow_17 : decode cX3_partOfLeastRow 17 = .ok (.iconst 0, 1) := by decide +kernel
theorem dX3_partOfLeastRow_18 : decode cX3_partOfLeastRow 18 = .ok (.istore 8, 2) := by decide +kernel
theorem dX3_partOfLeastRow_20 : decode cX3_partOfLeastRow 20 = .ok (.iload 8, 2) := by decide +kernel
theorem dX3_partOfLeastRow_22 : decode cX3_partOfLeastRow 22 = .ok (.iload_n 3, 1) := by decide +kernel
theorem dX3_partOfLeastRow_23 : decode cX3_partOfLeastRow 23 = .ok (.if_icmp .gt 53, 3) := by decide +kernel
theorem dX3_partOfLeastRow_26 : decode cX3_partOfLeastRow 26 = .ok (.aload_n 0, 1) := by decide +kernel
theorem dX3_partOfLeastRow_27 : decode cX3_partOfLeastRow 27 = .ok (.iload_n 1, 1) := by decide +kernel
theorem dX3_partOfLeastRow_28 : decode cX3_partOfLeastRow 28 = .ok (.iload 8, 2) := by decide +kernel
theorem dX3_partOfLeastRow_30 : decode cX3_partOfLeastRow 30 = .ok (.isub, 1) := by decide +kernel
theorem dX3_partOfLeastRow_31 : decode cX3_partOfLeastRow 31 = .ok (.iload 5, 2) := by decide +kernel
theorem dX3_partOfLeastRow_33 : decode cX3_partOfLeastRow 33 = .ok (.iload 6, 2) := by decide +kernel
theorem dX3_partOfLeastRow_35 : decode cX3_partOfLeastRow 35 = .ok (.invokevirtual 45, 3) := by decide +kernel
theorem dX3_partOfLeastRow_38 : decode cX3_partOfLeastRow 38 = .ok (.istore 7, 2) := by decide +kernel
theorem dX3_partOfLeastRow_40 : decode cX3_partOfLeastRow 40 = .ok (.iload 5, 2) := by decide +kernel
theorem dX3_partOfLeastRow_42 : decode cX3_partOfLeastRow 42 = .ok (.iload 7, 2) := by decide +kernel
theorem dX3_partOfLeastRow_44 : decode cX3_partOfLeastRow 44 = .ok (.bipush 36, 2) := by decide +kernel
theorem dX3_partOfLeastRow_46 : decode cX3_partOfLeastRow 46 = .ok (.idiv, 1) := by decide +kernel
theorem dX3_partOfLeastRow_47 : decode cX3_partOfLeastRow 47 = .ok (.aload_n 0, 1) := by decide +kernel
theorem dX3_partOfLeastRow_48 : decode cX3_partOfLeastRow 48 = .ok (.iload 7, 2) := by decide +kernel
theorem dX3_partOfLeastRow_50 : decode cX3_partOfLeastRow 50 = .ok (.bipush 36, 2) := by decide +kernel
theorem dX3_partOfLeastRow_52 : decode cX3_partOfLeastRow 52 = .ok (.irem, 1) := by decide +kernel
theorem dX3_partOfLeastRow_53 : decode cX3_partOfLeastRow 53 = .ok (.invokevirtual 49, 3) := by decide +kernel
theorem dX3_partOfLeastRow_56 : decode cX3_partOfLeastRow 56 = .ok (.imul, 1) := by decide +kernel
theorem dX3_partOfLeastRow_57 : decode cX3_partOfLeastRow 57 = .ok (.isub, 1) := by decide +kernel
theorem dX3_partOfLeastRow_58 : decode cX3_partOfLeastRow 58 = .ok (.istore 5, 2) := by decide +kernel
theorem dX3_partOfLeastRow_60 : decode cX3_partOfLeastRow 60 = .ok (.iload 6, 2) := by decide +kernel
theorem dX3_partOfLeastRow_62 : decode cX3_partOfLeastRow 62 = .ok (.iload 7, 2) := by decide +kernel
theorem dX3_partOfLeastRow_64 : decode cX3_partOfLeastRow 64 = .ok (.bipush 36, 2) := by decide +kernel
theorem dX3_partOfLeastRow_66 : decode cX3_partOfLeastRow 66 = .ok (.idiv, 1) := by decide +kernel
theorem dX3_partOfLeastRow_67 : decode cX3_partOfLeastRow 67 = .ok (.isub, 1) := by decide +kernel
theorem dX3_partOfLeastRow_68 : decode cX3_partOfLeastRow 68 = .ok (.istore 6, 2) := by decide +kernel
theorem dX3_partOfLeastRow_70 : decode cX3_partOfLeastRow 70 = .ok (.iinc 8 1, 3) := by decide +kernel
theorem dX3_partOfLeastRow_73 : decode cX3_partOfLeastRow 73 = .ok (.goto (-53), 3) := by decide +kernel
theorem dX3_partOfLeastRow_76 : decode cX3_partOfLeastRow 76 = .ok (.iload 4, 2) := by decide +kernel
theorem dX3_partOfLeastRow_78 : decode cX3_partOfLeastRow 78 = .ok (.lookupswitch 41 #[(0, 26), (1, 32)], 26) := by decide +kernel
theorem dX3_partOfLeastRow_104 : decode cX3_partOfLeastRow 104 = .ok (.iload 7, 2) := by decide +kernel
theorem dX3_partOfLeastRow_106 : decode cX3_partOfLeastRow 106 = .ok (.bipush 36, 2) := by decide +kernel
theorem dX3_partOfLeastRow_108 : decode cX3_partOfLeastRow 108 = .ok (.idiv, 1) := by decide +kernel
theorem dX3_partOfLeastRow_109 : decode cX3_partOfLeastRow 109 = .ok (.ireturn, 1) := by decide +kernel
theorem dX3_partOfLeastRow_110 : decode cX3_partOfLeastRow 110 = .ok (.iload 7, 2) := by decide +kernel
theorem dX3_partOfLeastRow_112 : decode cX3_partOfLeastRow 112 = .ok (.bipush 36, 2) := by decide +kernel
theorem dX3_partOfLeastRow_114 : decode cX3_partOfLeastRow 114 = .ok (.irem, 1) := by decide +kernel
theorem dX3_partOfLeastRow_115 : decode cX3_partOfLeastRow 115 = .ok (.bipush 6, 2) := by decide +kernel
theorem dX3_partOfLeastRow_117 : decode cX3_partOfLeastRow 117 = .ok (.idiv, 1) := by decide +kernel
theorem dX3_partOfLeastRow_118 : decode cX3_partOfLeastRow 118 = .ok (.ireturn, 1) := by decide +kernel
theorem dX3_partOfLeastRow_119 : decode cX3_partOfLeastRow 119 = .ok (.iload 7, 2) := by decide +kernel
theorem dX3_partOfLeastRow_121 : decode cX3_partOfLeastRow 121 = .ok (.bipush 6, 2) := by decide +kernel
theorem dX3_partOfLeastRow_123 : decode cX3_partOfLeastRow 123 = .ok (.irem, 1) := by decide +kernel
theorem dX3_partOfLeastRow_124 : decode cX3_partOfLeastRow 124 = .ok (.ireturn, 1) := by decide +kernel
theorem dX3_leastFirstPart_0 : decode cX3_leastFirstPart 0 = .ok (.bipush 9, 2) := by decide +kernel
theorem dX3_leastFirstPart_2 : decode cX3_leastFirstPart 2 = .ok (.iload_n 3, 1) := by decide +kernel
theorem dX3_leastFirstPart_3 : decode cX3_leastFirstPart 3 = .ok (.invokestatic 52, 3) := by decide +kernel
theorem dX3_leastFirstPart_6 : decode cX3_leastFirstPart 6 = .ok (.istore 4, 2) := by decide +kernel
theorem dX3_leastFirstPart_8 : decode cX3_leastFirstPart 8 = .ok (.iconst 1, 1) := by decide +kernel
theorem dX3_leastFirstPart_9 : decode cX3_leastFirstPart 9 = .ok (.istore 5, 2) := by decide +kernel
theorem dX3_leastFirstPart_11 : decode cX3_leastFirstPart 11 = .ok (.iload 5, 2) := by decide +kernel
theorem dX3_leastFirstPart_13 : decode cX3_leastFirstPart 13 = .ok (.iload 4, 2) := by decide +kernel
theorem dX3_leastFirstPart_15 : decode cX3_leastFirstPart 15 = .ok (.if_icmp .gt 82, 3) := by decide +kernel
theorem dX3_leastFirstPart_18 : decode cX3_leastFirstPart 18 = .ok (.iconst 1, 1) := by decide +kernel
theorem dX3_leastFirstPart_19 : decode cX3_leastFirstPart 19 = .ok (.iload_n 3, 1) := by decide +kernel
theorem dX3_leastFirstPart_20 : decode cX3_leastFirstPart 20 = .ok (.iload 5, 2) := by decide +kernel
theorem dX3_leastFirstPart_22 : decode cX3_leastFirstPart 22 = .ok (.isub, 1) := by decide +kernel
theorem dX3_leastFirstPart_23 : decode cX3_leastFirstPart 23 = .ok (.ishl, 1) := by decide +kernel
theorem dX3_leastFirstPart_24 : decode cX3_leastFirstPart 24 = .ok (.istore 6, 2) := by decide +kernel
theorem dX3_leastFirstPart_26 : decode cX3_leastFirstPart 26 = .ok (.iconst 0, 1) := by decide +kernel
theorem dX3_leastFirstPart_27 : decode cX3_leastFirstPart 27 = .ok (.istore 7, 2) := by decide +kernel
theorem dX3_leastFirstPart_29 : decode cX3_leastFirstPart 29 = .ok (.iload 7, 2) := by decide +kernel
theorem dX3_leastFirstPart_31 : decode cX3_leastFirstPart 31 = .ok (.aload_n 0, 1) := by decide +kernel
theorem dX3_leastFirstPart_32 : decode cX3_leastFirstPart 32 = .ok (.getfield 57, 3) := by decide +kernel
theorem dX3_leastFirstPart_35 : decode cX3_leastFirstPart 35 = .ok (.if_icmp .ge 56, 3) := by decide +kernel
theorem dX3_leastFirstPart_38 : decode cX3_leastFirstPart 38 = .ok (.iload_n 2, 1) := by decide +kernel
theorem dX3_leastFirstPart_39 : decode cX3_leastFirstPart 39 = .ok (.iload 5, 2) := by decide +kernel
theorem dX3_leastFirstPart_41 : decode cX3_leastFirstPart 41 = .ok (.aload_n 0, 1) := by decide +kernel
theorem dX3_leastFirstPart_42 : decode cX3_leastFirstPart 42 = .ok (.aload_n 0, 1) := by decide +kernel
theorem dX3_leastFirstPart_43 : decode cX3_leastFirstPart 43 = .ok (.getfield 15, 3) := by decide +kernel
theorem dX3_leastFirstPart_46 : decode cX3_leastFirstPart 46 = .ok (.iload 7, 2) := by decide +kernel
theorem dX3_leastFirstPart_48 : decode cX3_leastFirstPart 48 = .ok (.iaload, 1) := by decide +kernel
theorem dX3_leastFirstPart_49 : decode cX3_leastFirstPart 49 = .ok (.invokevirtual 49, 3) := by decide +kernel
theorem dX3_leastFirstPart_52 : decode cX3_leastFirstPart 52 = .ok (.imul, 1) := by decide +kernel
theorem dX3_leastFirstPart_53 : decode cX3_leastFirstPart 53 = .ok (.isub, 1) := by decide +kernel
theorem dX3_leastFirstPart_54 : decode cX3_leastFirstPart 54 = .ok (.istore 8, 2) := by decide +kernel
theorem dX3_leastFirstPart_56 : decode cX3_leastFirstPart 56 = .ok (.aload_n 0, 1) := by decide +kernel
theorem dX3_leastFirstPart_57 : decode cX3_leastFirstPart 57 = .ok (.iload_n 1, 1) := by decide +kernel
theorem dX3_leastFirstPart_58 : decode cX3_leastFirstPart 58 = .ok (.iconst 1, 1) := by decide +kernel
theorem dX3_leastFirstPart_59 : decode cX3_leastFirstPart 59 = .ok (.isub, 1) := by decide +kernel
theorem dX3_leastFirstPart_60 : decode cX3_leastFirstPart 60 = .ok (.iload 8, 2) := by decide +kernel
theorem dX3_leastFirstPart_62 : decode cX3_leastFirstPart 62 = .ok (.invokevirtual 37, 3) := by decide +kernel
theorem dX3_leastFirstPart_65 : decode cX3_leastFirstPart 65 = .ok (.iload 6, 2) := by decide +kernel
theorem dX3_leastFirstPart_67 : decode cX3_leastFirstPart 67 = .ok (.iand, 1) := by decide +kernel
theorem dX3_leastFirstPart_68 : decode cX3_leastFirstPart 68 = .ok (.ifCond .eq 17, 3) := by decide +kernel
theorem dX3_leastFirstPart_71 : decode cX3_leastFirstPart 71 = .ok (.bipush 36, 2) := by decide +kernel
theorem dX3_leastFirstPart_73 : decode cX3_leastFirstPart 73 = .ok (.iload 5, 2) := by decide +kernel
theorem dX3_leastFirstPart_75 : decode cX3_leastFirstPart 75 = .ok (.imul, 1) := by decide +kernel
theorem dX3_leastFirstPart_76 : decode cX3_leastFirstPart 76 = .ok (.aload_n 0, 1) := by decide +kernel
theorem dX3_leastFirstPart_77 : decode cX3_leastFirstPart 77 = .ok (.getfield 15, 3) := by decide +kernel
theorem dX3_leastFirstPart_80 : decode cX3_leastFirstPart 80 = .ok (.iload 7, 2) := by decide +kernel
theorem dX3_leastFirstPart_82 : decode cX3_leastFirstPart 82 = .ok (.iaload, 1) := by decide +kernel
theorem dX3_leastFirstPart_83 : decode cX3_leastFirstPart 83 = .ok (.iadd, 1) := by decide +kernel
theorem dX3_leastFirstPart_84 : decode cX3_leastFirstPart 84 = .ok (.ireturn, 1) := by decide +kernel
theorem dX3_leastFirstPart_85 : decode cX3_leastFirstPart 85 = .ok (.iinc 7 1, 3) := by decide +kernel
theorem dX3_leastFirstPart_88 : decode cX3_leastFirstPart 88 = .ok (.goto (-59), 3) := by decide +kernel
theorem dX3_leastFirstPart_91 : decode cX3_leastFirstPart 91 = .ok (.iinc 5 1, 3) := by decide +kernel
theorem dX3_leastFirstPart_94 : decode cX3_leastFirstPart 94 = .ok (.goto (-83), 3) := by decide +kernel
theorem dX3_leastFirstPart_97 : decode cX3_leastFirstPart 97 = .ok (.iconst 0, 1) := by decide +kernel
theorem dX3_leastFirstPart_98 : decode cX3_leastFirstPart 98 = .ok (.ireturn, 1) := by decide +kernel
theorem dX3_lengthsFor_0 : decode cX3_lengthsFor 0 = .ok (.iload_n 1, 1) := by decide +kernel
theorem dX3_lengthsFor_1 : decode cX3_lengthsFor 1 = .ok (.tableswitch 49 0 2 #[27, 37, 43], 27) := by decide +kernel
theorem dX3_lengthsFor_28 : decode cX3_lengthsFor 28 = .ok (.iload_n 2, 1) := by decide +kernel
theorem dX3_lengthsFor_29 : decode cX3_lengthsFor 29 = .ok (.ifCond .ne 7, 3) := by decide +kernel
theorem dX3_lengthsFor_32 : decode cX3_lengthsFor 32 = .ok (.iconst 1, 1) := by decide +kernel
theorem dX3_lengthsFor_33 : decode cX3_lengthsFor 33 = .ok (.goto 4, 3) := by decide +kernel
theorem dX3_lengthsFor_36 : decode cX3_lengthsFor 36 = .ok (.iconst 0, 1) := by decide +kernel
theorem dX3_lengthsFor_37 : decode cX3_lengthsFor 37 = .ok (.ireturn, 1) := by decide +kernel
theorem dX3_lengthsFor_38 : decode cX3_lengthsFor 38 = .ok (.aload_n 0, 1) := by decide +kernel
theorem dX3_lengthsFor_39 : decode cX3_lengthsFor 39 = .ok (.iload_n 2, 1) := by decide +kernel
theorem dX3_lengthsFor_40 : decode cX3_lengthsFor 40 = .ok (.invokevirtual 61, 3) := by decide +kernel
theorem dX3_lengthsFor_43 : decode cX3_lengthsFor 43 = .ok (.ireturn, 1) := by decide +kernel
theorem dX3_lengthsFor_44 : decode cX3_lengthsFor 44 = .ok (.aload_n 0, 1) := by decide +kernel
theorem dX3_lengthsFor_45 : decode cX3_lengthsFor 45 = .ok (.iload_n 2, 1) := by decide +kernel
theorem dX3_lengthsFor_46 : decode cX3_lengthsFor 46 = .ok (.invokevirtual 64, 3) := by decide +kernel
theorem dX3_lengthsFor_49 : decode cX3_lengthsFor 49 = .ok (.ireturn, 1) := by decide +kernel
theorem dX3_lengthsFor_50 : decode cX3_lengthsFor 50 = .ok (.aload_n 0, 1) := by decide +kernel
theorem dX3_lengthsFor_51 : decode cX3_lengthsFor 51 = .ok (.iload_n 2, 1) := by decide +kernel
theorem dX3_lengthsFor_52 : decode cX3_lengthsFor 52 = .ok (.invokevirtual 67, 3) := by decide +kernel
theorem dX3_lengthsFor_55 : decode cX3_lengthsFor 55 = .ok (.ireturn, 1) := by decide +kernel
theorem dX3_lengthsByOne_0 : decode cX3_lengthsByOne 0 = .ok (.iload_n 1, 1) := by decide +kernel
theorem dX3_lengthsByOne_1 : decode cX3_lengthsByOne 1 = .ok (.invokestatic 70, 3) := by decide +kernel
theorem dX3_lengthsByOne_4 : decode cX3_lengthsByOne 4 = .ok (.istore_n 2, 1) := by decide +kernel
theorem dX3_lengthsByOne_5 : decode cX3_lengthsByOne 5 = .ok (.iload_n 2, 1) := by decide +kernel
theorem dX3_lengthsByOne_6 : decode cX3_lengthsByOne 6 = .ok (.sipush 270, 3) := by decide +kernel
theorem dX3_lengthsByOne_9 : decode cX3_lengthsByOne 9 = .ok (.if_icmp .gt 12, 3) := by decide +kernel
theorem dX3_lengthsByOne_12 : decode cX3_lengthsByOne 12 = .ok (.aload_n 0, 1) := by decide +kernel
theorem dX3_lengthsByOne_13 : decode cX3_lengthsByOne 13 = .ok (.getfield 18, 3) := by decide +kernel
theorem dX3_lengthsByOne_16 : decode cX3_lengthsByOne 16 = .ok (.iload_n 2, 1) := by decide +kernel
theorem dX3_lengthsByOne_17 : decode cX3_lengthsByOne 17 = .ok (.iaload, 1) := by decide +kernel
theorem dX3_lengthsByOne_18 : decode cX3_lengthsByOne 18 = .ok (.goto 4, 3) := by decide +kernel
theorem dX3_lengthsByOne_21 : decode cX3_lengthsByOne 21 = .ok (.iconst 0, 1) := by decide +kernel
theorem dX3_lengthsByOne_22 : decode cX3_lengthsByOne 22 = .ok (.ireturn, 1) := by decide +kernel
theorem dX3_lengthsByTwo_0 : decode cX3_lengthsByTwo 0 = .ok (.iload_n 1, 1) := by decide +kernel
theorem dX3_lengthsByTwo_1 : decode cX3_lengthsByTwo 1 = .ok (.invokestatic 70, 3) := by decide +kernel
theorem dX3_lengthsByTwo_4 : decode cX3_lengthsByTwo 4 = .ok (.istore_n 2, 1) := by decide +kernel
theorem dX3_lengthsByTwo_5 : decode cX3_lengthsByTwo 5 = .ok (.iload_n 2, 1) := by decide +kernel
theorem dX3_lengthsByTwo_6 : decode cX3_lengthsByTwo 6 = .ok (.sipush 540, 3) := by decide +kernel
theorem dX3_lengthsByTwo_9 : decode cX3_lengthsByTwo 9 = .ok (.if_icmp .gt 12, 3) := by decide +kernel
theorem dX3_lengthsByTwo_12 : decode cX3_lengthsByTwo 12 = .ok (.aload_n 0, 1) := by decide +kernel
theorem dX3_lengthsByTwo_13 : decode cX3_lengthsByTwo 13 = .ok (.getfield 21, 3) := by decide +kernel
theorem dX3_lengthsByTwo_16 : decode cX3_lengthsByTwo 16 = .ok (.iload_n 2, 1) := by decide +kernel
theorem dX3_lengthsByTwo_17 : decode cX3_lengthsByTwo 17 = .ok (.iaload, 1) := by decide +kernel
theorem dX3_lengthsByTwo_18 : decode cX3_lengthsByTwo 18 = .ok (.goto 4, 3) := by decide +kernel
theorem dX3_lengthsByTwo_21 : decode cX3_lengthsByTwo 21 = .ok (.iconst 0, 1) := by decide +kernel
theorem dX3_lengthsByTwo_22 : decode cX3_lengthsByTwo 22 = .ok (.ireturn, 1) := by decide +kernel
theorem dX3_lengthsByThree_0 : decode cX3_lengthsByThree 0 = .ok (.iconst 0, 1) := by decide +kernel
theorem dX3_lengthsByThree_1 : decode cX3_lengthsByThree 1 = .ok (.istore_n 2, 1) := by decide +kernel
theorem dX3_lengthsByThree_2 : decode cX3_lengthsByThree 2 = .ok (.iconst 1, 1) := by decide +kernel
theorem dX3_lengthsByThree_3 : decode cX3_lengthsByThree 3 = .ok (.istore_n 3, 1) := by decide +kernel
theorem dX3_lengthsByThree_4 : decode cX3_lengthsByThree 4 = .ok (.iload_n 3, 1) := by decide +kernel
theorem dX3_lengthsByThree_5 : decode cX3_lengthsByThree 5 = .ok (.bipush 9, 2) := by decide +kernel
theorem dX3_lengthsByThree_7 : decode cX3_lengthsByThree 7 = .ok (.if_icmp .gt 51, 3) := by decide +kernel
theorem dX3_lengthsByThree_10 : decode cX3_lengthsByThree 10 = .ok (.iconst 0, 1) := by decide +kernel
theorem dX3_lengthsByThree_11 : decode cX3_lengthsByThree 11 = .ok (.istore 4, 2) := by decide +kernel
theorem dX3_lengthsByThree_13 : decode cX3_lengthsByThree 13 = .ok (.iload 4, 2) := by decide +kernel
theorem dX3_lengthsByThree_15 : decode cX3_lengthsByThree 15 = .ok (.aload_n 0, 1) := by decide +kernel
theorem dX3_lengthsByThree_16 : decode cX3_lengthsByThree 16 = .ok (.getfield 57, 3) := by decide +kernel
theorem dX3_lengthsByThree_19 : decode cX3_lengthsByThree 19 = .ok (.if_icmp .ge 33, 3) := by decide +kernel
theorem dX3_lengthsByThree_22 : decode cX3_lengthsByThree 22 = .ok (.iload_n 2, 1) := by decide +kernel
theorem dX3_lengthsByThree_23 : decode cX3_lengthsByThree 23 = .ok (.aload_n 0, 1) := by decide +kernel
theorem dX3_lengthsByThree_24 : decode cX3_lengthsByThree 24 = .ok (.iload_n 1, 1) := by decide +kernel
theorem dX3_lengthsByThree_25 : decode cX3_lengthsByThree 25 = .ok (.iload_n 3, 1) := by decide +kernel
theorem dX3_lengthsByThree_26 : decode cX3_lengthsByThree 26 = .ok (.aload_n 0, 1) := by decide +kernel
theorem dX3_lengthsByThree_27 : decode cX3_lengthsByThree 27 = .ok (.aload_n 0, 1) := by decide +kernel
theorem dX3_lengthsByThree_28 : decode cX3_lengthsByThree 28 = .ok (.getfield 15, 3) := by decide +kernel
theorem dX3_lengthsByThree_31 : decode cX3_lengthsByThree 31 = .ok (.iload 4, 2) := by decide +kernel
theorem dX3_lengthsByThree_33 : decode cX3_lengthsByThree 33 = .ok (.iaload, 1) := by decide +kernel
theorem dX3_lengthsByThree_34 : decode cX3_lengthsByThree 34 = .ok (.invokevirtual 49, 3) := by decide +kernel
theorem dX3_lengthsByThree_37 : decode cX3_lengthsByThree 37 = .ok (.imul, 1) := by decide +kernel
theorem dX3_lengthsByThree_38 : decode cX3_lengthsByThree 38 = .ok (.isub, 1) := by decide +kernel
theorem dX3_lengthsByThree_39 : decode cX3_lengthsByThree 39 = .ok (.invokevirtual 64, 3) := by decide +kernel
theorem dX3_lengthsByThree_42 : decode cX3_lengthsByThree 42 = .ok (.iload_n 3, 1) := by decide +kernel
theorem dX3_lengthsByThree_43 : decode cX3_lengthsByThree 43 = .ok (.ishl, 1) := by decide +kernel
theorem dX3_lengthsByThree_44 : decode cX3_lengthsByThree 44 = .ok (.ior, 1) := by decide +kernel
theorem dX3_lengthsByThree_45 : decode cX3_lengthsByThree 45 = .ok (.istore_n 2, 1) := by decide +kernel
theorem dX3_lengthsByThree_46 : decode cX3_lengthsByThree 46 = .ok (.iinc 4 1, 3) := by decide +kernel
theorem dX3_lengthsByThree_49 : decode cX3_lengthsByThree 49 = .ok (.goto (-36), 3) := by decide +kernel
theorem dX3_lengthsByThree_52 : decode cX3_lengthsByThree 52 = .ok (.iinc 3 1, 3) := by decide +kernel
theorem dX3_lengthsByThree_55 : decode cX3_lengthsByThree 55 = .ok (.goto (-51), 3) := by decide +kernel
theorem dX3_lengthsByThree_58 : decode cX3_lengthsByThree 58 = .ok (.iload_n 2, 1) := by decide +kernel
theorem dX3_lengthsByThree_59 : decode cX3_lengthsByThree 59 = .ok (.ireturn, 1) := by decide +kernel
theorem dX3_leastLength_0 : decode cX3_leastLength 0 = .ok (.iconst 0, 1) := by decide +kernel
theorem dX3_leastLength_1 : decode cX3_leastLength 1 = .ok (.istore_n 1, 1) := by decide +kernel
theorem dX3_leastLength_2 : decode cX3_leastLength 2 = .ok (.iload_n 1, 1) := by decide +kernel
theorem dX3_leastLength_3 : decode cX3_leastLength 3 = .ok (.bipush 27, 2) := by decide +kernel
theorem dX3_leastLength_5 : decode cX3_leastLength 5 = .ok (.if_icmp .ge 17, 3) := by decide +kernel
theorem dX3_leastLength_8 : decode cX3_leastLength 8 = .ok (.iload_n 0, 1) := by decide +kernel
theorem dX3_leastLength_9 : decode cX3_leastLength 9 = .ok (.iload_n 1, 1) := by decide +kernel
theorem dX3_leastLength_10 : decode cX3_leastLength 10 = .ok (.ishr, 1) := by decide +kernel
theorem dX3_leastLength_11 : decode cX3_leastLength 11 = .ok (.iconst 1, 1) := by decide +kernel
theorem dX3_leastLength_12 : decode cX3_leastLength 12 = .ok (.iand, 1) := by decide +kernel
theorem dX3_leastLength_13 : decode cX3_leastLength 13 = .ok (.ifCond .ne 9, 3) := by decide +kernel
theorem dX3_leastLength_16 : decode cX3_leastLength 16 = .ok (.iinc 1 1, 3) := by decide +kernel
theorem dX3_leastLength_19 : decode cX3_leastLength 19 = .ok (.goto (-17), 3) := by decide +kernel
theorem dX3_leastLength_22 : decode cX3_leastLength 22 = .ok (.iload_n 1, 1) := by decide +kernel
theorem dX3_leastLength_23 : decode cX3_leastLength 23 = .ok (.ireturn, 1) := by decide +kernel
theorem dX3_difference_0 : decode cX3_difference 0 = .ok (.aload_n 0, 1) := by decide +kernel
theorem dX3_difference_1 : decode cX3_difference 1 = .ok (.getfield 11, 3) := by decide +kernel
theorem dX3_difference_4 : decode cX3_difference 4 = .ok (.iload_n 1, 1) := by decide +kernel
theorem dX3_difference_5 : decode cX3_difference 5 = .ok (.bipush 6, 2) := by decide +kernel
theorem dX3_difference_7 : decode cX3_difference 7 = .ok (.idiv, 1) := by decide +kernel
theorem dX3_difference_8 : decode cX3_difference 8 = .ok (.iaload, 1) := by decide +kernel
theorem dX3_difference_9 : decode cX3_difference 9 = .ok (.aload_n 0, 1) := by decide +kernel
theorem dX3_difference_10 : decode cX3_difference 10 = .ok (.getfield 11, 3) := by decide +kernel
theorem dX3_difference_13 : decode cX3_difference 13 = .ok (.iload_n 1, 1) := by decide +kernel
theorem dX3_difference_14 : decode cX3_difference 14 = .ok (.bipush 6, 2) := by decide +kernel
theorem dX3_difference_16 : decode cX3_difference 16 = .ok (.irem, 1) := by decide +kernel
theorem dX3_difference_17 : decode cX3_difference 17 = .ok (.iaload, 1) := by decide +kernel
theorem dX3_difference_18 : decode cX3_difference 18 = .ok (.isub, 1) := by decide +kernel
theorem dX3_difference_19 : decode cX3_difference 19 = .ok (.ireturn, 1) := by decide +kernel
theorem dX3_collectPairs_0 : decode cX3_collectPairs 0 = .ok (.aload_n 0, 1) := by decide +kernel
theorem dX3_collectPairs_1 : decode cX3_collectPairs 1 = .ok (.iconst 0, 1) := by decide +kernel
theorem dX3_collectPairs_2 : decode cX3_collectPairs 2 = .ok (.putfield 57, 3) := by decide +kernel
theorem dX3_collectPairs_5 : decode cX3_collectPairs 5 = .ok (.iconst 0, 1) := by decide +kernel
theorem dX3_collectPairs_6 : decode cX3_collectPairs 6 = .ok (.istore_n 1, 1) := by decide +kernel
theorem dX3_collectPairs_7 : decode cX3_collectPairs 7 = .ok (.iload_n 1, 1) := by decide +kernel
theorem dX3_collectPairs_8 : decode cX3_collectPairs 8 = .ok (.bipush 36, 2) := by decide +kernel
theorem dX3_collectPairs_10 : decode cX3_collectPairs 10 = .ok (.if_icmp .ge 79, 3) := by decide +kernel
theorem dX3_collectPairs_13 : decode cX3_collectPairs 13 = .ok (.iconst 1, 1) := by decide +kernel
theorem dX3_collectPairs_14 : decode cX3_collectPairs 14 = .ok (.istore_n 2, 1) := by decide +kernel
theorem dX3_collectPairs_15 : decode cX3_collectPairs 15 = .ok (.iconst 0, 1) := by decide +kernel
theorem dX3_collectPairs_16 : decode cX3_collectPairs 16 = .ok (.istore_n 3, 1) := by decide +kernel
theorem dX3_collectPairs_17 : decode cX3_collectPairs 17 = .ok (.iload_n 3, 1) := by decide +kernel
theorem dX3_collectPairs_18 : decode cX3_collectPairs 18 = .ok (.aload_n 0, 1) := by decide +kernel
theorem dX3_collectPairs_19 : decode cX3_collectPairs 19 = .ok (.getfield 57, 3) := by decide +kernel
theorem dX3_collectPairs_22 : decode cX3_collectPairs 22 = .ok (.if_icmp .ge 37, 3) := by decide +kernel
theorem dX3_collectPairs_25 : decode cX3_collectPairs 25 = .ok (.iload_n 2, 1) := by decide +kernel
theorem dX3_collectPairs_26 : decode cX3_collectPairs 26 = .ok (.ifCond .eq 33, 3) := by decide +kernel
theorem dX3_collectPairs_29 : decode cX3_collectPairs 29 = .ok (.aload_n 0, 1) := by decide +kernel
theorem dX3_collectPairs_30 : decode cX3_collectPairs 30 = .ok (.aload_n 0, 1) := by decide +kernel
theorem dX3_collectPairs_31 : decode cX3_collectPairs 31 = .ok (.getfield 15, 3) := by decide +kernel
theorem dX3_collectPairs_34 : decode cX3_collectPairs 34 = .ok (.iload_n 3, 1) := by decide +kernel
theorem dX3_collectPairs_35 : decode cX3_collectPairs 35 = .ok (.iaload, 1) := by decide +kernel
theorem dX3_collectPairs_36 : decode cX3_collectPairs 36 = .ok (.invokevirtual 49, 3) := by decide +kernel
theorem dX3_collectPairs_39 : decode cX3_collectPairs 39 = .ok (.aload_n 0, 1) := by decide +kernel
theorem dX3_collectPairs_40 : decode cX3_collectPairs 40 = .ok (.iload_n 1, 1) := by decide +kernel
theorem dX3_collectPairs_41 : decode cX3_collectPairs 41 = .ok (.invokevirtual 49, 3) := by decide +kernel
theorem dX3_collectPairs_44 : decode cX3_collectPairs 44 = .ok (.if_icmp .eq 7, 3) := by decide +kernel
theorem dX3_collectPairs_47 : decode cX3_collectPairs 47 = .ok (.iconst 1, 1) := by decide +kernel
theorem dX3_collectPairs_48 : decode cX3_collectPairs 48 = .ok (.goto 4, 3) := by decide +kernel
theorem dX3_collectPairs_51 : decode cX3_collectPairs 51 = .ok (.iconst 0, 1) := by decide +kernel
theorem dX3_collectPairs_52 : decode cX3_collectPairs 52 = .ok (.istore_n 2, 1) := by decide +kernel
theorem dX3_collectPairs_53 : decode cX3_collectPairs 53 = .ok (.iinc 3 1, 3) := by decide +kernel
theorem dX3_collectPairs_56 : decode cX3_collectPairs 56 = .ok (.goto (-39), 3) := by decide +kernel
theorem dX3_collectPairs_59 : decode cX3_collectPairs 59 = .ok (.iload_n 2, 1) := by decide +kernel
theorem dX3_collectPairs_60 : decode cX3_collectPairs 60 = .ok (.ifCond .eq 23, 3) := by decide +kernel
theorem dX3_collectPairs_63 : decode cX3_collectPairs 63 = .ok (.aload_n 0, 1) := by decide +kernel
theorem dX3_collectPairs_64 : decode cX3_collectPairs 64 = .ok (.getfield 15, 3) := by decide +kernel
theorem dX3_collectPairs_67 : decode cX3_collectPairs 67 = .ok (.aload_n 0, 1) := by decide +kernel
theorem dX3_collectPairs_68 : decode cX3_collectPairs 68 = .ok (.getfield 57, 3) := by decide +kernel
theorem dX3_collectPairs_71 : decode cX3_collectPairs 71 = .ok (.iload_n 1, 1) := by decide +kernel
theorem dX3_collectPairs_72 : decode cX3_collectPairs 72 = .ok (.iastore, 1) := by decide +kernel
theorem dX3_collectPairs_73 : decode cX3_collectPairs 73 = .ok (.aload_n 0, 1) := by decide +kernel
theorem dX3_collectPairs_74 : decode cX3_collectPairs 74 = .ok (.dup, 1) := by decide +kernel
theorem dX3_collectPairs_75 : decode cX3_collectPairs 75 = .ok (.getfield 57, 3) := by decide +kernel
theorem dX3_collectPairs_78 : decode cX3_collectPairs 78 = .ok (.iconst 1, 1) := by decide +kernel
theorem dX3_collectPairs_79 : decode cX3_collectPairs 79 = .ok (.iadd, 1) := by decide +kernel
theorem dX3_collectPairs_80 : decode cX3_collectPairs 80 = .ok (.putfield 57, 3) := by decide +kernel
theorem dX3_collectPairs_83 : decode cX3_collectPairs 83 = .ok (.iinc 1 1, 3) := by decide +kernel
theorem dX3_collectPairs_86 : decode cX3_collectPairs 86 = .ok (.goto (-79), 3) := by decide +kernel
theorem dX3_collectPairs_89 : decode cX3_collectPairs 89 = .ok (.return_, 1) := by decide +kernel
theorem dX3_fillByOne_0 : decode cX3_fillByOne 0 = .ok (.aload_n 0, 1) := by decide +kernel
theorem dX3_fillByOne_1 : decode cX3_fillByOne 1 = .ok (.getfield 18, 3) := by decide +kernel
theorem dX3_fillByOne_4 : decode cX3_fillByOne 4 = .ok (.iconst 0, 1) := by decide +kernel
theorem dX3_fillByOne_5 : decode cX3_fillByOne 5 = .ok (.invokestatic 73, 3) := by decide +kernel
theorem dX3_fillByOne_8 : decode cX3_fillByOne 8 = .ok (.iconst 0, 1) := by decide +kernel
theorem dX3_fillByOne_9 : decode cX3_fillByOne 9 = .ok (.istore_n 1, 1) := by decide +kernel
theorem dX3_fillByOne_10 : decode cX3_fillByOne 10 = .ok (.iload_n 1, 1) := by decide +kernel
theorem dX3_fillByOne_11 : decode cX3_fillByOne 11 = .ok (.aload_n 0, 1) := by decide +kernel
theorem dX3_fillByOne_12 : decode cX3_fillByOne 12 = .ok (.getfield 57, 3) := by decide +kernel
theorem dX3_fillByOne_15 : decode cX3_fillByOne 15 = .ok (.if_icmp .ge 51, 3) := by decide +kernel
theorem dX3_fillByOne_18 : decode cX3_fillByOne 18 = .ok (.aload_n 0, 1) := by decide +kernel
theorem dX3_fillByOne_19 : decode cX3_fillByOne 19 = .ok (.aload_n 0, 1) := by decide +kernel
theorem dX3_fillByOne_20 : decode cX3_fillByOne 20 = .ok (.getfield 15, 3) := by decide +kernel
theorem dX3_fillByOne_23 : decode cX3_fillByOne 23 = .ok (.iload_n 1, 1) := by decide +kernel
theorem dX3_fillByOne_24 : decode cX3_fillByOne 24 = .ok (.iaload, 1) := by decide +kernel
theorem dX3_fillByOne_25 : decode cX3_fillByOne 25 = .ok (.invokevirtual 49, 3) := by decide +kernel
theorem dX3_fillByOne_28 : decode cX3_fillByOne 28 = .ok (.invokestatic 70, 3) := by decide +kernel
theorem dX3_fillByOne_31 : decode cX3_fillByOne 31 = .ok (.istore_n 2, 1) := by decide +kernel
theorem dX3_fillByOne_32 : decode cX3_fillByOne 32 = .ok (.iconst 1, 1) := by decide +kernel
theorem dX3_fillByOne_33 : decode cX3_fillByOne 33 = .ok (.istore_n 3, 1) := by decide +kernel
theorem dX3_fillByOne_34 : decode cX3_fillByOne 34 = .ok (.iload_n 3, 1) := by decide +kernel
theorem dX3_fillByOne_35 : decode cX3_fillByOne 35 = .ok (.bipush 9, 2) := by decide +kernel
theorem dX3_fillByOne_37 : decode cX3_fillByOne 37 = .ok (.if_icmp .gt 23, 3) := by decide +kernel
theorem dX3_fillByOne_40 : decode cX3_fillByOne 40 = .ok (.aload_n 0, 1) := by decide +kernel
theorem dX3_fillByOne_41 : decode cX3_fillByOne 41 = .ok (.getfield 18, 3) := by decide +kernel
theorem dX3_fillByOne_44 : decode cX3_fillByOne 44 = .ok (.iload_n 3, 1) := by decide +kernel
theorem dX3_fillByOne_45 : decode cX3_fillByOne 45 = .ok (.iload_n 2, 1) := by decide +kernel
theorem dX3_fillByOne_46 : decode cX3_fillByOne 46 = .ok (.imul, 1) := by decide +kernel
theorem dX3_fillByOne_47 : decode cX3_fillByOne 47 = .ok (.dup2, 1) := by decide +kernel
theorem dX3_fillByOne_48 : decode cX3_fillByOne 48 = .ok (.iaload, 1) := by decide +kernel
theorem dX3_fillByOne_49 : decode cX3_fillByOne 49 = .ok (.iconst 1, 1) := by decide +kernel
theorem dX3_fillByOne_50 : decode cX3_fillByOne 50 = .ok (.iload_n 3, 1) := by decide +kernel
theorem dX3_fillByOne_51 : decode cX3_fillByOne 51 = .ok (.ishl, 1) := by decide +kernel
theorem dX3_fillByOne_52 : decode cX3_fillByOne 52 = .ok (.ior, 1) := by decide +kernel
theorem dX3_fillByOne_53 : decode cX3_fillByOne 53 = .ok (.iastore, 1) := by decide +kernel
theorem dX3_fillByOne_54 : decode cX3_fillByOne 54 = .ok (.iinc 3 1, 3) := by decide +kernel
theorem dX3_fillByOne_57 : decode cX3_fillByOne 57 = .ok (.goto (-23), 3) := by decide +kernel
theorem dX3_fillByOne_60 : decode cX3_fillByOne 60 = .ok (.iinc 1 1, 3) := by decide +kernel
theorem dX3_fillByOne_63 : decode cX3_fillByOne 63 = .ok (.goto (-53), 3) := by decide +kernel
theorem dX3_fillByOne_66 : decode cX3_fillByOne 66 = .ok (.return_, 1) := by decide +kernel
theorem dX3_fillByTwo_0 : decode cX3_fillByTwo 0 = .ok (.aload_n 0, 1) := by decide +kernel
theorem dX3_fillByTwo_1 : decode cX3_fillByTwo 1 = .ok (.getfield 21, 3) := by decide +kernel
theorem dX3_fillByTwo_4 : decode cX3_fillByTwo 4 = .ok (.iconst 0, 1) := by decide +kernel
theorem dX3_fillByTwo_5 : decode cX3_fillByTwo 5 = .ok (.invokestatic 73, 3) := by decide +kernel
theorem dX3_fillByTwo_8 : decode cX3_fillByTwo 8 = .ok (.iconst 0, 1) := by decide +kernel
theorem dX3_fillByTwo_9 : decode cX3_fillByTwo 9 = .ok (.istore_n 1, 1) := by decide +kernel
theorem dX3_fillByTwo_10 : decode cX3_fillByTwo 10 = .ok (.iload_n 1, 1) := by decide +kernel
theorem dX3_fillByTwo_11 : decode cX3_fillByTwo 11 = .ok (.sipush 270, 3) := by decide +kernel
theorem dX3_fillByTwo_14 : decode cX3_fillByTwo 14 = .ok (.if_icmp .gt 29, 3) := by decide +kernel
theorem dX3_fillByTwo_17 : decode cX3_fillByTwo 17 = .ok (.aload_n 0, 1) := by decide +kernel
theorem dX3_fillByTwo_18 : decode cX3_fillByTwo 18 = .ok (.getfield 18, 3) := by decide +kernel
theorem dX3_fillByTwo_21 : decode cX3_fillByTwo 21 = .ok (.iload_n 1, 1) := by decide +kernel
theorem dX3_fillByTwo_22 : decode cX3_fillByTwo 22 = .ok (.iaload, 1) := by decide +kernel
theorem dX3_fillByTwo_23 : decode cX3_fillByTwo 23 = .ok (.ifCond .eq 14, 3) := by decide +kernel
theorem dX3_fillByTwo_26 : decode cX3_fillByTwo 26 = .ok (.aload_n 0, 1) := by decide +kernel
theorem dX3_fillByTwo_27 : decode cX3_fillByTwo 27 = .ok (.iload_n 1, 1) := by decide +kernel
theorem dX3_fillByTwo_28 : decode cX3_fillByTwo 28 = .ok (.aload_n 0, 1) := by decide +kernel
theorem dX3_fillByTwo_29 : decode cX3_fillByTwo 29 = .ok (.getfield 18, 3) := by decide +kernel
theorem dX3_fillByTwo_32 : decode cX3_fillByTwo 32 = .ok (.iload_n 1, 1) := by decide +kernel
theorem dX3_fillByTwo_33 : decode cX3_fillByTwo 33 = .ok (.iaload, 1) := by decide +kernel
theorem dX3_fillByTwo_34 : decode cX3_fillByTwo 34 = .ok (.invokevirtual 79, 3) := by decide +kernel
theorem dX3_fillByTwo_37 : decode cX3_fillByTwo 37 = .ok (.iinc 1 1, 3) := by decide +kernel
theorem dX3_fillByTwo_40 : decode cX3_fillByTwo 40 = .ok (.goto (-30), 3) := by decide +kernel
theorem dX3_fillByTwo_43 : decode cX3_fillByTwo 43 = .ok (.return_, 1) := by decide +kernel
theorem dX3_addToByTwo_0 : decode cX3_addToByTwo 0 = .ok (.iconst 0, 1) := by decide +kernel
theorem dX3_addToByTwo_1 : decode cX3_addToByTwo 1 = .ok (.istore_n 3, 1) := by decide +kernel
theorem dX3_addToByTwo_2 : decode cX3_addToByTwo 2 = .ok (.iload_n 3, 1) := by decide +kernel
theorem dX3_addToByTwo_3 : decode cX3_addToByTwo 3 = .ok (.aload_n 0, 1) := by decide +kernel
theorem dX3_addToByTwo_4 : decode cX3_addToByTwo 4 = .ok (.getfield 57, 3) := by decide +kernel
theorem dX3_addToByTwo_7 : decode cX3_addToByTwo 7 = .ok (.if_icmp .ge 61, 3) := by decide +kernel
theorem dX3_addToByTwo_10 : decode cX3_addToByTwo 10 = .ok (.iconst 1, 1) := by decide +kernel
theorem dX3_addToByTwo_11 : decode cX3_addToByTwo 11 = .ok (.istore 4, 2) := by decide +kernel
theorem dX3_addToByTwo_13 : decode cX3_addToByTwo 13 = .ok (.iload 4, 2) := by decide +kernel
theorem dX3_addToByTwo_15 : decode cX3_addToByTwo 15 = .ok (.bipush 9, 2) := by decide +kernel
theorem dX3_addToByTwo_17 : decode cX3_addToByTwo 17 = .ok (.if_icmp .gt 45, 3) := by decide +kernel
theorem dX3_addToByTwo_20 : decode cX3_addToByTwo 20 = .ok (.iload_n 1, 1) := by decide +kernel
theorem dX3_addToByTwo_21 : decode cX3_addToByTwo 21 = .ok (.iload 4, 2) := by decide +kernel
theorem dX3_addToByTwo_23 : decode cX3_addToByTwo 23 = .ok (.aload_n 0, 1) := by decide +kernel
theorem dX3_addToByTwo_24 : decode cX3_addToByTwo 24 = .ok (.aload_n 0, 1) := by decide +kernel
theorem dX3_addToByTwo_25 : decode cX3_addToByTwo 25 = .ok (.getfield 15, 3) := by decide +kernel
theorem dX3_addToByTwo_28 : decode cX3_addToByTwo 28 = .ok (.iload_n 3, 1) := by decide +kernel
theorem dX3_addToByTwo_29 : decode cX3_addToByTwo 29 = .ok (.iaload, 1) := by decide +kernel
theorem dX3_addToByTwo_30 : decode cX3_addToByTwo 30 = .ok (.invokevirtual 49, 3) := by decide +kernel
theorem dX3_addToByTwo_33 : decode cX3_addToByTwo 33 = .ok (.imul, 1) := by decide +kernel
theorem dX3_addToByTwo_34 : decode cX3_addToByTwo 34 = .ok (.iadd, 1) := by decide +kernel
theorem dX3_addToByTwo_35 : decode cX3_addToByTwo 35 = .ok (.istore 5, 2) := by decide +kernel
theorem dX3_addToByTwo_37 : decode cX3_addToByTwo 37 = .ok (.iload 5, 2) := by decide +kernel
theorem dX3_addToByTwo_39 : decode cX3_addToByTwo 39 = .ok (.ifCond .lt 17, 3) := by decide +kernel
theorem dX3_addToByTwo_42 : decode cX3_addToByTwo 42 = .ok (.aload_n 0, 1) := by decide +kernel
theorem dX3_addToByTwo_43 : decode cX3_addToByTwo 43 = .ok (.getfield 21, 3) := by decide +kernel
theorem dX3_addToByTwo_46 : decode cX3_addToByTwo 46 = .ok (.iload 5, 2) := by decide +kernel
theorem dX3_addToByTwo_48 : decode cX3_addToByTwo 48 = .ok (.dup2, 1) := by decide +kernel
theorem dX3_addToByTwo_49 : decode cX3_addToByTwo 49 = .ok (.iaload, 1) := by decide +kernel
theorem dX3_addToByTwo_50 : decode cX3_addToByTwo 50 = .ok (.iload_n 2, 1) := by decide +kernel
theorem dX3_addToByTwo_51 : decode cX3_addToByTwo 51 = .ok (.iload 4, 2) := by decide +kernel
theorem dX3_addToByTwo_53 : decode cX3_addToByTwo 53 = .ok (.ishl, 1) := by decide +kernel
theorem dX3_addToByTwo_54 : decode cX3_addToByTwo 54 = .ok (.ior, 1) := by decide +kernel
theorem dX3_addToByTwo_55 : decode cX3_addToByTwo 55 = .ok (.iastore, 1) := by decide +kernel
theorem dX3_addToByTwo_56 : decode cX3_addToByTwo 56 = .ok (.iinc 4 1, 3) := by decide +kernel
theorem dX3_addToByTwo_59 : decode cX3_addToByTwo 59 = .ok (.goto (-46), 3) := by decide +kernel
theorem dX3_addToByTwo_62 : decode cX3_addToByTwo 62 = .ok (.iinc 3 1, 3) := by decide +kernel
theorem dX3_addToByTwo_65 : decode cX3_addToByTwo 65 = .ok (.goto (-63), 3) := by decide +kernel
theorem dX3_addToByTwo_68 : decode cX3_addToByTwo 68 = .ok (.return_, 1) := by decide +kernel
theorem dX4_init_0 : decode cX4_init 0 = .ok (.aload_n 0, 1) := by decide +kernel
theorem dX4_init_1 : decode cX4_init 1 = .ok (.invokespecial 3, 3) := by decide +kernel
theorem dX4_init_4 : decode cX4_init 4 = .ok (.aload_n 0, 1) := by decide +kernel
theorem dX4_init_5 : decode cX4_init 5 = .ok (.bipush 6, 2) := by decide +kernel
theorem dX4_init_7 : decode cX4_init 7 = .ok (.newarray .int, 2) := by decide +kernel
theorem dX4_init_9 : decode cX4_init 9 = .ok (.putfield 9, 3) := by decide +kernel
theorem dX4_init_12 : decode cX4_init 12 = .ok (.iconst 0, 1) := by decide +kernel
theorem dX4_init_13 : decode cX4_init 13 = .ok (.istore_n 1, 1) := by decide +kernel
theorem dX4_init_14 : decode cX4_init 14 = .ok (.iload_n 1, 1) := by decide +kernel
theorem dX4_init_15 : decode cX4_init 15 = .ok (.bipush 6, 2) := by decide +kernel
theorem dX4_init_17 : decode cX4_init 17 = .ok (.if_icmp .ge 18, 3) := by decide +kernel
theorem dX4_init_20 : decode cX4_init 20 = .ok (.aload_n 0, 1) := by decide +kernel
theorem dX4_init_21 : decode cX4_init 21 = .ok (.getfield 9, 3) := by decide +kernel
theorem dX4_init_24 : decode cX4_init 24 = .ok (.iload_n 1, 1) := by decide +kernel
theorem dX4_init_25 : decode cX4_init 25 = .ok (.iconst 5, 1) := by decide +kernel
theorem dX4_init_26 : decode cX4_init 26 = .ok (.iload_n 1, 1) := by decide +kernel
theorem dX4_init_27 : decode cX4_init 27 = .ok (.imul, 1) := by decide +kernel
theorem dX4_init_28 : decode cX4_init 28 = .ok (.iastore, 1) := by decide +kernel
theorem dX4_init_29 : decode cX4_init 29 = .ok (.iinc 1 1, 3) := by decide +kernel
theorem dX4_init_32 : decode cX4_init 32 = .ok (.goto (-18), 3) := by decide +kernel
theorem dX4_init_35 : decode cX4_init 35 = .ok (.aload_n 0, 1) := by decide +kernel
theorem dX4_init_36 : decode cX4_init 36 = .ok (.iconst 2, 1) := by decide +kernel
theorem dX4_init_37 : decode cX4_init 37 = .ok (.newarray .int, 2) := by decide +kernel
theorem dX4_init_39 : decode cX4_init 39 = .ok (.putfield 15, 3) := by decide +kernel
theorem dX4_init_42 : decode cX4_init 42 = .ok (.aload_n 0, 1) := by decide +kernel
theorem dX4_init_43 : decode cX4_init 43 = .ok (.getfield 15, 3) := by decide +kernel
theorem dX4_init_46 : decode cX4_init 46 = .ok (.iconst 1, 1) := by decide +kernel
theorem dX4_init_47 : decode cX4_init 47 = .ok (.bipush 50, 2) := by decide +kernel
theorem dX4_init_49 : decode cX4_init 49 = .ok (.iastore, 1) := by decide +kernel
theorem dX4_init_50 : decode cX4_init 50 = .ok (.aload_n 0, 1) := by decide +kernel
theorem dX4_init_51 : decode cX4_init 51 = .ok (.iconst 3, 1) := by decide +kernel
theorem dX4_init_52 : decode cX4_init 52 = .ok (.anewarray 18, 3) := by decide +kernel
theorem dX4_init_55 : decode cX4_init 55 = .ok (.putfield 20, 3) := by decide +kernel
theorem dX4_init_58 : decode cX4_init 58 = .ok (.aload_n 0, 1) := by decide +kernel
theorem dX4_init_59 : decode cX4_init 59 = .ok (.iconst 3, 1) := by decide +kernel
theorem dX4_init_60 : decode cX4_init 60 = .ok (.anewarray 24, 3) := by decide +kernel
theorem dX4_init_63 : decode cX4_init 63 = .ok (.putfield 26, 3) := by decide +kernel
theorem dX4_init_66 : decode cX4_init 66 = .ok (.iconst 0, 1) := by decide +kernel
theorem dX4_init_67 : decode cX4_init 67 = .ok (.istore_n 1, 1) := by decide +kernel
theorem dX4_init_68 : decode cX4_init 68 = .ok (.iload_n 1, 1) := by decide +kernel
theorem dX4_init_69 : decode cX4_init 69 = .ok (.iconst 3, 1) := by decide +kernel
theorem dX4_init_70 : decode cX4_init 70 = .ok (.if_icmp .ge 35, 3) := by decide +kernel
theorem dX4_init_73 : decode cX4_init 73 = .ok (.aload_n 0, 1) := by decide +kernel
theorem dX4_init_74 : decode cX4_init 74 = .ok (.getfield 20, 3) := by decide +kernel
theorem dX4_init_77 : decode cX4_init 77 = .ok (.iload_n 1, 1) := by decide +kernel
theorem dX4_init_78 : decode cX4_init 78 = .ok (.new 18, 3) := by decide +kernel
theorem dX4_init_81 : decode cX4_init 81 = .ok (.dup, 1) := by decide +kernel
theorem dX4_init_82 : decode cX4_init 82 = .ok (.invokespecial 30, 3) := by decide +kernel
theorem dX4_init_85 : decode cX4_init 85 = .ok (.aastore, 1) := by decide +kernel
theorem dX4_init_86 : decode cX4_init 86 = .ok (.aload_n 0, 1) := by decide +kernel
theorem dX4_init_87 : decode cX4_init 87 = .ok (.getfield 26, 3) := by decide +kernel
theorem dX4_init_90 : decode cX4_init 90 = .ok (.iload_n 1, 1) := by decide +kernel
theorem dX4_init_91 : decode cX4_init 91 = .ok (.new 24, 3) := by decide +kernel
theorem dX4_init_94 : decode cX4_init 94 = .ok (.dup, 1) := by decide +kernel
theorem dX4_init_95 : decode cX4_init 95 = .ok (.invokespecial 31, 3) := by decide +kernel
theorem dX4_init_98 : decode cX4_init 98 = .ok (.aastore, 1) := by decide +kernel
theorem dX4_init_99 : decode cX4_init 99 = .ok (.iinc 1 1, 3) := by decide +kernel
theorem dX4_init_102 : decode cX4_init 102 = .ok (.goto (-34), 3) := by decide +kernel
theorem dX4_init_105 : decode cX4_init 105 = .ok (.aload_n 0, 1) := by decide +kernel
theorem dX4_init_106 : decode cX4_init 106 = .ok (.bipush 100, 2) := by decide +kernel
theorem dX4_init_108 : decode cX4_init 108 = .ok (.putfield 32, 3) := by decide +kernel
theorem dX4_init_111 : decode cX4_init 111 = .ok (.aload_n 0, 1) := by decide +kernel
theorem dX4_init_112 : decode cX4_init 112 = .ok (.iconst 3, 1) := by decide +kernel
theorem dX4_init_113 : decode cX4_init 113 = .ok (.newarray .int, 2) := by decide +kernel
theorem dX4_init_115 : decode cX4_init 115 = .ok (.putfield 36, 3) := by decide +kernel
theorem dX4_init_118 : decode cX4_init 118 = .ok (.aload_n 0, 1) := by decide +kernel
theorem dX4_init_119 : decode cX4_init 119 = .ok (.iconst 3, 1) := by decide +kernel
theorem dX4_init_120 : decode cX4_init 120 = .ok (.newarray .int, 2) := by decide +kernel
theorem dX4_init_122 : decode cX4_init 122 = .ok (.putfield 39, 3) := by decide +kernel
theorem dX4_init_125 : decode cX4_init 125 = .ok (.return_, 1) := by decide +kernel
theorem dX4_copyFrom_0 : decode cX4_copyFrom 0 = .ok (.aload_n 1, 1) := by decide +kernel
theorem dX4_copyFrom_1 : decode cX4_copyFrom 1 = .ok (.getfield 9, 3) := by decide +kernel
theorem dX4_copyFrom_4 : decode cX4_copyFrom 4 = .ok (.iconst 0, 1) := by decide +kernel
theorem dX4_copyFrom_5 : decode cX4_copyFrom 5 = .ok (.aload_n 0, 1) := by decide +kernel
theorem dX4_copyFrom_6 : decode cX4_copyFrom 6 = .ok (.getfield 9, 3) := by decide +kernel
theorem dX4_copyFrom_9 : decode cX4_copyFrom 9 = .ok (.iconst 0, 1) := by decide +kernel
theorem dX4_copyFrom_10 : decode cX4_copyFrom 10 = .ok (.bipush 6, 2) := by decide +kernel
theorem dX4_copyFrom_12 : decode cX4_copyFrom 12 = .ok (.invokestatic 42, 3) := by decide +kernel
theorem dX4_copyFrom_15 : decode cX4_copyFrom 15 = .ok (.aload_n 1, 1) := by decide +kernel
theorem dX4_copyFrom_16 : decode cX4_copyFrom 16 = .ok (.getfield 15, 3) := by decide +kernel
theorem dX4_copyFrom_19 : decode cX4_copyFrom 19 = .ok (.iconst 0, 1) := by decide +kernel
theorem dX4_copyFrom_20 : decode cX4_copyFrom 20 = .ok (.aload_n 0, 1) := by decide +kernel
theorem dX4_copyFrom_21 : decode cX4_copyFrom 21 = .ok (.getfield 15, 3) := by decide +kernel
theorem dX4_copyFrom_24 : decode cX4_copyFrom 24 = .ok (.iconst 0, 1) := by decide +kernel
theorem dX4_copyFrom_25 : decode cX4_copyFrom 25 = .ok (.iconst 2, 1) := by decide +kernel
theorem dX4_copyFrom_26 : decode cX4_copyFrom 26 = .ok (.invokestatic 42, 3) := by decide +kernel
theorem dX4_copyFrom_29 : decode cX4_copyFrom 29 = .ok (.iconst 0, 1) := by decide +kernel
theorem dX4_copyFrom_30 : decode cX4_copyFrom 30 = .ok (.istore_n 2, 1) := by decide +kernel
theorem dX4_copyFrom_31 : decode cX4_copyFrom 31 = .ok (.iload_n 2, 1) := by decide +kernel
theorem dX4_copyFrom_32 : decode cX4_copyFrom 32 = .ok (.iconst 3, 1) := by decide +kernel
theorem dX4_copyFrom_33 : decode cX4_copyFrom 33 = .ok (.if_icmp .ge 39, 3) := by decide +kernel
theorem dX4_copyFrom_36 : decode cX4_copyFrom 36 = .ok (.aload_n 0, 1) := by decide +kernel
theorem dX4_copyFrom_37 : decode cX4_copyFrom 37 = .ok (.getfield 20, 3) := by decide +kernel
theorem dX4_copyFrom_40 : decode cX4_copyFrom 40 = .ok (.iload_n 2, 1) := by decide +kernel
theorem dX4_copyFrom_41 : decode cX4_copyFrom 41 = .ok (.aaload, 1) := by decide +kernel
theorem dX4_copyFrom_42 : decode cX4_copyFrom 42 = .ok (.aload_n 1, 1) := by decide +kernel
theorem dX4_copyFrom_43 : decode cX4_copyFrom 43 = .ok (.getfield 20, 3) := by decide +kernel
theorem dX4_copyFrom_46 : decode cX4_copyFrom 46 = .ok (.iload_n 2, 1) := by decide +kernel
theorem dX4_copyFrom_47 : decode cX4_copyFrom 47 = .ok (.aaload, 1) := by decide +kernel
theorem dX4_copyFrom_48 : decode cX4_copyFrom 48 = .ok (.invokevirtual 48, 3) := by decide +kernel
theorem dX4_copyFrom_51 : decode cX4_copyFrom 51 = .ok (.aload_n 0, 1) := by decide +kernel
theorem dX4_copyFrom_52 : decode cX4_copyFrom 52 = .ok (.getfield 26, 3) := by decide +kernel
theorem dX4_copyFrom_55 : decode cX4_copyFrom 55 = .ok (.iload_n 2, 1) := by decide +kernel
theorem dX4_copyFrom_56 : decode cX4_copyFrom 56 = .ok (.aaload, 1) := by decide +kernel
theorem dX4_copyFrom_57 : decode cX4_copyFrom 57 = .ok (.aload_n 1, 1) := by decide +kernel
theorem dX4_copyFrom_58 : decode cX4_copyFrom 58 = .ok (.getfield 26, 3) := by decide +kernel
theorem dX4_copyFrom_61 : decode cX4_copyFrom 61 = .ok (.iload_n 2, 1) := by decide +kernel
theorem dX4_copyFrom_62 : decode cX4_copyFrom 62 = .ok (.aaload, 1) := by decide +kernel
theorem dX4_copyFrom_63 : decode cX4_copyFrom 63 = .ok (.invokevirtual 52, 3) := by decide +kernel
theorem dX4_copyFrom_66 : decode cX4_copyFrom 66 = .ok (.iinc 2 1, 3) := by decide +kernel
theorem dX4_copyFrom_69 : decode cX4_copyFrom 69 = .ok (.goto (-38), 3) := by decide +kernel
theorem dX4_copyFrom_72 : decode cX4_copyFrom 72 = .ok (.aload_n 0, 1) := by decide +kernel
theorem dX4_copyFrom_73 : decode cX4_copyFrom 73 = .ok (.aload_n 1, 1) := by decide +kernel
theorem dX4_copyFrom_74 : decode cX4_copyFrom 74 = .ok (.getfield 32, 3) := by decide +kernel
theorem dX4_copyFrom_77 : decode cX4_copyFrom 77 = .ok (.putfield 32, 3) := by decide +kernel
theorem dX4_copyFrom_80 : decode cX4_copyFrom 80 = .ok (.aload_n 0, 1) := by decide +kernel
theorem dX4_copyFrom_81 : decode cX4_copyFrom 81 = .ok (.aload_n 1, 1) := by decide +kernel
theorem dX4_copyFrom_82 : decode cX4_copyFrom 82 = .ok (.getfield 55, 3) := by decide +kernel
theorem dX4_copyFrom_85 : decode cX4_copyFrom 85 = .ok (.putfield 55, 3) := by decide +kernel
theorem dX4_copyFrom_88 : decode cX4_copyFrom 88 = .ok (.return_, 1) := by decide +kernel
theorem dX4_bendInRoom_0 : decode cX4_bendInRoom 0 = .ok (.aload_n 0, 1) := by decide +kernel
theorem dX4_bendInRoom_1 : decode cX4_bendInRoom 1 = .ok (.getfield 20, 3) := by decide +kernel
theorem dX4_bendInRoom_4 : decode cX4_bendInRoom 4 = .ok (.iload_n 1, 1) := by decide +kernel
theorem dX4_bendInRoom_5 : decode cX4_bendInRoom 5 = .ok (.aaload, 1) := by decide +kernel
theorem dX4_bendInRoom_6 : decode cX4_bendInRoom 6 = .ok (.aload_n 0, 1) := by decide +kernel
theorem dX4_bendInRoom_7 : decode cX4_bendInRoom 7 = .ok (.getfield 9, 3) := by decide +kernel
theorem dX4_bendInRoom_10 : decode cX4_bendInRoom 10 = .ok (.invokevirtual 58, 3) := by decide +kernel
theorem dX4_bendInRoom_13 : decode cX4_bendInRoom 13 = .ok (.aload_n 0, 1) := by decide +kernel
theorem dX4_bendInRoom_14 : decode cX4_bendInRoom 14 = .ok (.getfield 26, 3) := by decide +kernel
theorem dX4_bendInRoom_17 : decode cX4_bendInRoom 17 = .ok (.iload_n 1, 1) := by decide +kernel
theorem dX4_bendInRoom_18 : decode cX4_bendInRoom 18 = .ok (.aaload, 1) := by decide +kernel
theorem dX4_bendInRoom_19 : decode cX4_bendInRoom 19 = .ok (.getfield 62, 3) := by decide +kernel
theorem dX4_bendInRoom_22 : decode cX4_bendInRoom 22 = .ok (.invokestatic 65, 3) := by decide +kernel
theorem dX4_bendInRoom_25 : decode cX4_bendInRoom 25 = .ok (.ireturn, 1) := by decide +kernel
theorem dX4_openings_0 : decode cX4_openings 0 = .ok (.iconst 0, 1) := by decide +kernel
theorem dX4_openings_1 : decode cX4_openings 1 = .ok (.istore_n 1, 1) := by decide +kernel
theorem dX4_openings_2 : decode cX4_openings 2 = .ok (.iconst 0, 1) := by decide +kernel
theorem dX4_openings_3 : decode cX4_openings 3 = .ok (.istore_n 2, 1) := by decide +kernel
theorem dX4_openings_4 : decode cX4_openings 4 = .ok (.iload_n 2, 1) := by decide +kernel
theorem dX4_openings_5 : decode cX4_openings 5 = .ok (.iconst 3, 1) := by decide +kernel
theorem dX4_openings_6 : decode cX4_openings 6 = .ok (.if_icmp .ge 24, 3) := by decide +kernel
theorem dX4_openings_9 : decode cX4_openings 9 = .ok (.iload_n 1, 1) := by decide +kernel
theorem dX4_openings_10 : decode cX4_openings 10 = .ok (.aload_n 0, 1) := by decide +kernel
theorem dX4_openings_11 : decode cX4_openings 11 = .ok (.getfield 26, 3) := by decide +kernel
theorem dX4_openings_14 : decode cX4_openings 14 = .ok (.iload_n 2, 1) := by decide +kernel
theorem dX4_openings_15 : decode cX4_openings 15 = .ok (.aaload, 1) := by decide +kernel
theorem dX4_openings_16 : decode cX4_openings 16 = .ok (.getfield 69, 3) := by decide +kernel
theorem dX4_openings_19 : decode cX4_openings 19 = .ok (.invokestatic 73, 3) := by decide +kernel
theorem dX4_openings_22 : decode cX4_openings 22 = .ok (.iadd, 1) := by decide +kernel
theorem dX4_openings_23 : decode cX4_openings 23 = .ok (.istore_n 1, 1) := by decide +kernel
theorem dX4_openings_24 : decode cX4_openings 24 = .ok (.iinc 2 1, 3) := by decide +kernel
theorem dX4_openings_27 : decode cX4_openings 27 = .ok (.goto (-23), 3) := by decide +kernel
theorem dX4_openings_30 : decode cX4_openings 30 = .ok (.iload_n 1, 1) := by decide +kernel
theorem dX4_openings_31 : decode cX4_openings 31 = .ok (.ireturn, 1) := by decide +kernel
theorem dX4_snaps_0 : decode cX4_snaps 0 = .ok (.iconst 0, 1) := by decide +kernel
theorem dX4_snaps_1 : decode cX4_snaps 1 = .ok (.istore_n 1, 1) := by decide +kernel
theorem dX4_snaps_2 : decode cX4_snaps 2 = .ok (.iconst 0, 1) := by decide +kernel
theorem dX4_snaps_3 : decode cX4_snaps 3 = .ok (.istore_n 2, 1) := by decide +kernel
theorem dX4_snaps_4 : decode cX4_snaps 4 = .ok (.iload_n 2, 1) := by decide +kernel
theorem dX4_snaps_5 : decode cX4_snaps 5 = .ok (.iconst 3, 1) := by decide +kernel
theorem dX4_snaps_6 : decode cX4_snaps 6 = .ok (.if_icmp .ge 21, 3) := by decide +kernel
theorem dX4_snaps_9 : decode cX4_snaps 9 = .ok (.iload_n 1, 1) := by decide +kernel
theorem dX4_snaps_10 : decode cX4_snaps 10 = .ok (.aload_n 0, 1) := by decide +kernel
theorem dX4_snaps_11 : decode cX4_snaps 11 = .ok (.getfield 20, 3) := by decide +kernel
theorem dX4_snaps_14 : decode cX4_snaps 14 = .ok (.iload_n 2, 1) := by decide +kernel
theorem dX4_snaps_15 : decode cX4_snaps 15 = .ok (.aaload, 1) := by decide +kernel
theorem dX4_snaps_16 : decode cX4_snaps 16 = .ok (.getfield 77, 3) := by decide +kernel
theorem dX4_snaps_19 : decode cX4_snaps 19 = .ok (.iadd, 1) := by decide +kernel
theorem dX4_snaps_20 : decode cX4_snaps 20 = .ok (.istore_n 1, 1) := by decide +kernel
theorem dX4_snaps_21 : decode cX4_snaps 21 = .ok (.iinc 2 1, 3) := by decide +kernel
theorem dX4_snaps_24 : decode cX4_snaps 24 = .ok (.goto (-20), 3) := by decide +kernel
theorem dX4_snaps_27 : decode cX4_snaps 27 = .ok (.iload_n 1, 1) := by decide +kernel
theorem dX4_snaps_28 : decode cX4_snaps 28 = .ok (.ireturn, 1) := by decide +kernel
theorem dX4_sumRates_0 : decode cX4_sumRates 0 = .ok (.iconst 0, 1) := by decide +kernel
theorem dX4_sumRates_1 : decode cX4_sumRates 1 = .ok (.istore_n 1, 1) := by decide +kernel
theorem dX4_sumRates_2 : decode cX4_sumRates 2 = .ok (.iload_n 1, 1) := by decide +kernel
theorem dX4_sumRates_3 : decode cX4_sumRates 3 = .ok (.iconst 3, 1) := by decide +kernel
theorem dX4_sumRates_4 : decode cX4_sumRates 4 = .ok (.if_icmp .ge 28, 3) := by decide +kernel
theorem dX4_sumRates_7 : decode cX4_sumRates 7 = .ok (.aload_n 0, 1) := by decide +kernel
theorem dX4_sumRates_8 : decode cX4_sumRates 8 = .ok (.getfield 36, 3) := by decide +kernel
theorem dX4_sumRates_11 : decode cX4_sumRates 11 = .ok (.iload_n 1, 1) := by decide +kernel
theorem dX4_sumRates_12 : decode cX4_sumRates 12 = .ok (.aload_n 0, 1) := by decide +kernel
theorem dX4_sumRates_13 : decode cX4_sumRates 13 = .ok (.getfield 20, 3) := by decide +kernel
theorem dX4_sumRates_16 : decode cX4_sumRates 16 = .ok (.iload_n 1, 1) := by decide +kernel
theorem dX4_sumRates_17 : decode cX4_sumRates 17 = .ok (.aaload, 1) := by decide +kernel
theorem dX4_sumRates_18 : decode cX4_sumRates 18 = .ok (.aload_n 0, 1) := by decide +kernel
theorem dX4_sumRates_19 : decode cX4_sumRates 19 = .ok (.getfield 9, 3) := by decide +kernel
theorem dX4_sumRates_22 : decode cX4_sumRates 22 = .ok (.invokevirtual 58, 3) := by decide +kernel
theorem dX4_sumRates_25 : decode cX4_sumRates 25 = .ok (.iastore, 1) := by decide +kernel
theorem dX4_sumRates_26 : decode cX4_sumRates 26 = .ok (.iinc 1 1, 3) := by decide +kernel
theorem dX4_sumRates_29 : decode cX4_sumRates 29 = .ok (.goto (-27), 3) := by decide +kernel
theorem dX4_sumRates_32 : decode cX4_sumRates 32 = .ok (.return_, 1) := by decide +kernel
theorem dX4_passTick_0 : decode cX4_passTick 0 = .ok (.iconst 0, 1) := by decide +kernel
theorem dX4_passTick_1 : decode cX4_passTick 1 = .ok (.istore_n 1, 1) := by decide +kernel
theorem dX4_passTick_2 : decode cX4_passTick 2 = .ok (.iload_n 1, 1) := by decide +kernel
theorem dX4_passTick_3 : decode cX4_passTick 3 = .ok (.iconst 3, 1) := by decide +kernel
theorem dX4_passTick_4 : decode cX4_passTick 4 = .ok (.if_icmp .ge 20, 3) := by decide +kernel
theorem dX4_passTick_7 : decode cX4_passTick 7 = .ok (.aload_n 0, 1) := by decide +kernel
theorem dX4_passTick_8 : decode cX4_passTick 8 = .ok (.getfield 39, 3) := by decide +kernel
theorem dX4_passTick_11 : decode cX4_passTick 11 = .ok (.iload_n 1, 1) := by decide +kernel
theorem dX4_passTick_12 : decode cX4_passTick 12 = .ok (.aload_n 0, 1) := by decide +kernel
theorem dX4_passTick_13 : decode cX4_passTick 13 = .ok (.iload_n 1, 1) := by decide +kernel
theorem dX4_passTick_14 : decode cX4_passTick 14 = .ok (.invokevirtual 80, 3) := by decide +kernel
theorem dX4_passTick_17 : decode cX4_passTick 17 = .ok (.iastore, 1) := by decide +kernel
theorem dX4_passTick_18 : decode cX4_passTick 18 = .ok (.iinc 1 1, 3) := by decide +kernel
theorem dX4_passTick_21 : decode cX4_passTick 21 = .ok (.goto (-19), 3) := by decide +kernel
theorem dX4_passTick_24 : decode cX4_passTick 24 = .ok (.iconst 0, 1) := by decide +kernel
theorem dX4_passTick_25 : decode cX4_passTick 25 = .ok (.istore_n 1, 1) := by decide +kernel
theorem dX4_passTick_26 : decode cX4_passTick 26 = .ok (.iconst 0, 1) := by decide +kernel
theorem dX4_passTick_27 : decode cX4_passTick 27 = .ok (.istore_n 2, 1) := by decide +kernel
theorem dX4_passTick_28 : decode cX4_passTick 28 = .ok (.iload_n 2, 1) := by decide +kernel
theorem dX4_passTick_29 : decode cX4_passTick 29 = .ok (.iconst 3, 1) := by decide +kernel
theorem dX4_passTick_30 : decode cX4_passTick 30 = .ok (.if_icmp .ge 61, 3) := by decide +kernel
theorem dX4_passTick_33 : decode cX4_passTick 33 = .ok (.aload_n 0, 1) := by decide +kernel
theorem dX4_passTick_34 : decode cX4_passTick 34 = .ok (.getfield 26, 3) := by decide +kernel
theorem dX4_passTick_37 : decode cX4_passTick 37 = .ok (.iload_n 2, 1) := by decide +kernel
theorem dX4_passTick_38 : decode cX4_passTick 38 = .ok (.aaload, 1) := by decide +kernel
theorem dX4_passTick_39 : decode cX4_passTick 39 = .ok (.dup, 1) := by decide +kernel
theorem dX4_passTick_40 : decode cX4_passTick 40 = .ok (.getfield 84, 3) := by decide +kernel
theorem dX4_passTick_43 : decode cX4_passTick 43 = .ok (.aload_n 0, 1) := by decide +kernel
theorem dX4_passTick_44 : decode cX4_passTick 44 = .ok (.getfield 20, 3) := by decide +kernel
theorem dX4_passTick_47 : decode cX4_passTick 47 = .ok (.iload_n 2, 1) := by decide +kernel
theorem dX4_passTick_48 : decode cX4_passTick 48 = .ok (.aaload, 1) := by decide +kernel
theorem dX4_passTick_49 : decode cX4_passTick 49 = .ok (.invokevirtual 87, 3) := by decide +kernel
theorem dX4_passTick_52 : decode cX4_passTick 52 = .ok (.invokestatic 73, 3) := by decide +kernel
theorem dX4_passTick_55 : decode cX4_passTick 55 = .ok (.iadd, 1) := by decide +kernel
theorem dX4_passTick_56 : decode cX4_passTick 56 = .ok (.putfield 84, 3) := by decide +kernel
theorem dX4_passTick_59 : decode cX4_passTick 59 = .ok (.aload_n 0, 1) := by decide +kernel
theorem dX4_passTick_60 : decode cX4_passTick 60 = .ok (.getfield 26, 3) := by decide +kernel
theorem dX4_passTick_63 : decode cX4_passTick 63 = .ok (.iload_n 2, 1) := by decide +kernel
theorem dX4_passTick_64 : decode cX4_passTick 64 = .ok (.aaload, 1) := by decide +kernel
theorem dX4_passTick_65 : decode cX4_passTick 65 = .ok (.aload_n 0, 1) := by decide +kernel
theorem dX4_passTick_66 : decode cX4_passTick 66 = .ok (.getfield 39, 3) := by decide +kernel
theorem dX4_passTick_69 : decode cX4_passTick 69 = .ok (.iload_n 2, 1) := by decide +kernel
theorem dX4_passTick_70 : decode cX4_passTick 70 = .ok (.iaload, 1) := by decide +kernel
theorem dX4_passTick_71 : decode cX4_passTick 71 = .ok (.invokevirtual 91, 3) := by decide +kernel
theorem dX4_passTick_74 : decode cX4_passTick 74 = .ok (.iload_n 1, 1) := by decide +kernel
theorem dX4_passTick_75 : decode cX4_passTick 75 = .ok (.aload_n 0, 1) := by decide +kernel
theorem dX4_passTick_76 : decode cX4_passTick 76 = .ok (.iload_n 2, 1) := by decide +kernel
theorem dX4_passTick_77 : decode cX4_passTick 77 = .ok (.invokevirtual 95, 3) := by decide +kernel
theorem dX4_passTick_80 : decode cX4_passTick 80 = .ok (.invokestatic 73, 3) := by decide +kernel
theorem dX4_passTick_83 : decode cX4_passTick 83 = .ok (.iadd, 1) := by decide +kernel
theorem dX4_passTick_84 : decode cX4_passTick 84 = .ok (.istore_n 1, 1) := by decide +kernel
theorem dX4_passTick_85 : decode cX4_passTick 85 = .ok (.iinc 2 1, 3) := by decide +kernel
theorem dX4_passTick_88 : decode cX4_passTick 88 = .ok (.goto (-60), 3) := by decide +kernel
theorem dX4_passTick_91 : decode cX4_passTick 91 = .ok (.aload_n 0, 1) := by decide +kernel
theorem dX4_passTick_92 : decode cX4_passTick 92 = .ok (.dup, 1) := by decide +kernel
theorem dX4_passTick_93 : decode cX4_passTick 93 = .ok (.getfield 55, 3) := by decide +kernel
theorem dX4_passTick_96 : decode cX4_passTick 96 = .ok (.iconst 1, 1) := by decide +kernel
theorem dX4_passTick_97 : decode cX4_passTick 97 = .ok (.iadd, 1) := by decide +kernel
theorem dX4_passTick_98 : decode cX4_passTick 98 = .ok (.putfield 55, 3) := by decide +kernel
theorem dX4_passTick_101 : decode cX4_passTick 101 = .ok (.iload_n 1, 1) := by decide +kernel
theorem dX4_passTick_102 : decode cX4_passTick 102 = .ok (.ireturn, 1) := by decide +kernel
theorem dX4_warmthToCome_0 : decode cX4_warmthToCome 0 = .ok (.aload_n 0, 1) := by decide +kernel
theorem dX4_warmthToCome_1 : decode cX4_warmthToCome 1 = .ok (.getfield 26, 3) := by decide +kernel
theorem dX4_warmthToCome_4 : decode cX4_warmthToCome 4 = .ok (.iload_n 1, 1) := by decide +kernel
theorem dX4_warmthToCome_5 : decode cX4_warmthToCome 5 = .ok (.aaload, 1) := by decide +kernel
theorem dX4_warmthToCome_6 : decode cX4_warmthToCome 6 = .ok (.astore_n 2, 1) := by decide +kernel
theorem dX4_warmthToCome_7 : decode cX4_warmthToCome 7 = .ok (.aload_n 0, 1) := by decide +kernel
theorem dX4_warmthToCome_8 : decode cX4_warmthToCome 8 = .ok (.getfield 26, 3) := by decide +kernel
theorem dX4_warmthToCome_11 : decode cX4_warmthToCome 11 = .ok (.iload_n 1, 1) := by decide +kernel
theorem dX4_warmthToCome_12 : decode cX4_warmthToCome 12 = .ok (.iconst 1, 1) := by decide +kernel
theorem dX4_warmthToCome_13 : decode cX4_warmthToCome 13 = .ok (.iadd, 1) := by decide +kernel
theorem dX4_warmthToCome_14 : decode cX4_warmthToCome 14 = .ok (.iconst 3, 1) := by decide +kernel
theorem dX4_warmthToCome_15 : decode cX4_warmthToCome 15 = .ok (.irem, 1) := by decide +kernel
theorem dX4_warmthToCome_16 : decode cX4_warmthToCome 16 = .ok (.aaload, 1) := by decide +kernel
theorem dX4_warmthToCome_17 : decode cX4_warmthToCome 17 = .ok (.astore_n 3, 1) := by decide +kernel
theorem dX4_warmthToCome_18 : decode cX4_warmthToCome 18 = .ok (.aload_n 0, 1) := by decide +kernel
theorem dX4_warmthToCome_19 : decode cX4_warmthToCome 19 = .ok (.getfield 26, 3) := by decide +kernel
theorem dX4_warmthToCome_22 : decode cX4_warmthToCome 22 = .ok (.iload_n 1, 1) := by decide +kernel
theorem dX4_warmthToCome_23 : decode cX4_warmthToCome 23 = .ok (.iconst 3, 1) := by decide +kernel
theorem dX4_warmthToCome_24 : decode cX4_warmthToCome 24 = .ok (.iadd, 1) := by decide +kernel
theorem dX4_warmthToCome_25 : decode cX4_warmthToCome 25 = .ok (.iconst 1, 1) := by decide +kernel
theorem dX4_warmthToCome_26 : decode cX4_warmthToCome 26 = .ok (.isub, 1) := by decide +kernel
theorem dX4_warmthToCome_27 : decode cX4_warmthToCome 27 = .ok (.iconst 3, 1) := by decide +kernel
theorem dX4_warmthToCome_28 : decode cX4_warmthToCome 28 = .ok (.irem, 1) := by decide +kernel
theorem dX4_warmthToCome_29 : decode cX4_warmthToCome 29 = .ok (.aaload, 1) := by decide +kernel
theorem dX4_warmthToCome_30 : decode cX4_warmthToCome 30 = .ok (.astore 4, 2) := by decide +kernel
theorem dX4_warmthToCome_32 : decode cX4_warmthToCome 32 = .ok (.aload_n 2, 1) := by decide +kernel
theorem dX4_warmthToCome_33 : decode cX4_warmthToCome 33 = .ok (.getfield 62, 3) := by decide +kernel
theorem dX4_warmthToCome_36 : decode cX4_warmthToCome 36 = .ok (.aload_n 2, 1) := by decide +kernel
theorem dX4_warmthToCome_37 : decode cX4_warmthToCome 37 = .ok (.aload_n 0, 1) := by decide +kernel
theorem dX4_warmthToCome_38 : decode cX4_warmthToCome 38 = .ok (.getfield 32, 3) := by decide +kernel
theorem dX4_warmthToCome_41 : decode cX4_warmthToCome 41 = .ok (.invokevirtual 99, 3) := by decide +kernel
theorem dX4_warmthToCome_44 : decode cX4_warmthToCome 44 = .ok (.isub, 1) := by decide +kernel
theorem dX4_warmthToCome_45 : decode cX4_warmthToCome 45 = .ok (.istore 5, 2) := by decide +kernel
theorem dX4_warmthToCome_47 : decode cX4_warmthToCome 47 = .ok (.aload_n 0, 1) := by decide +kernel
theorem dX4_warmthToCome_48 : decode cX4_warmthToCome 48 = .ok (.getfield 20, 3) := by decide +kernel
theorem dX4_warmthToCome_51 : decode cX4_warmthToCome 51 = .ok (.iload_n 1, 1) := by decide +kernel
theorem dX4_warmthToCome_52 : decode cX4_warmthToCome 52 = .ok (.aaload, 1) := by decide +kernel
theorem dX4_warmthToCome_53 : decode cX4_warmthToCome 53 = .ok (.invokevirtual 87, 3) := by decide +kernel
theorem dX4_warmthToCome_56 : decode cX4_warmthToCome 56 = .ok (.ifCond .eq 12, 3) := by decide +kernel
theorem dX4_warmthToCome_59 : decode cX4_warmthToCome 59 = .ok (.iload 5, 2) := by decide +kernel
theorem dX4_warmthToCome_61 : decode cX4_warmthToCome 61 = .ok (.aload_n 2, 1) := by decide +kernel
theorem dX4_warmthToCome_62 : decode cX4_warmthToCome 62 = .ok (.getfield 102, 3) := by decide +kernel
theorem dX4_warmthToCome_65 : decode cX4_warmthToCome 65 = .ok (.iadd, 1) := by decide +kernel
theorem dX4_warmthToCome_66 : decode cX4_warmthToCome 66 = .ok (.istore 5, 2) := by decide +kernel
theorem dX4_warmthToCome_68 : decode cX4_warmthToCome 68 = .ok (.aload_n 2, 1) := by decide +kernel
theorem dX4_warmthToCome_69 : decode cX4_warmthToCome 69 = .ok (.getfield 69, 3) := by decide +kernel
theorem dX4_warmthToCome_72 : decode cX4_warmthToCome 72 = .ok (.ifCond .eq 13, 3) := by decide +kernel
theorem dX4_warmthToCome_75 : decode cX4_warmthToCome 75 = .ok (.iload 5, 2) := by decide +kernel
theorem dX4_warmthToCome_77 : decode cX4_warmthToCome 77 = .ok (.aload_n 2, 1) := by decide +kernel
theorem dX4_warmthToCome_78 : decode cX4_warmthToCome 78 = .ok (.aload_n 3, 1) := by decide +kernel
theorem dX4_warmthToCome_79 : decode cX4_warmthToCome 79 = .ok (.invokevirtual 105, 3) := by decide +kernel
theorem dX4_warmthToCome_82 : decode cX4_warmthToCome 82 = .ok (.isub, 1) := by decide +kernel
theorem dX4_warmthToCome_83 : decode cX4_warmthToCome 83 = .ok (.istore 5, 2) := by decide +kernel
theorem dX4_warmthToCome_85 : decode cX4_warmthToCome 85 = .ok (.aload 4, 2) := by decide +kernel
theorem dX4_warmthToCome_87 : decode cX4_warmthToCome 87 = .ok (.getfield 69, 3) := by decide +kernel
theorem dX4_warmthToCome_90 : decode cX4_warmthToCome 90 = .ok (.ifCond .eq 14, 3) := by decide +kernel
theorem dX4_warmthToCome_93 : decode cX4_warmthToCome 93 = .ok (.iload 5, 2) := by decide +kernel
theorem dX4_warmthToCome_95 : decode cX4_warmthToCome 95 = .ok (.aload_n 2, 1) := by decide +kernel
theorem dX4_warmthToCome_96 : decode cX4_warmthToCome 96 = .ok (.aload 4, 2) := by decide +kernel
theorem dX4_warmthToCome_98 : decode cX4_warmthToCome 98 = .ok (.invokevirtual 105, 3) := by decide +kernel
theorem dX4_warmthToCome_101 : decode cX4_warmthToCome 101 = .ok (.isub, 1) := by decide +kernel
theorem dX4_warmthToCome_102 : decode cX4_warmthToCome 102 = .ok (.istore 5, 2) := by decide +kernel
theorem dX4_warmthToCome_104 : decode cX4_warmthToCome 104 = .ok (.sipush (-500), 3) := by decide +kernel
theorem dX4_warmthToCome_107 : decode cX4_warmthToCome 107 = .ok (.iload 5, 2) := by decide +kernel
theorem dX4_warmthToCome_109 : decode cX4_warmthToCome 109 = .ok (.sipush 1500, 3) := by decide +kernel
theorem dX4_warmthToCome_112 : decode cX4_warmthToCome 112 = .ok (.invokestatic 108, 3) := by decide +kernel
theorem dX4_warmthToCome_115 : decode cX4_warmthToCome 115 = .ok (.invokestatic 113, 3) := by decide +kernel
theorem dX4_warmthToCome_118 : decode cX4_warmthToCome 118 = .ok (.ireturn, 1) := by decide +kernel
theorem dX4_moveStrip_0 : decode cX4_moveStrip 0 = .ok (.aload_n 0, 1) := by decide +kernel
theorem dX4_moveStrip_1 : decode cX4_moveStrip 1 = .ok (.getfield 20, 3) := by decide +kernel
theorem dX4_moveStrip_4 : decode cX4_moveStrip 4 = .ok (.iload_n 1, 1) := by decide +kernel
theorem dX4_moveStrip_5 : decode cX4_moveStrip 5 = .ok (.aaload, 1) := by decide +kernel
theorem dX4_moveStrip_6 : decode cX4_moveStrip 6 = .ok (.astore_n 2, 1) := by decide +kernel
theorem dX4_moveStrip_7 : decode cX4_moveStrip 7 = .ok (.aload_n 2, 1) := by decide +kernel
theorem dX4_moveStrip_8 : decode cX4_moveStrip 8 = .ok (.aload_n 0, 1) := by decide +kernel
theorem dX4_moveStrip_9 : decode cX4_moveStrip 9 = .ok (.getfield 36, 3) := by decide +kernel
theorem dX4_moveStrip_12 : decode cX4_moveStrip 12 = .ok (.iload_n 1, 1) := by decide +kernel
theorem dX4_moveStrip_13 : decode cX4_moveStrip 13 = .ok (.iaload, 1) := by decide +kernel
theorem dX4_moveStrip_14 : decode cX4_moveStrip 14 = .ok (.aload_n 0, 1) := by decide +kernel
theorem dX4_moveStrip_15 : decode cX4_moveStrip 15 = .ok (.getfield 26, 3) := by decide +kernel
theorem dX4_moveStrip_18 : decode cX4_moveStrip 18 = .ok (.iload_n 1, 1) := by decide +kernel
theorem dX4_moveStrip_19 : decode cX4_moveStrip 19 = .ok (.aaload, 1) := by decide +kernel
theorem dX4_moveStrip_20 : decode cX4_moveStrip 20 = .ok (.getfield 62, 3) := by decide +kernel
theorem dX4_moveStrip_23 : decode cX4_moveStrip 23 = .ok (.invokestatic 65, 3) := by decide +kernel
theorem dX4_moveStrip_26 : decode cX4_moveStrip 26 = .ok (.invokevirtual 116, 3) := by decide +kernel
theorem dX4_moveStrip_29 : decode cX4_moveStrip 29 = .ok (.ifCond .ne 5, 3) := by decide +kernel
theorem dX4_moveStrip_32 : decode cX4_moveStrip 32 = .ok (.iconst 0, 1) := by decide +kernel
theorem dX4_moveStrip_33 : decode cX4_moveStrip 33 = .ok (.ireturn, 1) := by decide +kernel
theorem dX4_moveStrip_34 : decode cX4_moveStrip 34 = .ok (.aload_n 2, 1) := by decide +kernel
theorem dX4_moveStrip_35 : decode cX4_moveStrip 35 = .ok (.getfield 119, 3) := by decide +kernel
theorem dX4_moveStrip_38 : decode cX4_moveStrip 38 = .ok (.ifCond .eq 29, 3) := by decide +kernel
theorem dX4_moveStrip_41 : decode cX4_moveStrip 41 = .ok (.aload_n 2, 1) := by decide +kernel
theorem dX4_moveStrip_42 : decode cX4_moveStrip 42 = .ok (.dup, 1) := by decide +kernel
theorem dX4_moveStrip_43 : decode cX4_moveStrip 43 = .ok (.getfield 77, 3) := by decide +kernel
theorem dX4_moveStrip_46 : decode cX4_moveStrip 46 = .ok (.iconst 1, 1) := by decide +kernel
theorem dX4_moveStrip_47 : decode cX4_moveStrip 47 = .ok (.iadd, 1) := by decide +kernel
theorem dX4_moveStrip_48 : decode cX4_moveStrip 48 = .ok (.putfield 77, 3) := by decide +kernel
theorem dX4_moveStrip_51 : decode cX4_moveStrip 51 = .ok (.aload_n 2, 1) := by decide +kernel
theorem dX4_moveStrip_52 : decode cX4_moveStrip 52 = .ok (.aload_n 0, 1) := by decide +kernel
theorem dX4_moveStrip_53 : decode cX4_moveStrip 53 = .ok (.getfield 15, 3) := by decide +kernel
theorem dX4_moveStrip_56 : decode cX4_moveStrip 56 = .ok (.iconst 0, 1) := by decide +kernel
theorem dX4_moveStrip_57 : decode cX4_moveStrip 57 = .ok (.iaload, 1) := by decide +kernel
theorem dX4_moveStrip_58 : decode cX4_moveStrip 58 = .ok (.aload_n 0, 1) := by decide +kernel
theorem dX4_moveStrip_59 : decode cX4_moveStrip 59 = .ok (.getfield 15, 3) := by decide +kernel
theorem dX4_moveStrip_62 : decode cX4_moveStrip 62 = .ok (.iconst 1, 1) := by decide +kernel
theorem dX4_moveStrip_63 : decode cX4_moveStrip 63 = .ok (.iaload, 1) := by decide +kernel
theorem dX4_moveStrip_64 : decode cX4_moveStrip 64 = .ok (.invokevirtual 122, 3) := by decide +kernel
theorem dX4_moveStrip_67 : decode cX4_moveStrip 67 = .ok (.iconst 1, 1) := by decide +kernel
theorem dX4_moveStrip_68 : decode cX4_moveStrip 68 = .ok (.ireturn, 1) := by decide +kernel
theorem dX4_loopKey_0 : decode cX4_loopKey 0 = .ok (.lconst 0, 1) := by decide +kernel
theorem dX4_loopKey_1 : decode cX4_loopKey 1 = .ok (.lstore_n 1, 1) := by decide +kernel
theorem dX4_loopKey_2 : decode cX4_loopKey 2 = .ok (.iconst 0, 1) := by decide +kernel
theorem dX4_loopKey_3 : decode cX4_loopKey 3 = .ok (.istore_n 3, 1) := by decide +kernel
theorem dX4_loopKey_4 : decode cX4_loopKey 4 = .ok (.iload_n 3, 1) := by decide +kernel
theorem dX4_loopKey_5 : decode cX4_loopKey 5 = .ok (.iconst 3, 1) := by decide +kernel
theorem dX4_loopKey_6 : decode cX4_loopKey 6 = .ok (.if_icmp .ge 62, 3) := by decide +kernel
theorem dX4_loopKey_9 : decode cX4_loopKey 9 = .ok (.lload_n 1, 1) := by decide +kernel
theorem dX4_loopKey_10 : decode cX4_loopKey 10 = .ok (.bipush 11, 2) := by decide +kernel
theorem dX4_loopKey_12 : decode cX4_loopKey 12 = .ok (.lshl, 1) := by decide +kernel
theorem dX4_loopKey_13 : decode cX4_loopKey 13 = .ok (.aload_n 0, 1) := by decide +kernel
theorem dX4_loopKey_14 : decode cX4_loopKey 14 = .ok (.getfield 26, 3) := by decide +kernel
theorem dX4_loopKey_17 : decode cX4_loopKey 17 = .ok (.iload_n 3, 1) := by decide +kernel
theorem dX4_loopKey_18 : decode cX4_loopKey 18 = .ok (.aaload, 1) := by decide +kernel
theorem dX4_loopKey_19 : decode cX4_loopKey 19 = .ok (.getfield 62, 3) := by decide +kernel
theorem dX4_loopKey_22 : decode cX4_loopKey 22 = .ok (.sipush (-500), 3) := by decide +kernel
theorem dX4_loopKey_25 : decode cX4_loopKey 25 = .ok (.isub, 1) := by decide +kernel
theorem dX4_loopKey_26 : decode cX4_loopKey 26 = .ok (.i2l, 1) := by decide +kernel
theorem dX4_loopKey_27 : decode cX4_loopKey 27 = .ok (.lor, 1) := by decide +kernel
theorem dX4_loopKey_28 : decode cX4_loopKey 28 = .ok (.lstore_n 1, 1) := by decide +kernel
theorem dX4_loopKey_29 : decode cX4_loopKey 29 = .ok (.lload_n 1, 1) := by decide +kernel
theorem dX4_loopKey_30 : decode cX4_loopKey 30 = .ok (.iconst 1, 1) := by decide +kernel
theorem dX4_loopKey_31 : decode cX4_loopKey 31 = .ok (.lshl, 1) := by decide +kernel
theorem dX4_loopKey_32 : decode cX4_loopKey 32 = .ok (.aload_n 0, 1) := by decide +kernel
theorem dX4_loopKey_33 : decode cX4_loopKey 33 = .ok (.getfield 20, 3) := by decide +kernel
theorem dX4_loopKey_36 : decode cX4_loopKey 36 = .ok (.iload_n 3, 1) := by decide +kernel
theorem dX4_loopKey_37 : decode cX4_loopKey 37 = .ok (.aaload, 1) := by decide +kernel
theorem dX4_loopKey_38 : decode cX4_loopKey 38 = .ok (.getfield 119, 3) := by decide +kernel
theorem dX4_loopKey_41 : decode cX4_loopKey 41 = .ok (.invokestatic 73, 3) := by decide +kernel
theorem dX4_loopKey_44 : decode cX4_loopKey 44 = .ok (.i2l, 1) := by decide +kernel
theorem dX4_loopKey_45 : decode cX4_loopKey 45 = .ok (.lor, 1) := by decide +kernel
theorem dX4_loopKey_46 : decode cX4_loopKey 46 = .ok (.lstore_n 1, 1) := by decide +kernel
theorem dX4_loopKey_47 : decode cX4_loopKey 47 = .ok (.lload_n 1, 1) := by decide +kernel
theorem dX4_loopKey_48 : decode cX4_loopKey 48 = .ok (.iconst 3, 1) := by decide +kernel
theorem dX4_loopKey_49 : decode cX4_loopKey 49 = .ok (.lshl, 1) := by decide +kernel
theorem dX4_loopKey_50 : decode cX4_loopKey 50 = .ok (.aload_n 0, 1) := by decide +kernel
theorem dX4_loopKey_51 : decode cX4_loopKey 51 = .ok (.getfield 20, 3) := by decide +kernel
theorem dX4_loopKey_54 : decode cX4_loopKey 54 = .ok (.iload_n 3, 1) := by decide +kernel
theorem dX4_loopKey_55 : decode cX4_loopKey 55 = .ok (.aaload, 1) := by decide +kernel
theorem dX4_loopKey_56 : decode cX4_loopKey 56 = .ok (.getfield 126, 3) := by decide +kernel
theorem dX4_loopKey_59 : decode cX4_loopKey 59 = .ok (.i2l, 1) := by decide +kernel
theorem dX4_loopKey_60 : decode cX4_loopKey 60 = .ok (.lor, 1) := by decide +kernel
theorem dX4_loopKey_61 : decode cX4_loopKey 61 = .ok (.lstore_n 1, 1) := by decide +kernel
theorem dX4_loopKey_62 : decode cX4_loopKey 62 = .ok (.iinc 3 1, 3) := by decide +kernel
theorem dX4_loopKey_65 : decode cX4_loopKey 65 = .ok (.goto (-61), 3) := by decide +kernel
theorem dX4_loopKey_68 : decode cX4_loopKey 68 = .ok (.lload_n 1, 1) := by decide +kernel
theorem dX4_loopKey_69 : decode cX4_loopKey 69 = .ok (.lreturn, 1) := by decide +kernel
theorem dX5_init_0 : decode cX5_init 0 = .ok (.aload_n 0, 1) := by decide +kernel
theorem dX5_init_1 : decode cX5_init 1 = .ok (.invokespecial 3, 3) := by decide +kernel
theorem dX5_init_4 : decode cX5_init 4 = .ok (.aload_n 0, 1) := by decide +kernel
theorem dX5_init_5 : decode cX5_init 5 = .ok (.bipush 8, 2) := by decide +kernel
theorem dX5_init_7 : decode cX5_init 7 = .ok (.newarray .int, 2) := by decide +kernel
theorem dX5_init_9 : decode cX5_init 9 = .ok (.putfield 9, 3) := by decide +kernel
theorem dX5_init_12 : decode cX5_init 12 = .ok (.aload_n 0, 1) := by decide +kernel
theorem dX5_init_13 : decode cX5_init 13 = .ok (.bipush 8, 2) := by decide +kernel
theorem dX5_init_15 : decode cX5_init 15 = .ok (.newarray .int, 2) := by decide +kernel
theorem dX5_init_17 : decode cX5_init 17 = .ok (.putfield 15, 3) := by decide +kernel
theorem dX5_init_20 : decode cX5_init 20 = .ok (.aload_n 0, 1) := by decide +kernel
theorem dX5_init_21 : decode cX5_init 21 = .ok (.bipush 8, 2) := by decide +kernel
theorem dX5_init_23 : decode cX5_init 23 = .ok (.newarray .int, 2) := by decide +kernel
theorem dX5_init_25 : decode cX5_init 25 = .ok (.putfield 18, 3) := by decide +kernel
theorem dX5_init_28 : decode cX5_init 28 = .ok (.aload_n 0, 1) := by decide +kernel
theorem dX5_init_29 : decode cX5_init 29 = .ok (.sipush 1000, 3) := by decide +kernel
theorem dX5_init_32 : decode cX5_init 32 = .ok (.putfield 21, 3) := by decide +kernel
theorem dX5_init_35 : decode cX5_init 35 = .ok (.aload_n 0, 1) := by decide +kernel
theorem dX5_init_36 : decode cX5_init 36 = .ok (.sipush 3000, 3) := by decide +kernel
theorem dX5_init_39 : decode cX5_init 39 = .ok (.putfield 25, 3) := by decide +kernel
theorem dX5_init_42 : decode cX5_init 42 = .ok (.return_, 1) := by decide +kernel
theorem dX5_copyFrom_0 : decode cX5_copyFrom 0 = .ok (.aload_n 1, 1) := by decide +kernel
theorem dX5_copyFrom_1 : decode cX5_copyFrom 1 = .ok (.getfield 9, 3) := by decide +kernel
theorem dX5_copyFrom_4 : decode cX5_copyFrom 4 = .ok (.iconst 0, 1) := by decide +kernel
theorem dX5_copyFrom_5 : decode cX5_copyFrom 5 = .ok (.aload_n 0, 1) := by decide +kernel
theorem dX5_copyFrom_6 : decode cX5_copyFrom 6 = .ok (.getfield 9, 3) := by decide +kernel
theorem dX5_copyFrom_9 : decode cX5_copyFrom 9 = .ok (.iconst 0, 1) := by decide +kernel
theorem dX5_copyFrom_10 : decode cX5_copyFrom 10 = .ok (.bipush 8, 2) := by decide +kernel
theorem dX5_copyFrom_12 : decode cX5_copyFrom 12 = .ok (.invokestatic 28, 3) := by decide +kernel
theorem dX5_copyFrom_15 : decode cX5_copyFrom 15 = .ok (.aload_n 1, 1) := by decide +kernel
theorem dX5_copyFrom_16 : decode cX5_copyFrom 16 = .ok (.getfield 15, 3) := by decide +kernel
theorem dX5_copyFrom_19 : decode cX5_copyFrom 19 = .ok (.iconst 0, 1) := by decide +kernel
theorem dX5_copyFrom_20 : decode cX5_copyFrom 20 = .ok (.aload_n 0, 1) := by decide +kernel
theorem dX5_copyFrom_21 : decode cX5_copyFrom 21 = .ok (.getfield 15, 3) := by decide +kernel
theorem dX5_copyFrom_24 : decode cX5_copyFrom 24 = .ok (.iconst 0, 1) := by decide +kernel
theorem dX5_copyFrom_25 : decode cX5_copyFrom 25 = .ok (.bipush 8, 2) := by decide +kernel
theorem dX5_copyFrom_27 : decode cX5_copyFrom 27 = .ok (.invokestatic 28, 3) := by decide +kernel
theorem dX5_copyFrom_30 : decode cX5_copyFrom 30 = .ok (.aload_n 1, 1) := by decide +kernel
theorem dX5_copyFrom_31 : decode cX5_copyFrom 31 = .ok (.getfield 18, 3) := by decide +kernel
theorem dX5_copyFrom_34 : decode cX5_copyFrom 34 = .ok (.iconst 0, 1) := by decide +kernel
theorem dX5_copyFrom_35 : decode cX5_copyFrom 35 = .ok (.aload_n 0, 1) := by decide +kernel
theorem dX5_copyFrom_36 : decode cX5_copyFrom 36 = .ok (.getfield 18, 3) := by decide +kernel
theorem dX5_copyFrom_39 : decode cX5_copyFrom 39 = .ok (.iconst 0, 1) := by decide +kernel
theorem dX5_copyFrom_40 : decode cX5_copyFrom 40 = .ok (.bipush 8, 2) := by decide +kernel
theorem dX5_copyFrom_42 : decode cX5_copyFrom 42 = .ok (.invokestatic 28, 3) := by decide +kernel
theorem dX5_copyFrom_45 : decode cX5_copyFrom 45 = .ok (.aload_n 0, 1) := by decide +kernel
theorem dX5_copyFrom_46 : decode cX5_copyFrom 46 = .ok (.aload_n 1, 1) := by decide +kernel
theorem dX5_copyFrom_47 : decode cX5_copyFrom 47 = .ok (.getfield 34, 3) := by decide +kernel
theorem dX5_copyFrom_50 : decode cX5_copyFrom 50 = .ok (.putfield 34, 3) := by decide +kernel
theorem dX5_copyFrom_53 : decode cX5_copyFrom 53 = .ok (.aload_n 0, 1) := by decide +kernel
theorem dX5_copyFrom_54 : decode cX5_copyFrom 54 = .ok (.aload_n 1, 1) := by decide +kernel
theorem dX5_copyFrom_55 : decode cX5_copyFrom 55 = .ok (.getfield 21, 3) := by decide +kernel
theorem dX5_copyFrom_58 : decode cX5_copyFrom 58 = .ok (.putfield 21, 3) := by decide +kernel
theorem dX5_copyFrom_61 : decode cX5_copyFrom 61 = .ok (.aload_n 0, 1) := by decide +kernel
theorem dX5_copyFrom_62 : decode cX5_copyFrom 62 = .ok (.aload_n 1, 1) := by decide +kernel
theorem dX5_copyFrom_63 : decode cX5_copyFrom 63 = .ok (.getfield 25, 3) := by decide +kernel
theorem dX5_copyFrom_66 : decode cX5_copyFrom 66 = .ok (.putfield 25, 3) := by decide +kernel
theorem dX5_copyFrom_69 : decode cX5_copyFrom 69 = .ok (.aload_n 0, 1) := by decide +kernel
theorem dX5_copyFrom_70 : decode cX5_copyFrom 70 = .ok (.aload_n 1, 1) := by decide +kernel
theorem dX5_copyFrom_71 : decode cX5_copyFrom 71 = .ok (.getfield 37, 3) := by decide +kernel
theorem dX5_copyFrom_74 : decode cX5_copyFrom 74 = .ok (.putfield 37, 3) := by decide +kernel
theorem dX5_copyFrom_77 : decode cX5_copyFrom 77 = .ok (.aload_n 0, 1) := by decide +kernel
theorem dX5_copyFrom_78 : decode cX5_copyFrom 78 = .ok (.aload_n 1, 1) := by decide +kernel
theorem dX5_copyFrom_79 : decode cX5_copyFrom 79 = .ok (.getfield 40, 3) := by decide +kernel
theorem dX5_copyFrom_82 : decode cX5_copyFrom 82 = .ok (.putfield 40, 3) := by decide +kernel
theorem dX5_copyFrom_85 : decode cX5_copyFrom 85 = .ok (.aload_n 0, 1) := by decide +kernel
theorem dX5_copyFrom_86 : decode cX5_copyFrom 86 = .ok (.aload_n 1, 1) := by decide +kernel
theorem dX5_copyFrom_87 : decode cX5_copyFrom 87 = .ok (.getfield 43, 3) := by decide +kernel
theorem dX5_copyFrom_90 : decode cX5_copyFrom 90 = .ok (.putfield 43, 3) := by decide +kernel
theorem dX5_copyFrom_93 : decode cX5_copyFrom 93 = .ok (.aload_n 0, 1) := by decide +kernel
theorem dX5_copyFrom_94 : decode cX5_copyFrom 94 = .ok (.aload_n 1, 1) := by decide +kernel
theorem dX5_copyFrom_95 : decode cX5_copyFrom 95 = .ok (.getfield 46, 3) := by decide +kernel
theorem dX5_copyFrom_98 : decode cX5_copyFrom 98 = .ok (.putfield 46, 3) := by decide +kernel
theorem dX5_copyFrom_101 : decode cX5_copyFrom 101 = .ok (.aload_n 0, 1) := by decide +kernel
theorem dX5_copyFrom_102 : decode cX5_copyFrom 102 = .ok (.aload_n 1, 1) := by decide +kernel
theorem dX5_copyFrom_103 : decode cX5_copyFrom 103 = .ok (.getfield 49, 3) := by decide +kernel
theorem dX5_copyFrom_106 : decode cX5_copyFrom 106 = .ok (.putfield 49, 3) := by decide +kernel
theorem dX5_copyFrom_109 : decode cX5_copyFrom 109 = .ok (.return_, 1) := by decide +kernel
theorem dX5_addPart_0 : decode cX5_addPart 0 = .ok (.aload_n 0, 1) := by decide +kernel
theorem dX5_addPart_1 : decode cX5_addPart 1 = .ok (.getfield 34, 3) := by decide +kernel
theorem dX5_addPart_4 : decode cX5_addPart 4 = .ok (.bipush 8, 2) := by decide +kernel
theorem dX5_addPart_6 : decode cX5_addPart 6 = .ok (.if_icmp .ge 43, 3) := by decide +kernel
theorem dX5_addPart_9 : decode cX5_addPart 9 = .ok (.aload_n 0, 1) := by decide +kernel
theorem dX5_addPart_10 : decode cX5_addPart 10 = .ok (.getfield 9, 3) := by decide +kernel
theorem dX5_addPart_13 : decode cX5_addPart 13 = .ok (.aload_n 0, 1) := by decide +kernel
theorem dX5_addPart_14 : decode cX5_addPart 14 = .ok (.getfield 34, 3) := by decide +kernel
theorem dX5_addPart_17 : decode cX5_addPart 17 = .ok (.iload_n 1, 1) := by decide +kernel
theorem dX5_addPart_18 : decode cX5_addPart 18 = .ok (.iastore, 1) := by decide +kernel
theorem dX5_addPart_19 : decode cX5_addPart 19 = .ok (.aload_n 0, 1) := by decide +kernel
theorem dX5_addPart_20 : decode cX5_addPart 20 = .ok (.getfield 15, 3) := by decide +kernel
theorem dX5_addPart_23 : decode cX5_addPart 23 = .ok (.aload_n 0, 1) := by decide +kernel
theorem dX5_addPart_24 : decode cX5_addPart 24 = .ok (.getfield 34, 3) := by decide +kernel
theorem dX5_addPart_27 : decode cX5_addPart 27 = .ok (.iload_n 2, 1) := by decide +kernel
theorem dX5_addPart_28 : decode cX5_addPart 28 = .ok (.iastore, 1) := by decide +kernel
theorem dX5_addPart_29 : decode cX5_addPart 29 = .ok (.aload_n 0, 1) := by decide +kernel
theorem dX5_addPart_30 : decode cX5_addPart 30 = .ok (.getfield 18, 3) := by decide +kernel
theorem dX5_addPart_33 : decode cX5_addPart 33 = .ok (.aload_n 0, 1) := by decide +kernel
theorem dX5_addPart_34 : decode cX5_addPart 34 = .ok (.getfield 34, 3) := by decide +kernel
theorem dX5_addPart_37 : decode cX5_addPart 37 = .ok (.iload_n 3, 1) := by decide +kernel
theorem dX5_addPart_38 : decode cX5_addPart 38 = .ok (.iastore, 1) := by decide +kernel
theorem dX5_addPart_39 : decode cX5_addPart 39 = .ok (.aload_n 0, 1) := by decide +kernel
theorem dX5_addPart_40 : decode cX5_addPart 40 = .ok (.dup, 1) := by decide +kernel
theorem dX5_addPart_41 : decode cX5_addPart 41 = .ok (.getfield 34, 3) := by decide +kernel
theorem dX5_addPart_44 : decode cX5_addPart 44 = .ok (.iconst 1, 1) := by decide +kernel
theorem dX5_addPart_45 : decode cX5_addPart 45 = .ok (.iadd, 1) := by decide +kernel
theorem dX5_addPart_46 : decode cX5_addPart 46 = .ok (.putfield 34, 3) := by decide +kernel
theorem dX5_addPart_49 : decode cX5_addPart 49 = .ok (.return_, 1) := by decide +kernel
theorem dX5_wholeLength_0 : decode cX5_wholeLength 0 = .ok (.iconst 0, 1) := by decide +kernel
theorem dX5_wholeLength_1 : decode cX5_wholeLength 1 = .ok (.istore_n 1, 1) := by decide +kernel
theorem dX5_wholeLength_2 : decode cX5_wholeLength 2 = .ok (.iconst 0, 1) := by decide +kernel
theorem dX5_wholeLength_3 : decode cX5_wholeLength 3 = .ok (.istore_n 2, 1) := by decide +kernel
theorem dX5_wholeLength_4 : decode cX5_wholeLength 4 = .ok (.iload_n 2, 1) := by decide +kernel
theorem dX5_wholeLength_5 : decode cX5_wholeLength 5 = .ok (.aload_n 0, 1) := by decide +kernel
theorem dX5_wholeLength_6 : decode cX5_wholeLength 6 = .ok (.getfield 34, 3) := by decide +kernel
theorem dX5_wholeLength_9 : decode cX5_wholeLength 9 = .ok (.if_icmp .ge 18, 3) := by decide +kernel
theorem dX5_wholeLength_12 : decode cX5_wholeLength 12 = .ok (.iload_n 1, 1) := by decide +kernel
theorem dX5_wholeLength_13 : decode cX5_wholeLength 13 = .ok (.aload_n 0, 1) := by decide +kernel
theorem dX5_wholeLength_14 : decode cX5_wholeLength 14 = .ok (.getfield 9, 3) := by decide +kernel
theorem dX5_wholeLength_17 : decode cX5_wholeLength 17 = .ok (.iload_n 2, 1) := by decide +kernel
theorem dX5_wholeLength_18 : decode cX5_wholeLength 18 = .ok (.iaload, 1) := by decide +kernel
theorem dX5_wholeLength_19 : decode cX5_wholeLength 19 = .ok (.iadd, 1) := by decide +kernel
theorem dX5_wholeLength_20 : decode cX5_wholeLength 20 = .ok (.istore_n 1, 1) := by decide +kernel
theorem dX5_wholeLength_21 : decode cX5_wholeLength 21 = .ok (.iinc 2 1, 3) := by decide +kernel
theorem dX5_wholeLength_24 : decode cX5_wholeLength 24 = .ok (.goto (-20), 3) := by decide +kernel
theorem dX5_wholeLength_27 : decode cX5_wholeLength 27 = .ok (.iload_n 1, 1) := by decide +kernel
theorem dX5_wholeLength_28 : decode cX5_wholeLength 28 = .ok (.ireturn, 1) := by decide +kernel
theorem dX5_partRate_0 : decode cX5_partRate 0 = .ok (.aload_n 0, 1) := by decide +kernel
theorem dX5_partRate_1 : decode cX5_partRate 1 = .ok (.getfield 9, 3) := by decide +kernel
theorem dX5_partRate_4 : decode cX5_partRate 4 = .ok (.iload_n 1, 1) := by decide +kernel
theorem dX5_partRate_5 : decode cX5_partRate 5 = .ok (.iaload, 1) := by decide +kernel
theorem dX5_partRate_6 : decode cX5_partRate 6 = .ok (.aload_n 2, 1) := by decide +kernel
theorem dX5_partRate_7 : decode cX5_partRate 7 = .ok (.aload_n 0, 1) := by decide +kernel
theorem dX5_partRate_8 : decode cX5_partRate 8 = .ok (.getfield 15, 3) := by decide +kernel
theorem dX5_partRate_11 : decode cX5_partRate 11 = .ok (.iload_n 1, 1) := by decide +kernel
theorem dX5_partRate_12 : decode cX5_partRate 12 = .ok (.iaload, 1) := by decide +kernel
theorem dX5_partRate_13 : decode cX5_partRate 13 = .ok (.iaload, 1) := by decide +kernel
theorem dX5_partRate_14 : decode cX5_partRate 14 = .ok (.aload_n 2, 1) := by decide +kernel
theorem dX5_partRate_15 : decode cX5_partRate 15 = .ok (.aload_n 0, 1) := by decide +kernel
theorem dX5_partRate_16 : decode cX5_partRate 16 = .ok (.getfield 18, 3) := by decide +kernel
theorem dX5_partRate_19 : decode cX5_partRate 19 = .ok (.iload_n 1, 1) := by decide +kernel
theorem dX5_partRate_20 : decode cX5_partRate 20 = .ok (.iaload, 1) := by decide +kernel
theorem dX5_partRate_21 : decode cX5_partRate 21 = .ok (.iaload, 1) := by decide +kernel
theorem dX5_partRate_22 : decode cX5_partRate 22 = .ok (.isub, 1) := by decide +kernel
theorem dX5_partRate_23 : decode cX5_partRate 23 = .ok (.imul, 1) := by decide +kernel
theorem dX5_partRate_24 : decode cX5_partRate 24 = .ok (.ireturn, 1) := by decide +kernel
theorem dX5_rate_0 : decode cX5_rate 0 = .ok (.iconst 0, 1) := by decide +kernel
theorem dX5_rate_1 : decode cX5_rate 1 = .ok (.istore_n 2, 1) := by decide +kernel
theorem dX5_rate_2 : decode cX5_rate 2 = .ok (.iconst 0, 1) := by decide +kernel
theorem dX5_rate_3 : decode cX5_rate 3 = .ok (.istore_n 3, 1) := by decide +kernel
theorem dX5_rate_4 : decode cX5_rate 4 = .ok (.iload_n 3, 1) := by decide +kernel
theorem dX5_rate_5 : decode cX5_rate 5 = .ok (.aload_n 0, 1) := by decide +kernel
theorem dX5_rate_6 : decode cX5_rate 6 = .ok (.getfield 34, 3) := by decide +kernel
theorem dX5_rate_9 : decode cX5_rate 9 = .ok (.if_icmp .ge 18, 3) := by decide +kernel
theorem dX5_rate_12 : decode cX5_rate 12 = .ok (.iload_n 2, 1) := by decide +kernel
theorem dX5_rate_13 : decode cX5_rate 13 = .ok (.aload_n 0, 1) := by decide +kernel
theorem dX5_rate_14 : decode cX5_rate 14 = .ok (.iload_n 3, 1) := by decide +kernel
theorem dX5_rate_15 : decode cX5_rate 15 = .ok (.aload_n 1, 1) := by decide +kernel
theorem dX5_rate_16 : decode cX5_rate 16 = .ok (.invokevirtual 53, 3) := by decide +kernel
theorem dX5_rate_19 : decode cX5_rate 19 = .ok (.iadd, 1) := by decide +kernel
theorem dX5_rate_20 : decode cX5_rate 20 = .ok (.istore_n 2, 1) := by decide +kernel
theorem dX5_rate_21 : decode cX5_rate 21 = .ok (.iinc 3 1, 3) := by decide +kernel
theorem dX5_rate_24 : decode cX5_rate 24 = .ok (.goto (-20), 3) := by decide +kernel
theorem dX5_rate_27 : decode cX5_rate 27 = .ok (.iload_n 2, 1) := by decide +kernel
theorem dX5_rate_28 : decode cX5_rate 28 = .ok (.ireturn, 1) := by decide +kernel
theorem dX5_isClosed_0 : decode cX5_isClosed 0 = .ok (.aload_n 0, 1) := by decide +kernel
theorem dX5_isClosed_1 : decode cX5_isClosed 1 = .ok (.getfield 49, 3) := by decide +kernel
theorem dX5_isClosed_4 : decode cX5_isClosed 4 = .ok (.aload_n 0, 1) := by decide +kernel
theorem dX5_isClosed_5 : decode cX5_isClosed 5 = .ok (.getfield 46, 3) := by decide +kernel
theorem dX5_isClosed_8 : decode cX5_isClosed 8 = .ok (.iconst 1, 1) := by decide +kernel
theorem dX5_isClosed_9 : decode cX5_isClosed 9 = .ok (.if_icmp .ne 7, 3) := by decide +kernel
theorem dX5_isClosed_12 : decode cX5_isClosed 12 = .ok (.iconst 1, 1) := by decide +kernel
theorem dX5_isClosed_13 : decode cX5_isClosed 13 = .ok (.goto 4, 3) := by decide +kernel
theorem dX5_isClosed_16 : decode cX5_isClosed 16 = .ok (.iconst 0, 1) := by decide +kernel
theorem dX5_isClosed_17 : decode cX5_isClosed 17 = .ok (.if_icmp .ne 7, 3) := by decide +kernel
theorem dX5_isClosed_20 : decode cX5_isClosed 20 = .ok (.iconst 1, 1) := by decide +kernel
theorem dX5_isClosed_21 : decode cX5_isClosed 21 = .ok (.goto 4, 3) := by decide +kernel
theorem dX5_isClosed_24 : decode cX5_isClosed 24 = .ok (.iconst 0, 1) := by decide +kernel
theorem dX5_isClosed_25 : decode cX5_isClosed 25 = .ok (.ireturn, 1) := by decide +kernel
theorem dX5_isPulledBy_0 : decode cX5_isPulledBy 0 = .ok (.aload_n 0, 1) := by decide +kernel
theorem dX5_isPulledBy_1 : decode cX5_isPulledBy 1 = .ok (.getfield 49, 3) := by decide +kernel
theorem dX5_isPulledBy_4 : decode cX5_isPulledBy 4 = .ok (.ifCond .eq 19, 3) := by decide +kernel
theorem dX5_isPulledBy_7 : decode cX5_isPulledBy 7 = .ok (.iload_n 1, 1) := by decide +kernel
theorem dX5_isPulledBy_8 : decode cX5_isPulledBy 8 = .ok (.aload_n 0, 1) := by decide +kernel
theorem dX5_isPulledBy_9 : decode cX5_isPulledBy 9 = .ok (.getfield 21, 3) := by decide +kernel
theorem dX5_isPulledBy_12 : decode cX5_isPulledBy 12 = .ok (.if_icmp .gt 7, 3) := by decide +kernel
theorem dX5_isPulledBy_15 : decode cX5_isPulledBy 15 = .ok (.iconst 1, 1) := by decide +kernel
theorem dX5_isPulledBy_16 : decode cX5_isPulledBy 16 = .ok (.goto 20, 3) := by decide +kernel
theorem dX5_isPulledBy_19 : decode cX5_isPulledBy 19 = .ok (.iconst 0, 1) := by decide +kernel
theorem dX5_isPulledBy_20 : decode cX5_isPulledBy 20 = .ok (.goto 16, 3) := by decide +kernel
theorem dX5_isPulledBy_23 : decode cX5_isPulledBy 23 = .ok (.iload_n 1, 1) := by decide +kernel
theorem dX5_isPulledBy_24 : decode cX5_isPulledBy 24 = .ok (.aload_n 0, 1) := by decide +kernel
theorem dX5_isPulledBy_25 : decode cX5_isPulledBy 25 = .ok (.getfield 25, 3) := by decide +kernel
theorem dX5_isPulledBy_28 : decode cX5_isPulledBy 28 = .ok (.if_icmp .lt 7, 3) := by decide +kernel
theorem dX5_isPulledBy_31 : decode cX5_isPulledBy 31 = .ok (.iconst 1, 1) := by decide +kernel
theorem dX5_isPulledBy_32 : decode cX5_isPulledBy 32 = .ok (.goto 4, 3) := by decide +kernel
theorem dX5_isPulledBy_35 : decode cX5_isPulledBy 35 = .ok (.iconst 0, 1) := by decide +kernel
theorem dX5_isPulledBy_36 : decode cX5_isPulledBy 36 = .ok (.ireturn, 1) := by decide +kernel
theorem dX5_changesBy_0 : decode cX5_changesBy 0 = .ok (.aload_n 0, 1) := by decide +kernel
theorem dX5_changesBy_1 : decode cX5_changesBy 1 = .ok (.iload_n 1, 1) := by decide +kernel
theorem dX5_changesBy_2 : decode cX5_changesBy 2 = .ok (.invokevirtual 57, 3) := by decide +kernel
theorem dX5_changesBy_5 : decode cX5_changesBy 5 = .ok (.ifCond .ne 10, 3) := by decide +kernel
theorem dX5_changesBy_8 : decode cX5_changesBy 8 = .ok (.aload_n 0, 1) := by decide +kernel
theorem dX5_changesBy_9 : decode cX5_changesBy 9 = .ok (.iconst 0, 1) := by decide +kernel
theorem dX5_changesBy_10 : decode cX5_changesBy 10 = .ok (.putfield 40, 3) := by decide +kernel
theorem dX5_changesBy_13 : decode cX5_changesBy 13 = .ok (.iconst 0, 1) := by decide +kernel
theorem dX5_changesBy_14 : decode cX5_changesBy 14 = .ok (.ireturn, 1) := by decide +kernel
theorem dX5_changesBy_15 : decode cX5_changesBy 15 = .ok (.aload_n 0, 1) := by decide +kernel
theorem dX5_changesBy_16 : decode cX5_changesBy 16 = .ok (.getfield 40, 3) := by decide +kernel
theorem dX5_changesBy_19 : decode cX5_changesBy 19 = .ok (.aload_n 0, 1) := by decide +kernel
theorem dX5_changesBy_20 : decode cX5_changesBy 20 = .ok (.getfield 37, 3) := by decide +kernel
theorem dX5_changesBy_23 : decode cX5_changesBy 23 = .ok (.if_icmp .ge 15, 3) := by decide +kernel
theorem dX5_changesBy_26 : decode cX5_changesBy 26 = .ok (.aload_n 0, 1) := by decide +kernel
theorem dX5_changesBy_27 : decode cX5_changesBy 27 = .ok (.dup, 1) := by decide +kernel
theorem dX5_changesBy_28 : decode cX5_changesBy 28 = .ok (.getfield 40, 3) := by decide +kernel
theorem dX5_changesBy_31 : decode cX5_changesBy 31 = .ok (.iconst 1, 1) := by decide +kernel
theorem dX5_changesBy_32 : decode cX5_changesBy 32 = .ok (.iadd, 1) := by decide +kernel
theorem dX5_changesBy_33 : decode cX5_changesBy 33 = .ok (.putfield 40, 3) := by decide +kernel
theorem dX5_changesBy_36 : decode cX5_changesBy 36 = .ok (.iconst 0, 1) := by decide +kernel
theorem dX5_changesBy_37 : decode cX5_changesBy 37 = .ok (.ireturn, 1) := by decide +kernel
theorem dX5_changesBy_38 : decode cX5_changesBy 38 = .ok (.aload_n 0, 1) := by decide +kernel
theorem dX5_changesBy_39 : decode cX5_changesBy 39 = .ok (.iconst 0, 1) := by decide +kernel
theorem dX5_changesBy_40 : decode cX5_changesBy 40 = .ok (.putfield 40, 3) := by decide +kernel
theorem dX5_changesBy_43 : decode cX5_changesBy 43 = .ok (.aload_n 0, 1) := by decide +kernel
theorem dX5_changesBy_44 : decode cX5_changesBy 44 = .ok (.aload_n 0, 1) := by decide +kernel
theorem dX5_changesBy_45 : decode cX5_changesBy 45 = .ok (.getfield 49, 3) := by decide +kernel
theorem dX5_changesBy_48 : decode cX5_changesBy 48 = .ok (.ifCond .ne 7, 3) := by decide +kernel
theorem dX5_changesBy_51 : decode cX5_changesBy 51 = .ok (.iconst 1, 1) := by decide +kernel
theorem dX5_changesBy_52 : decode cX5_changesBy 52 = .ok (.goto 4, 3) := by decide +kernel
theorem dX5_changesBy_55 : decode cX5_changesBy 55 = .ok (.iconst 0, 1) := by decide +kernel
theorem dX5_changesBy_56 : decode cX5_changesBy 56 = .ok (.putfield 49, 3) := by decide +kernel
theorem dX5_changesBy_59 : decode cX5_changesBy 59 = .ok (.iconst 1, 1) := by decide +kernel
theorem dX5_changesBy_60 : decode cX5_changesBy 60 = .ok (.ireturn, 1) := by decide +kernel
theorem dX5_getTired_0 : decode cX5_getTired 0 = .ok (.iload_n 1, 1) := by decide +kernel
theorem dX5_getTired_1 : decode cX5_getTired 1 = .ok (.ifCond .le 35, 3) := by decide +kernel
theorem dX5_getTired_4 : decode cX5_getTired 4 = .ok (.aload_n 0, 1) := by decide +kernel
theorem dX5_getTired_5 : decode cX5_getTired 5 = .ok (.getfield 43, 3) := by decide +kernel
theorem dX5_getTired_8 : decode cX5_getTired 8 = .ok (.iload_n 1, 1) := by decide +kernel
theorem dX5_getTired_9 : decode cX5_getTired 9 = .ok (.irem, 1) := by decide +kernel
theorem dX5_getTired_10 : decode cX5_getTired 10 = .ok (.ifCond .ne 26, 3) := by decide +kernel
theorem dX5_getTired_13 : decode cX5_getTired 13 = .ok (.aload_n 0, 1) := by decide +kernel
theorem dX5_getTired_14 : decode cX5_getTired 14 = .ok (.getfield 25, 3) := by decide +kernel
theorem dX5_getTired_17 : decode cX5_getTired 17 = .ok (.iload_n 2, 1) := by decide +kernel
theorem dX5_getTired_18 : decode cX5_getTired 18 = .ok (.isub, 1) := by decide +kernel
theorem dX5_getTired_19 : decode cX5_getTired 19 = .ok (.aload_n 0, 1) := by decide +kernel
theorem dX5_getTired_20 : decode cX5_getTired 20 = .ok (.getfield 21, 3) := by decide +kernel
theorem dX5_getTired_23 : decode cX5_getTired 23 = .ok (.if_icmp .le 13, 3) := by decide +kernel
theorem dX5_getTired_26 : decode cX5_getTired 26 = .ok (.aload_n 0, 1) := by decide +kernel
theorem dX5_getTired_27 : decode cX5_getTired 27 = .ok (.dup, 1) := by decide +kernel
theorem dX5_getTired_28 : decode cX5_getTired 28 = .ok (.getfield 25, 3) := by decide +kernel
theorem dX5_getTired_31 : decode cX5_getTired 31 = .ok (.iload_n 2, 1) := by decide +kernel
theorem dX5_getTired_32 : decode cX5_getTired 32 = .ok (.isub, 1) := by decide +kernel
theorem dX5_getTired_33 : decode cX5_getTired 33 = .ok (.putfield 25, 3) := by decide +kernel
theorem dX5_getTired_36 : decode cX5_getTired 36 = .ok (.return_, 1) := by decide +kernel
theorem dX6_init_0 : decode cX6_init 0 = .ok (.aload_n 0, 1) := by decide +kernel
theorem dX6_init_1 : decode cX6_init 1 = .ok (.invokespecial 5, 3) := by decide +kernel
theorem dX6_init_4 : decode cX6_init 4 = .ok (.aload_n 0, 1) := by decide +kernel
theorem dX6_init_5 : decode cX6_init 5 = .ok (.bipush 60, 2) := by decide +kernel
theorem dX6_init_7 : decode cX6_init 7 = .ok (.newarray .char, 2) := by decide +kernel
theorem dX6_init_9 : decode cX6_init 9 = .ok (.putfield 11, 3) := by decide +kernel
theorem dX6_init_12 : decode cX6_init 12 = .ok (.return_, 1) := by decide +kernel
theorem dX6_append_0 : decode cX6_append 0 = .ok (.aload_n 0, 1) := by decide +kernel
theorem dX6_append_1 : decode cX6_append 1 = .ok (.getfield 15, 3) := by decide +kernel
theorem dX6_append_4 : decode cX6_append 4 = .ok (.bipush 60, 2) := by decide +kernel
theorem dX6_append_6 : decode cX6_append 6 = .ok (.if_icmp .ge 23, 3) := by decide +kernel
theorem dX6_append_9 : decode cX6_append 9 = .ok (.aload_n 0, 1) := by decide +kernel
theorem dX6_append_10 : decode cX6_append 10 = .ok (.getfield 11, 3) := by decide +kernel
theorem dX6_append_13 : decode cX6_append 13 = .ok (.aload_n 0, 1) := by decide +kernel
theorem dX6_append_14 : decode cX6_append 14 = .ok (.getfield 15, 3) := by decide +kernel
theorem dX6_append_17 : decode cX6_append 17 = .ok (.iload_n 1, 1) := by decide +kernel
theorem dX6_append_18 : decode cX6_append 18 = .ok (.castore, 1) := by decide +kernel
theorem dX6_append_19 : decode cX6_append 19 = .ok (.aload_n 0, 1) := by decide +kernel
theorem dX6_append_20 : decode cX6_append 20 = .ok (.dup, 1) := by decide +kernel
theorem dX6_append_21 : decode cX6_append 21 = .ok (.getfield 15, 3) := by decide +kernel
theorem dX6_append_24 : decode cX6_append 24 = .ok (.iconst 1, 1) := by decide +kernel
theorem dX6_append_25 : decode cX6_append 25 = .ok (.iadd, 1) := by decide +kernel
theorem dX6_append_26 : decode cX6_append 26 = .ok (.putfield 15, 3) := by decide +kernel
theorem dX6_append_29 : decode cX6_append 29 = .ok (.return_, 1) := by decide +kernel
theorem dX6_faultyPlace_0 : decode cX6_faultyPlace 0 = .ok (.aload_n 0, 1) := by decide +kernel
