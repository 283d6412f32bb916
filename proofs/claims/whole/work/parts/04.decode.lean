/-! decode rows -/
theorem dX6_faultyPlace_1 : decode cX6_faultyPlace 1 = .ok (.getfield 15, 3) := by decide +kernel
theorem dX6_faultyPlace_4 : decode cX6_faultyPlace 4 = .ok (.bipush 32, 2) := by decide +kernel
theorem dX6_faultyPlace_6 : decode cX6_faultyPlace 6 = .ok (.invokestatic 19, 3) := by decide +kernel
theorem dX6_faultyPlace_9 : decode cX6_faultyPlace 9 = .ok (.istore_n 1, 1) := by decide +kernel
theorem dX6_faultyPlace_10 : decode cX6_faultyPlace 10 = .ok (.iconst 0, 1) := by decide +kernel
theorem dX6_faultyPlace_11 : decode cX6_faultyPlace 11 = .ok (.istore_n 2, 1) := by decide +kernel
theorem dX6_faultyPlace_12 : decode cX6_faultyPlace 12 = .ok (.iload_n 2, 1) := by decide +kernel
theorem dX6_faultyPlace_13 : decode cX6_faultyPlace 13 = .ok (.iload_n 1, 1) := by decide +kernel
theorem dX6_faultyPlace_14 : decode cX6_faultyPlace 14 = .ok (.if_icmp .ge 19, 3) := by decide +kernel
theorem dX6_faultyPlace_17 : decode cX6_faultyPlace 17 = .ok (.aload_n 0, 1) := by decide +kernel
theorem dX6_faultyPlace_18 : decode cX6_faultyPlace 18 = .ok (.iload_n 2, 1) := by decide +kernel
theorem dX6_faultyPlace_19 : decode cX6_faultyPlace 19 = .ok (.invokevirtual 25, 3) := by decide +kernel
theorem dX6_faultyPlace_22 : decode cX6_faultyPlace 22 = .ok (.ifCond .ne 5, 3) := by decide +kernel
theorem dX6_faultyPlace_25 : decode cX6_faultyPlace 25 = .ok (.iload_n 2, 1) := by decide +kernel
theorem dX6_faultyPlace_26 : decode cX6_faultyPlace 26 = .ok (.ireturn, 1) := by decide +kernel
theorem dX6_faultyPlace_27 : decode cX6_faultyPlace 27 = .ok (.iinc 2 1, 3) := by decide +kernel
theorem dX6_faultyPlace_30 : decode cX6_faultyPlace 30 = .ok (.goto (-18), 3) := by decide +kernel
theorem dX6_faultyPlace_33 : decode cX6_faultyPlace 33 = .ok (.aload_n 0, 1) := by decide +kernel
theorem dX6_faultyPlace_34 : decode cX6_faultyPlace 34 = .ok (.getfield 15, 3) := by decide +kernel
theorem dX6_faultyPlace_37 : decode cX6_faultyPlace 37 = .ok (.bipush 32, 2) := by decide +kernel
theorem dX6_faultyPlace_39 : decode cX6_faultyPlace 39 = .ok (.if_icmp .le 6, 3) := by decide +kernel
theorem dX6_faultyPlace_42 : decode cX6_faultyPlace 42 = .ok (.bipush 32, 2) := by decide +kernel
theorem dX6_faultyPlace_44 : decode cX6_faultyPlace 44 = .ok (.ireturn, 1) := by decide +kernel
theorem dX6_faultyPlace_45 : decode cX6_faultyPlace 45 = .ok (.aload_n 0, 1) := by decide +kernel
theorem dX6_faultyPlace_46 : decode cX6_faultyPlace 46 = .ok (.getfield 15, 3) := by decide +kernel
theorem dX6_faultyPlace_49 : decode cX6_faultyPlace 49 = .ok (.ifCond .eq 13, 3) := by decide +kernel
theorem dX6_faultyPlace_52 : decode cX6_faultyPlace 52 = .ok (.aload_n 0, 1) := by decide +kernel
theorem dX6_faultyPlace_53 : decode cX6_faultyPlace 53 = .ok (.getfield 15, 3) := by decide +kernel
theorem dX6_faultyPlace_56 : decode cX6_faultyPlace 56 = .ok (.iconst 4, 1) := by decide +kernel
theorem dX6_faultyPlace_57 : decode cX6_faultyPlace 57 = .ok (.irem, 1) := by decide +kernel
theorem dX6_faultyPlace_58 : decode cX6_faultyPlace 58 = .ok (.iconst 3, 1) := by decide +kernel
theorem dX6_faultyPlace_59 : decode cX6_faultyPlace 59 = .ok (.if_icmp .ne 7, 3) := by decide +kernel
theorem dX6_faultyPlace_62 : decode cX6_faultyPlace 62 = .ok (.iconst (-1), 1) := by decide +kernel
theorem dX6_faultyPlace_63 : decode cX6_faultyPlace 63 = .ok (.goto 7, 3) := by decide +kernel
theorem dX6_faultyPlace_66 : decode cX6_faultyPlace 66 = .ok (.aload_n 0, 1) := by decide +kernel
theorem dX6_faultyPlace_67 : decode cX6_faultyPlace 67 = .ok (.getfield 15, 3) := by decide +kernel
theorem dX6_faultyPlace_70 : decode cX6_faultyPlace 70 = .ok (.ireturn, 1) := by decide +kernel
theorem dX6_reasonAt_0 : decode cX6_reasonAt 0 = .ok (.iload_n 1, 1) := by decide +kernel
theorem dX6_reasonAt_1 : decode cX6_reasonAt 1 = .ok (.bipush 32, 2) := by decide +kernel
theorem dX6_reasonAt_3 : decode cX6_reasonAt 3 = .ok (.if_icmp .ne 16, 3) := by decide +kernel
theorem dX6_reasonAt_6 : decode cX6_reasonAt 6 = .ok (.aload_n 0, 1) := by decide +kernel
theorem dX6_reasonAt_7 : decode cX6_reasonAt 7 = .ok (.getfield 15, 3) := by decide +kernel
theorem dX6_reasonAt_10 : decode cX6_reasonAt 10 = .ok (.bipush 32, 2) := by decide +kernel
theorem dX6_reasonAt_12 : decode cX6_reasonAt 12 = .ok (.if_icmp .le 7, 3) := by decide +kernel
theorem dX6_reasonAt_15 : decode cX6_reasonAt 15 = .ok (.iconst 2, 1) := by decide +kernel
theorem dX6_reasonAt_16 : decode cX6_reasonAt 16 = .ok (.goto 4, 3) := by decide +kernel
theorem dX6_reasonAt_19 : decode cX6_reasonAt 19 = .ok (.iconst 1, 1) := by decide +kernel
theorem dX6_reasonAt_20 : decode cX6_reasonAt 20 = .ok (.ireturn, 1) := by decide +kernel
theorem dX6_canStandAt_0 : decode cX6_canStandAt 0 = .ok (.aload_n 0, 1) := by decide +kernel
theorem dX6_canStandAt_1 : decode cX6_canStandAt 1 = .ok (.getfield 11, 3) := by decide +kernel
theorem dX6_canStandAt_4 : decode cX6_canStandAt 4 = .ok (.iload_n 1, 1) := by decide +kernel
theorem dX6_canStandAt_5 : decode cX6_canStandAt 5 = .ok (.caload, 1) := by decide +kernel
theorem dX6_canStandAt_6 : decode cX6_canStandAt 6 = .ok (.istore_n 2, 1) := by decide +kernel
theorem dX6_canStandAt_7 : decode cX6_canStandAt 7 = .ok (.iload_n 1, 1) := by decide +kernel
theorem dX6_canStandAt_8 : decode cX6_canStandAt 8 = .ok (.iconst 4, 1) := by decide +kernel
theorem dX6_canStandAt_9 : decode cX6_canStandAt 9 = .ok (.irem, 1) := by decide +kernel
theorem dX6_canStandAt_10 : decode cX6_canStandAt 10 = .ok (.lookupswitch 47 #[(0, 26), (3, 35)], 26) := by decide +kernel
theorem dX6_canStandAt_36 : decode cX6_canStandAt 36 = .ok (.iload_n 2, 1) := by decide +kernel
theorem dX6_canStandAt_37 : decode cX6_canStandAt 37 = .ok (.bipush 49, 2) := by decide +kernel
theorem dX6_canStandAt_39 : decode cX6_canStandAt 39 = .ok (.bipush 57, 2) := by decide +kernel
theorem dX6_canStandAt_41 : decode cX6_canStandAt 41 = .ok (.invokestatic 29, 3) := by decide +kernel
theorem dX6_canStandAt_44 : decode cX6_canStandAt 44 = .ok (.ireturn, 1) := by decide +kernel
theorem dX6_canStandAt_45 : decode cX6_canStandAt 45 = .ok (.iload_n 2, 1) := by decide +kernel
theorem dX6_canStandAt_46 : decode cX6_canStandAt 46 = .ok (.bipush 44, 2) := by decide +kernel
theorem dX6_canStandAt_48 : decode cX6_canStandAt 48 = .ok (.if_icmp .ne 7, 3) := by decide +kernel
theorem dX6_canStandAt_51 : decode cX6_canStandAt 51 = .ok (.iconst 1, 1) := by decide +kernel
theorem dX6_canStandAt_52 : decode cX6_canStandAt 52 = .ok (.goto 4, 3) := by decide +kernel
theorem dX6_canStandAt_55 : decode cX6_canStandAt 55 = .ok (.iconst 0, 1) := by decide +kernel
theorem dX6_canStandAt_56 : decode cX6_canStandAt 56 = .ok (.ireturn, 1) := by decide +kernel
theorem dX6_canStandAt_57 : decode cX6_canStandAt 57 = .ok (.iload_n 2, 1) := by decide +kernel
theorem dX6_canStandAt_58 : decode cX6_canStandAt 58 = .ok (.bipush 97, 2) := by decide +kernel
theorem dX6_canStandAt_60 : decode cX6_canStandAt 60 = .ok (.bipush 102, 2) := by decide +kernel
theorem dX6_canStandAt_62 : decode cX6_canStandAt 62 = .ok (.invokestatic 29, 3) := by decide +kernel
theorem dX6_canStandAt_65 : decode cX6_canStandAt 65 = .ok (.ireturn, 1) := by decide +kernel
theorem dX6_parts_0 : decode cX6_parts 0 = .ok (.aload_n 0, 1) := by decide +kernel
theorem dX6_parts_1 : decode cX6_parts 1 = .ok (.getfield 15, 3) := by decide +kernel
theorem dX6_parts_4 : decode cX6_parts 4 = .ok (.iconst 1, 1) := by decide +kernel
theorem dX6_parts_5 : decode cX6_parts 5 = .ok (.iadd, 1) := by decide +kernel
theorem dX6_parts_6 : decode cX6_parts 6 = .ok (.iconst 4, 1) := by decide +kernel
theorem dX6_parts_7 : decode cX6_parts 7 = .ok (.idiv, 1) := by decide +kernel
theorem dX6_parts_8 : decode cX6_parts 8 = .ok (.ireturn, 1) := by decide +kernel
theorem dX6_lengthOfPart_0 : decode cX6_lengthOfPart 0 = .ok (.aload_n 0, 1) := by decide +kernel
theorem dX6_lengthOfPart_1 : decode cX6_lengthOfPart 1 = .ok (.getfield 11, 3) := by decide +kernel
theorem dX6_lengthOfPart_4 : decode cX6_lengthOfPart 4 = .ok (.iload_n 1, 1) := by decide +kernel
theorem dX6_lengthOfPart_5 : decode cX6_lengthOfPart 5 = .ok (.iconst 4, 1) := by decide +kernel
theorem dX6_lengthOfPart_6 : decode cX6_lengthOfPart 6 = .ok (.imul, 1) := by decide +kernel
theorem dX6_lengthOfPart_7 : decode cX6_lengthOfPart 7 = .ok (.caload, 1) := by decide +kernel
theorem dX6_lengthOfPart_8 : decode cX6_lengthOfPart 8 = .ok (.bipush 48, 2) := by decide +kernel
theorem dX6_lengthOfPart_10 : decode cX6_lengthOfPart 10 = .ok (.isub, 1) := by decide +kernel
theorem dX6_lengthOfPart_11 : decode cX6_lengthOfPart 11 = .ok (.ireturn, 1) := by decide +kernel
theorem dX6_upperOfPart_0 : decode cX6_upperOfPart 0 = .ok (.aload_n 0, 1) := by decide +kernel
theorem dX6_upperOfPart_1 : decode cX6_upperOfPart 1 = .ok (.getfield 11, 3) := by decide +kernel
theorem dX6_upperOfPart_4 : decode cX6_upperOfPart 4 = .ok (.iload_n 1, 1) := by decide +kernel
theorem dX6_upperOfPart_5 : decode cX6_upperOfPart 5 = .ok (.iconst 4, 1) := by decide +kernel
theorem dX6_upperOfPart_6 : decode cX6_upperOfPart 6 = .ok (.imul, 1) := by decide +kernel
theorem dX6_upperOfPart_7 : decode cX6_upperOfPart 7 = .ok (.iconst 1, 1) := by decide +kernel
theorem dX6_upperOfPart_8 : decode cX6_upperOfPart 8 = .ok (.iadd, 1) := by decide +kernel
theorem dX6_upperOfPart_9 : decode cX6_upperOfPart 9 = .ok (.caload, 1) := by decide +kernel
theorem dX6_upperOfPart_10 : decode cX6_upperOfPart 10 = .ok (.bipush 97, 2) := by decide +kernel
theorem dX6_upperOfPart_12 : decode cX6_upperOfPart 12 = .ok (.isub, 1) := by decide +kernel
theorem dX6_upperOfPart_13 : decode cX6_upperOfPart 13 = .ok (.ireturn, 1) := by decide +kernel
theorem dX6_lowerOfPart_0 : decode cX6_lowerOfPart 0 = .ok (.aload_n 0, 1) := by decide +kernel
theorem dX6_lowerOfPart_1 : decode cX6_lowerOfPart 1 = .ok (.getfield 11, 3) := by decide +kernel
theorem dX6_lowerOfPart_4 : decode cX6_lowerOfPart 4 = .ok (.iload_n 1, 1) := by decide +kernel
theorem dX6_lowerOfPart_5 : decode cX6_lowerOfPart 5 = .ok (.iconst 4, 1) := by decide +kernel
theorem dX6_lowerOfPart_6 : decode cX6_lowerOfPart 6 = .ok (.imul, 1) := by decide +kernel
theorem dX6_lowerOfPart_7 : decode cX6_lowerOfPart 7 = .ok (.iconst 2, 1) := by decide +kernel
theorem dX6_lowerOfPart_8 : decode cX6_lowerOfPart 8 = .ok (.iadd, 1) := by decide +kernel
theorem dX6_lowerOfPart_9 : decode cX6_lowerOfPart 9 = .ok (.caload, 1) := by decide +kernel
theorem dX6_lowerOfPart_10 : decode cX6_lowerOfPart 10 = .ok (.bipush 97, 2) := by decide +kernel
theorem dX6_lowerOfPart_12 : decode cX6_lowerOfPart 12 = .ok (.isub, 1) := by decide +kernel
theorem dX6_lowerOfPart_13 : decode cX6_lowerOfPart 13 = .ok (.ireturn, 1) := by decide +kernel
theorem dX7_init_0 : decode cX7_init 0 = .ok (.aload_n 0, 1) := by decide +kernel
theorem dX7_init_1 : decode cX7_init 1 = .ok (.invokespecial 1, 3) := by decide +kernel
theorem dX7_init_4 : decode cX7_init 4 = .ok (.aload_n 0, 1) := by decide +kernel
theorem dX7_init_5 : decode cX7_init 5 = .ok (.new 7, 3) := by decide +kernel
theorem dX7_init_8 : decode cX7_init 8 = .ok (.dup, 1) := by decide +kernel
theorem dX7_init_9 : decode cX7_init 9 = .ok (.invokespecial 9, 3) := by decide +kernel
theorem dX7_init_12 : decode cX7_init 12 = .ok (.putfield 10, 3) := by decide +kernel
theorem dX7_init_15 : decode cX7_init 15 = .ok (.aload_n 0, 1) := by decide +kernel
theorem dX7_init_16 : decode cX7_init 16 = .ok (.new 16, 3) := by decide +kernel
theorem dX7_init_19 : decode cX7_init 19 = .ok (.dup, 1) := by decide +kernel
theorem dX7_init_20 : decode cX7_init 20 = .ok (.invokespecial 18, 3) := by decide +kernel
theorem dX7_init_23 : decode cX7_init 23 = .ok (.putfield 19, 3) := by decide +kernel
theorem dX7_init_26 : decode cX7_init 26 = .ok (.aload_n 0, 1) := by decide +kernel
theorem dX7_init_27 : decode cX7_init 27 = .ok (.new 23, 3) := by decide +kernel
theorem dX7_init_30 : decode cX7_init 30 = .ok (.dup, 1) := by decide +kernel
theorem dX7_init_31 : decode cX7_init 31 = .ok (.invokespecial 25, 3) := by decide +kernel
theorem dX7_init_34 : decode cX7_init 34 = .ok (.putfield 26, 3) := by decide +kernel
theorem dX7_init_37 : decode cX7_init 37 = .ok (.aload_n 0, 1) := by decide +kernel
theorem dX7_init_38 : decode cX7_init 38 = .ok (.new 30, 3) := by decide +kernel
theorem dX7_init_41 : decode cX7_init 41 = .ok (.dup, 1) := by decide +kernel
theorem dX7_init_42 : decode cX7_init 42 = .ok (.invokespecial 32, 3) := by decide +kernel
theorem dX7_init_45 : decode cX7_init 45 = .ok (.putfield 33, 3) := by decide +kernel
theorem dX7_init_48 : decode cX7_init 48 = .ok (.aload_n 0, 1) := by decide +kernel
theorem dX7_init_49 : decode cX7_init 49 = .ok (.new 37, 3) := by decide +kernel
theorem dX7_init_52 : decode cX7_init 52 = .ok (.dup, 1) := by decide +kernel
theorem dX7_init_53 : decode cX7_init 53 = .ok (.invokespecial 39, 3) := by decide +kernel
theorem dX7_init_56 : decode cX7_init 56 = .ok (.putfield 40, 3) := by decide +kernel
theorem dX7_init_59 : decode cX7_init 59 = .ok (.aload_n 0, 1) := by decide +kernel
theorem dX7_init_60 : decode cX7_init 60 = .ok (.iconst 0, 1) := by decide +kernel
theorem dX7_init_61 : decode cX7_init 61 = .ok (.putfield 44, 3) := by decide +kernel
theorem dX7_init_64 : decode cX7_init 64 = .ok (.return_, 1) := by decide +kernel
theorem dX7_metal_0 : decode cX7_metal 0 = .ok (.iload_n 1, 1) := by decide +kernel
theorem dX7_metal_1 : decode cX7_metal 1 = .ok (.iconst 0, 1) := by decide +kernel
theorem dX7_metal_2 : decode cX7_metal 2 = .ok (.iconst 5, 1) := by decide +kernel
theorem dX7_metal_3 : decode cX7_metal 3 = .ok (.invokestatic 48, 3) := by decide +kernel
theorem dX7_metal_6 : decode cX7_metal 6 = .ok (.ifCond .eq 13, 3) := by decide +kernel
theorem dX7_metal_9 : decode cX7_metal 9 = .ok (.iload_n 2, 1) := by decide +kernel
theorem dX7_metal_10 : decode cX7_metal 10 = .ok (.iconst 0, 1) := by decide +kernel
theorem dX7_metal_11 : decode cX7_metal 11 = .ok (.bipush 30, 2) := by decide +kernel
theorem dX7_metal_13 : decode cX7_metal 13 = .ok (.invokestatic 48, 3) := by decide +kernel
theorem dX7_metal_16 : decode cX7_metal 16 = .ok (.ifCond .ne 6, 3) := by decide +kernel
theorem dX7_metal_19 : decode cX7_metal 19 = .ok (.ldc 52, 2) := by decide +kernel
theorem dX7_metal_21 : decode cX7_metal 21 = .ok (.ireturn, 1) := by decide +kernel
theorem dX7_metal_22 : decode cX7_metal 22 = .ok (.aload_n 0, 1) := by decide +kernel
theorem dX7_metal_23 : decode cX7_metal 23 = .ok (.invokevirtual 53, 3) := by decide +kernel
theorem dX7_metal_26 : decode cX7_metal 26 = .ok (.aload_n 0, 1) := by decide +kernel
theorem dX7_metal_27 : decode cX7_metal 27 = .ok (.getfield 10, 3) := by decide +kernel
theorem dX7_metal_30 : decode cX7_metal 30 = .ok (.getfield 56, 3) := by decide +kernel
theorem dX7_metal_33 : decode cX7_metal 33 = .ok (.iload_n 1, 1) := by decide +kernel
theorem dX7_metal_34 : decode cX7_metal 34 = .ok (.iaload, 1) := by decide +kernel
theorem dX7_metal_35 : decode cX7_metal 35 = .ok (.istore_n 3, 1) := by decide +kernel
theorem dX7_metal_36 : decode cX7_metal 36 = .ok (.aload_n 0, 1) := by decide +kernel
theorem dX7_metal_37 : decode cX7_metal 37 = .ok (.getfield 10, 3) := by decide +kernel
theorem dX7_metal_40 : decode cX7_metal 40 = .ok (.getfield 56, 3) := by decide +kernel
theorem dX7_metal_43 : decode cX7_metal 43 = .ok (.iload_n 1, 1) := by decide +kernel
theorem dX7_metal_44 : decode cX7_metal 44 = .ok (.iload_n 2, 1) := by decide +kernel
theorem dX7_metal_45 : decode cX7_metal 45 = .ok (.iastore, 1) := by decide +kernel
theorem dX7_metal_46 : decode cX7_metal 46 = .ok (.iload_n 3, 1) := by decide +kernel
theorem dX7_metal_47 : decode cX7_metal 47 = .ok (.ireturn, 1) := by decide +kernel
theorem dX7_part_0 : decode cX7_part 0 = .ok (.iload_n 1, 1) := by decide +kernel
theorem dX7_part_1 : decode cX7_part 1 = .ok (.invokestatic 60, 3) := by decide +kernel
theorem dX7_part_4 : decode cX7_part 4 = .ok (.ifCond .eq 32, 3) := by decide +kernel
theorem dX7_part_7 : decode cX7_part 7 = .ok (.iload_n 2, 1) := by decide +kernel
theorem dX7_part_8 : decode cX7_part 8 = .ok (.iconst 1, 1) := by decide +kernel
theorem dX7_part_9 : decode cX7_part 9 = .ok (.bipush 9, 2) := by decide +kernel
theorem dX7_part_11 : decode cX7_part 11 = .ok (.invokestatic 48, 3) := by decide +kernel
theorem dX7_part_14 : decode cX7_part 14 = .ok (.ifCond .eq 22, 3) := by decide +kernel
theorem dX7_part_17 : decode cX7_part 17 = .ok (.iload_n 3, 1) := by decide +kernel
theorem dX7_part_18 : decode cX7_part 18 = .ok (.iconst 0, 1) := by decide +kernel
theorem dX7_part_19 : decode cX7_part 19 = .ok (.iconst 5, 1) := by decide +kernel
theorem dX7_part_20 : decode cX7_part 20 = .ok (.invokestatic 48, 3) := by decide +kernel
theorem dX7_part_23 : decode cX7_part 23 = .ok (.ifCond .eq 13, 3) := by decide +kernel
theorem dX7_part_26 : decode cX7_part 26 = .ok (.iload 4, 2) := by decide +kernel
theorem dX7_part_28 : decode cX7_part 28 = .ok (.iconst 0, 1) := by decide +kernel
theorem dX7_part_29 : decode cX7_part 29 = .ok (.iconst 5, 1) := by decide +kernel
theorem dX7_part_30 : decode cX7_part 30 = .ok (.invokestatic 48, 3) := by decide +kernel
theorem dX7_part_33 : decode cX7_part 33 = .ok (.ifCond .ne 6, 3) := by decide +kernel
theorem dX7_part_36 : decode cX7_part 36 = .ok (.ldc 52, 2) := by decide +kernel
theorem dX7_part_38 : decode cX7_part 38 = .ok (.ireturn, 1) := by decide +kernel
theorem dX7_part_39 : decode cX7_part 39 = .ok (.aload_n 0, 1) := by decide +kernel
theorem dX7_part_40 : decode cX7_part 40 = .ok (.getfield 10, 3) := by decide +kernel
theorem dX7_part_43 : decode cX7_part 43 = .ok (.getfield 64, 3) := by decide +kernel
theorem dX7_part_46 : decode cX7_part 46 = .ok (.iload_n 1, 1) := by decide +kernel
theorem dX7_part_47 : decode cX7_part 47 = .ok (.aaload, 1) := by decide +kernel
theorem dX7_part_48 : decode cX7_part 48 = .ok (.astore 5, 2) := by decide +kernel
theorem dX7_part_50 : decode cX7_part 50 = .ok (.aload 5, 2) := by decide +kernel
theorem dX7_part_52 : decode cX7_part 52 = .ok (.getfield 68, 3) := by decide +kernel
theorem dX7_part_55 : decode cX7_part 55 = .ok (.bipush 8, 2) := by decide +kernel
theorem dX7_part_57 : decode cX7_part 57 = .ok (.if_icmp .lt 6, 3) := by decide +kernel
theorem dX7_part_60 : decode cX7_part 60 = .ok (.ldc 74, 2) := by decide +kernel
theorem dX7_part_62 : decode cX7_part 62 = .ok (.ireturn, 1) := by decide +kernel
theorem dX7_part_63 : decode cX7_part 63 = .ok (.aload_n 0, 1) := by decide +kernel
theorem dX7_part_64 : decode cX7_part 64 = .ok (.invokevirtual 53, 3) := by decide +kernel
theorem dX7_part_67 : decode cX7_part 67 = .ok (.aload 5, 2) := by decide +kernel
theorem dX7_part_69 : decode cX7_part 69 = .ok (.iload_n 2, 1) := by decide +kernel
theorem dX7_part_70 : decode cX7_part 70 = .ok (.iload_n 3, 1) := by decide +kernel
theorem dX7_part_71 : decode cX7_part 71 = .ok (.iload 4, 2) := by decide +kernel
theorem dX7_part_73 : decode cX7_part 73 = .ok (.invokevirtual 75, 3) := by decide +kernel
theorem dX7_part_76 : decode cX7_part 76 = .ok (.aload 5, 2) := by decide +kernel
theorem dX7_part_78 : decode cX7_part 78 = .ok (.getfield 68, 3) := by decide +kernel
theorem dX7_part_81 : decode cX7_part 81 = .ok (.ireturn, 1) := by decide +kernel
theorem dX7_cut_0 : decode cX7_cut 0 = .ok (.iload_n 1, 1) := by decide +kernel
theorem dX7_cut_1 : decode cX7_cut 1 = .ok (.invokestatic 60, 3) := by decide +kernel
theorem dX7_cut_4 : decode cX7_cut 4 = .ok (.ifCond .eq 13, 3) := by decide +kernel
theorem dX7_cut_7 : decode cX7_cut 7 = .ok (.iload_n 2, 1) := by decide +kernel
theorem dX7_cut_8 : decode cX7_cut 8 = .ok (.iconst 1, 1) := by decide +kernel
theorem dX7_cut_9 : decode cX7_cut 9 = .ok (.bipush 8, 2) := by decide +kernel
theorem dX7_cut_11 : decode cX7_cut 11 = .ok (.invokestatic 48, 3) := by decide +kernel
theorem dX7_cut_14 : decode cX7_cut 14 = .ok (.ifCond .ne 6, 3) := by decide +kernel
theorem dX7_cut_17 : decode cX7_cut 17 = .ok (.ldc 52, 2) := by decide +kernel
theorem dX7_cut_19 : decode cX7_cut 19 = .ok (.ireturn, 1) := by decide +kernel
theorem dX7_cut_20 : decode cX7_cut 20 = .ok (.aload_n 0, 1) := by decide +kernel
theorem dX7_cut_21 : decode cX7_cut 21 = .ok (.getfield 10, 3) := by decide +kernel
theorem dX7_cut_24 : decode cX7_cut 24 = .ok (.getfield 64, 3) := by decide +kernel
theorem dX7_cut_27 : decode cX7_cut 27 = .ok (.iload_n 1, 1) := by decide +kernel
theorem dX7_cut_28 : decode cX7_cut 28 = .ok (.aaload, 1) := by decide +kernel
theorem dX7_cut_29 : decode cX7_cut 29 = .ok (.astore_n 3, 1) := by decide +kernel
theorem dX7_cut_30 : decode cX7_cut 30 = .ok (.aload_n 3, 1) := by decide +kernel
theorem dX7_cut_31 : decode cX7_cut 31 = .ok (.getfield 68, 3) := by decide +kernel
theorem dX7_cut_34 : decode cX7_cut 34 = .ok (.iload_n 2, 1) := by decide +kernel
theorem dX7_cut_35 : decode cX7_cut 35 = .ok (.if_icmp .ge 6, 3) := by decide +kernel
theorem dX7_cut_38 : decode cX7_cut 38 = .ok (.ldc 79, 2) := by decide +kernel
theorem dX7_cut_40 : decode cX7_cut 40 = .ok (.ireturn, 1) := by decide +kernel
theorem dX7_cut_41 : decode cX7_cut 41 = .ok (.aload_n 0, 1) := by decide +kernel
theorem dX7_cut_42 : decode cX7_cut 42 = .ok (.invokevirtual 53, 3) := by decide +kernel
theorem dX7_cut_45 : decode cX7_cut 45 = .ok (.aload_n 3, 1) := by decide +kernel
theorem dX7_cut_46 : decode cX7_cut 46 = .ok (.dup, 1) := by decide +kernel
theorem dX7_cut_47 : decode cX7_cut 47 = .ok (.getfield 68, 3) := by decide +kernel
theorem dX7_cut_50 : decode cX7_cut 50 = .ok (.iload_n 2, 1) := by decide +kernel
theorem dX7_cut_51 : decode cX7_cut 51 = .ok (.isub, 1) := by decide +kernel
theorem dX7_cut_52 : decode cX7_cut 52 = .ok (.putfield 68, 3) := by decide +kernel
theorem dX7_cut_55 : decode cX7_cut 55 = .ok (.aload_n 3, 1) := by decide +kernel
theorem dX7_cut_56 : decode cX7_cut 56 = .ok (.getfield 68, 3) := by decide +kernel
theorem dX7_cut_59 : decode cX7_cut 59 = .ok (.ireturn, 1) := by decide +kernel
theorem dX7_bounds_0 : decode cX7_bounds 0 = .ok (.iload_n 1, 1) := by decide +kernel
theorem dX7_bounds_1 : decode cX7_bounds 1 = .ok (.invokestatic 60, 3) := by decide +kernel
theorem dX7_bounds_4 : decode cX7_bounds 4 = .ok (.ifCond .eq 36, 3) := by decide +kernel
theorem dX7_bounds_7 : decode cX7_bounds 7 = .ok (.iload_n 2, 1) := by decide +kernel
theorem dX7_bounds_8 : decode cX7_bounds 8 = .ok (.ldc 80, 2) := by decide +kernel
theorem dX7_bounds_10 : decode cX7_bounds 10 = .ok (.ldc 81, 2) := by decide +kernel
theorem dX7_bounds_12 : decode cX7_bounds 12 = .ok (.invokestatic 48, 3) := by decide +kernel
theorem dX7_bounds_15 : decode cX7_bounds 15 = .ok (.ifCond .eq 25, 3) := by decide +kernel
theorem dX7_bounds_18 : decode cX7_bounds 18 = .ok (.iload_n 3, 1) := by decide +kernel
theorem dX7_bounds_19 : decode cX7_bounds 19 = .ok (.iload_n 2, 1) := by decide +kernel
theorem dX7_bounds_20 : decode cX7_bounds 20 = .ok (.iconst 1, 1) := by decide +kernel
theorem dX7_bounds_21 : decode cX7_bounds 21 = .ok (.iadd, 1) := by decide +kernel
theorem dX7_bounds_22 : decode cX7_bounds 22 = .ok (.ldc 82, 2) := by decide +kernel
theorem dX7_bounds_24 : decode cX7_bounds 24 = .ok (.invokestatic 48, 3) := by decide +kernel
theorem dX7_bounds_27 : decode cX7_bounds 27 = .ok (.ifCond .eq 13, 3) := by decide +kernel
theorem dX7_bounds_30 : decode cX7_bounds 30 = .ok (.iload 4, 2) := by decide +kernel
theorem dX7_bounds_32 : decode cX7_bounds 32 = .ok (.iconst 0, 1) := by decide +kernel
theorem dX7_bounds_33 : decode cX7_bounds 33 = .ok (.iconst 5, 1) := by decide +kernel
theorem dX7_bounds_34 : decode cX7_bounds 34 = .ok (.invokestatic 48, 3) := by decide +kernel
theorem dX7_bounds_37 : decode cX7_bounds 37 = .ok (.ifCond .ne 6, 3) := by decide +kernel
theorem dX7_bounds_40 : decode cX7_bounds 40 = .ok (.ldc 52, 2) := by decide +kernel
theorem dX7_bounds_42 : decode cX7_bounds 42 = .ok (.ireturn, 1) := by decide +kernel
theorem dX7_bounds_43 : decode cX7_bounds 43 = .ok (.aload_n 0, 1) := by decide +kernel
theorem dX7_bounds_44 : decode cX7_bounds 44 = .ok (.invokevirtual 53, 3) := by decide +kernel
theorem dX7_bounds_47 : decode cX7_bounds 47 = .ok (.aload_n 0, 1) := by decide +kernel
theorem dX7_bounds_48 : decode cX7_bounds 48 = .ok (.getfield 10, 3) := by decide +kernel
theorem dX7_bounds_51 : decode cX7_bounds 51 = .ok (.getfield 64, 3) := by decide +kernel
theorem dX7_bounds_54 : decode cX7_bounds 54 = .ok (.iload_n 1, 1) := by decide +kernel
theorem dX7_bounds_55 : decode cX7_bounds 55 = .ok (.aaload, 1) := by decide +kernel
theorem dX7_bounds_56 : decode cX7_bounds 56 = .ok (.astore 5, 2) := by decide +kernel
theorem dX7_bounds_58 : decode cX7_bounds 58 = .ok (.aload 5, 2) := by decide +kernel
theorem dX7_bounds_60 : decode cX7_bounds 60 = .ok (.iload_n 2, 1) := by decide +kernel
theorem dX7_bounds_61 : decode cX7_bounds 61 = .ok (.putfield 83, 3) := by decide +kernel
theorem dX7_bounds_64 : decode cX7_bounds 64 = .ok (.aload 5, 2) := by decide +kernel
theorem dX7_bounds_66 : decode cX7_bounds 66 = .ok (.iload_n 3, 1) := by decide +kernel
theorem dX7_bounds_67 : decode cX7_bounds 67 = .ok (.putfield 86, 3) := by decide +kernel
theorem dX7_bounds_70 : decode cX7_bounds 70 = .ok (.aload 5, 2) := by decide +kernel
theorem dX7_bounds_72 : decode cX7_bounds 72 = .ok (.iload 4, 2) := by decide +kernel
theorem dX7_bounds_74 : decode cX7_bounds 74 = .ok (.putfield 89, 3) := by decide +kernel
theorem dX7_bounds_77 : decode cX7_bounds 77 = .ok (.aload_n 0, 1) := by decide +kernel
theorem dX7_bounds_78 : decode cX7_bounds 78 = .ok (.getfield 10, 3) := by decide +kernel
theorem dX7_bounds_81 : decode cX7_bounds 81 = .ok (.iload_n 1, 1) := by decide +kernel
theorem dX7_bounds_82 : decode cX7_bounds 82 = .ok (.invokevirtual 92, 3) := by decide +kernel
theorem dX7_bounds_85 : decode cX7_bounds 85 = .ok (.ireturn, 1) := by decide +kernel
theorem dX7_contact_0 : decode cX7_contact 0 = .ok (.iload_n 1, 1) := by decide +kernel
theorem dX7_contact_1 : decode cX7_contact 1 = .ok (.invokestatic 60, 3) := by decide +kernel
theorem dX7_contact_4 : decode cX7_contact 4 = .ok (.ifCond .eq 12, 3) := by decide +kernel
theorem dX7_contact_7 : decode cX7_contact 7 = .ok (.iload_n 2, 1) := by decide +kernel
theorem dX7_contact_8 : decode cX7_contact 8 = .ok (.iconst 0, 1) := by decide +kernel
theorem dX7_contact_9 : decode cX7_contact 9 = .ok (.iconst 1, 1) := by decide +kernel
theorem dX7_contact_10 : decode cX7_contact 10 = .ok (.invokestatic 48, 3) := by decide +kernel
theorem dX7_contact_13 : decode cX7_contact 13 = .ok (.ifCond .ne 6, 3) := by decide +kernel
theorem dX7_contact_16 : decode cX7_contact 16 = .ok (.ldc 52, 2) := by decide +kernel
theorem dX7_contact_18 : decode cX7_contact 18 = .ok (.ireturn, 1) := by decide +kernel
theorem dX7_contact_19 : decode cX7_contact 19 = .ok (.aload_n 0, 1) := by decide +kernel
theorem dX7_contact_20 : decode cX7_contact 20 = .ok (.invokevirtual 53, 3) := by decide +kernel
theorem dX7_contact_23 : decode cX7_contact 23 = .ok (.aload_n 0, 1) := by decide +kernel
theorem dX7_contact_24 : decode cX7_contact 24 = .ok (.getfield 10, 3) := by decide +kernel
theorem dX7_contact_27 : decode cX7_contact 27 = .ok (.getfield 64, 3) := by decide +kernel
theorem dX7_contact_30 : decode cX7_contact 30 = .ok (.iload_n 1, 1) := by decide +kernel
theorem dX7_contact_31 : decode cX7_contact 31 = .ok (.aaload, 1) := by decide +kernel
theorem dX7_contact_32 : decode cX7_contact 32 = .ok (.astore_n 3, 1) := by decide +kernel
theorem dX7_contact_33 : decode cX7_contact 33 = .ok (.aload_n 3, 1) := by decide +kernel
theorem dX7_contact_34 : decode cX7_contact 34 = .ok (.iload_n 2, 1) := by decide +kernel
theorem dX7_contact_35 : decode cX7_contact 35 = .ok (.putfield 96, 3) := by decide +kernel
theorem dX7_contact_38 : decode cX7_contact 38 = .ok (.aload_n 3, 1) := by decide +kernel
theorem dX7_contact_39 : decode cX7_contact 39 = .ok (.invokevirtual 99, 3) := by decide +kernel
theorem dX7_contact_42 : decode cX7_contact 42 = .ok (.invokestatic 103, 3) := by decide +kernel
theorem dX7_contact_45 : decode cX7_contact 45 = .ok (.ireturn, 1) := by decide +kernel
theorem dX7_heat_0 : decode cX7_heat 0 = .ok (.iload_n 1, 1) := by decide +kernel
theorem dX7_heat_1 : decode cX7_heat 1 = .ok (.invokestatic 60, 3) := by decide +kernel
theorem dX7_heat_4 : decode cX7_heat 4 = .ok (.ifCond .eq 23, 3) := by decide +kernel
theorem dX7_heat_7 : decode cX7_heat 7 = .ok (.iload_n 2, 1) := by decide +kernel
theorem dX7_heat_8 : decode cX7_heat 8 = .ok (.iconst 0, 1) := by decide +kernel
theorem dX7_heat_9 : decode cX7_heat 9 = .ok (.bipush 99, 2) := by decide +kernel
theorem dX7_heat_11 : decode cX7_heat 11 = .ok (.invokestatic 48, 3) := by decide +kernel
theorem dX7_heat_14 : decode cX7_heat 14 = .ok (.ifCond .eq 13, 3) := by decide +kernel
theorem dX7_heat_17 : decode cX7_heat 17 = .ok (.iload_n 3, 1) := by decide +kernel
theorem dX7_heat_18 : decode cX7_heat 18 = .ok (.iconst 1, 1) := by decide +kernel
theorem dX7_heat_19 : decode cX7_heat 19 = .ok (.bipush 99, 2) := by decide +kernel
theorem dX7_heat_21 : decode cX7_heat 21 = .ok (.invokestatic 48, 3) := by decide +kernel
theorem dX7_heat_24 : decode cX7_heat 24 = .ok (.ifCond .ne 6, 3) := by decide +kernel
theorem dX7_heat_27 : decode cX7_heat 27 = .ok (.ldc 52, 2) := by decide +kernel
theorem dX7_heat_29 : decode cX7_heat 29 = .ok (.ireturn, 1) := by decide +kernel
theorem dX7_heat_30 : decode cX7_heat 30 = .ok (.aload_n 0, 1) := by decide +kernel
theorem dX7_heat_31 : decode cX7_heat 31 = .ok (.invokevirtual 53, 3) := by decide +kernel
theorem dX7_heat_34 : decode cX7_heat 34 = .ok (.aload_n 0, 1) := by decide +kernel
theorem dX7_heat_35 : decode cX7_heat 35 = .ok (.getfield 10, 3) := by decide +kernel
theorem dX7_heat_38 : decode cX7_heat 38 = .ok (.getfield 107, 3) := by decide +kernel
theorem dX7_heat_41 : decode cX7_heat 41 = .ok (.iload_n 1, 1) := by decide +kernel
theorem dX7_heat_42 : decode cX7_heat 42 = .ok (.aaload, 1) := by decide +kernel
theorem dX7_heat_43 : decode cX7_heat 43 = .ok (.astore 4, 2) := by decide +kernel
theorem dX7_heat_45 : decode cX7_heat 45 = .ok (.bipush 100, 2) := by decide +kernel
theorem dX7_heat_47 : decode cX7_heat 47 = .ok (.aload 4, 2) := by decide +kernel
theorem dX7_heat_49 : decode cX7_heat 49 = .ok (.getfield 111, 3) := by decide +kernel
theorem dX7_heat_52 : decode cX7_heat 52 = .ok (.imul, 1) := by decide +kernel
theorem dX7_heat_53 : decode cX7_heat 53 = .ok (.aload 4, 2) := by decide +kernel
theorem dX7_heat_55 : decode cX7_heat 55 = .ok (.getfield 116, 3) := by decide +kernel
theorem dX7_heat_58 : decode cX7_heat 58 = .ok (.iadd, 1) := by decide +kernel
theorem dX7_heat_59 : decode cX7_heat 59 = .ok (.istore 5, 2) := by decide +kernel
theorem dX7_heat_61 : decode cX7_heat 61 = .ok (.aload 4, 2) := by decide +kernel
theorem dX7_heat_63 : decode cX7_heat 63 = .ok (.iload_n 2, 1) := by decide +kernel
theorem dX7_heat_64 : decode cX7_heat 64 = .ok (.putfield 111, 3) := by decide +kernel
theorem dX7_heat_67 : decode cX7_heat 67 = .ok (.aload 4, 2) := by decide +kernel
theorem dX7_heat_69 : decode cX7_heat 69 = .ok (.iload_n 3, 1) := by decide +kernel
theorem dX7_heat_70 : decode cX7_heat 70 = .ok (.putfield 116, 3) := by decide +kernel
theorem dX7_heat_73 : decode cX7_heat 73 = .ok (.iload 5, 2) := by decide +kernel
theorem dX7_heat_75 : decode cX7_heat 75 = .ok (.ireturn, 1) := by decide +kernel
theorem dX7_outside_0 : decode cX7_outside 0 = .ok (.iload_n 1, 1) := by decide +kernel
theorem dX7_outside_1 : decode cX7_outside 1 = .ok (.invokestatic 119, 3) := by decide +kernel
theorem dX7_outside_4 : decode cX7_outside 4 = .ok (.ifCond .ne 6, 3) := by decide +kernel
theorem dX7_outside_7 : decode cX7_outside 7 = .ok (.ldc 52, 2) := by decide +kernel
theorem dX7_outside_9 : decode cX7_outside 9 = .ok (.ireturn, 1) := by decide +kernel
theorem dX7_outside_10 : decode cX7_outside 10 = .ok (.aload_n 0, 1) := by decide +kernel
theorem dX7_outside_11 : decode cX7_outside 11 = .ok (.invokevirtual 53, 3) := by decide +kernel
theorem dX7_outside_14 : decode cX7_outside 14 = .ok (.aload_n 0, 1) := by decide +kernel
theorem dX7_outside_15 : decode cX7_outside 15 = .ok (.getfield 10, 3) := by decide +kernel
theorem dX7_outside_18 : decode cX7_outside 18 = .ok (.getfield 122, 3) := by decide +kernel
theorem dX7_outside_21 : decode cX7_outside 21 = .ok (.istore_n 2, 1) := by decide +kernel
theorem dX7_outside_22 : decode cX7_outside 22 = .ok (.aload_n 0, 1) := by decide +kernel
theorem dX7_outside_23 : decode cX7_outside 23 = .ok (.getfield 10, 3) := by decide +kernel
theorem dX7_outside_26 : decode cX7_outside 26 = .ok (.iload_n 1, 1) := by decide +kernel
theorem dX7_outside_27 : decode cX7_outside 27 = .ok (.putfield 122, 3) := by decide +kernel
theorem dX7_outside_30 : decode cX7_outside 30 = .ok (.iload_n 2, 1) := by decide +kernel
theorem dX7_outside_31 : decode cX7_outside 31 = .ok (.ireturn, 1) := by decide +kernel
theorem dX7_warm_0 : decode cX7_warm 0 = .ok (.iload_n 1, 1) := by decide +kernel
theorem dX7_warm_1 : decode cX7_warm 1 = .ok (.invokestatic 60, 3) := by decide +kernel
theorem dX7_warm_4 : decode cX7_warm 4 = .ok (.ifCond .eq 10, 3) := by decide +kernel
theorem dX7_warm_7 : decode cX7_warm 7 = .ok (.iload_n 2, 1) := by decide +kernel
theorem dX7_warm_8 : decode cX7_warm 8 = .ok (.invokestatic 119, 3) := by decide +kernel
theorem dX7_warm_11 : decode cX7_warm 11 = .ok (.ifCond .ne 6, 3) := by decide +kernel
theorem dX7_warm_14 : decode cX7_warm 14 = .ok (.ldc 52, 2) := by decide +kernel
theorem dX7_warm_16 : decode cX7_warm 16 = .ok (.ireturn, 1) := by decide +kernel
theorem dX7_warm_17 : decode cX7_warm 17 = .ok (.aload_n 0, 1) := by decide +kernel
theorem dX7_warm_18 : decode cX7_warm 18 = .ok (.invokevirtual 53, 3) := by decide +kernel
theorem dX7_warm_21 : decode cX7_warm 21 = .ok (.aload_n 0, 1) := by decide +kernel
theorem dX7_warm_22 : decode cX7_warm 22 = .ok (.getfield 10, 3) := by decide +kernel
theorem dX7_warm_25 : decode cX7_warm 25 = .ok (.getfield 107, 3) := by decide +kernel
theorem dX7_warm_28 : decode cX7_warm 28 = .ok (.iload_n 1, 1) := by decide +kernel
theorem dX7_warm_29 : decode cX7_warm 29 = .ok (.aaload, 1) := by decide +kernel
theorem dX7_warm_30 : decode cX7_warm 30 = .ok (.astore_n 3, 1) := by decide +kernel
theorem dX7_warm_31 : decode cX7_warm 31 = .ok (.aload_n 3, 1) := by decide +kernel
theorem dX7_warm_32 : decode cX7_warm 32 = .ok (.getfield 125, 3) := by decide +kernel
theorem dX7_warm_35 : decode cX7_warm 35 = .ok (.istore 4, 2) := by decide +kernel
theorem dX7_warm_37 : decode cX7_warm 37 = .ok (.aload_n 3, 1) := by decide +kernel
theorem dX7_warm_38 : decode cX7_warm 38 = .ok (.iload_n 2, 1) := by decide +kernel
theorem dX7_warm_39 : decode cX7_warm 39 = .ok (.putfield 125, 3) := by decide +kernel
theorem dX7_warm_42 : decode cX7_warm 42 = .ok (.iload 4, 2) := by decide +kernel
theorem dX7_warm_44 : decode cX7_warm 44 = .ok (.ireturn, 1) := by decide +kernel
theorem dX7_opening_0 : decode cX7_opening 0 = .ok (.iload_n 1, 1) := by decide +kernel
theorem dX7_opening_1 : decode cX7_opening 1 = .ok (.invokestatic 60, 3) := by decide +kernel
theorem dX7_opening_4 : decode cX7_opening 4 = .ok (.ifCond .eq 12, 3) := by decide +kernel
theorem dX7_opening_7 : decode cX7_opening 7 = .ok (.iload_n 2, 1) := by decide +kernel
theorem dX7_opening_8 : decode cX7_opening 8 = .ok (.iconst 0, 1) := by decide +kernel
theorem dX7_opening_9 : decode cX7_opening 9 = .ok (.iconst 1, 1) := by decide +kernel
theorem dX7_opening_10 : decode cX7_opening 10 = .ok (.invokestatic 48, 3) := by decide +kernel
theorem dX7_opening_13 : decode cX7_opening 13 = .ok (.ifCond .ne 6, 3) := by decide +kernel
theorem dX7_opening_16 : decode cX7_opening 16 = .ok (.ldc 52, 2) := by decide +kernel
theorem dX7_opening_18 : decode cX7_opening 18 = .ok (.ireturn, 1) := by decide +kernel
theorem dX7_opening_19 : decode cX7_opening 19 = .ok (.aload_n 0, 1) := by decide +kernel
theorem dX7_opening_20 : decode cX7_opening 20 = .ok (.invokevirtual 53, 3) := by decide +kernel
theorem dX7_opening_23 : decode cX7_opening 23 = .ok (.aload_n 0, 1) := by decide +kernel
theorem dX7_opening_24 : decode cX7_opening 24 = .ok (.getfield 10, 3) := by decide +kernel
theorem dX7_opening_27 : decode cX7_opening 27 = .ok (.getfield 107, 3) := by decide +kernel
theorem dX7_opening_30 : decode cX7_opening 30 = .ok (.iload_n 1, 1) := by decide +kernel
theorem dX7_opening_31 : decode cX7_opening 31 = .ok (.aaload, 1) := by decide +kernel
theorem dX7_opening_32 : decode cX7_opening 32 = .ok (.iload_n 2, 1) := by decide +kernel
theorem dX7_opening_33 : decode cX7_opening 33 = .ok (.iconst 1, 1) := by decide +kernel
theorem dX7_opening_34 : decode cX7_opening 34 = .ok (.if_icmp .ne 7, 3) := by decide +kernel
theorem dX7_opening_37 : decode cX7_opening 37 = .ok (.iconst 1, 1) := by decide +kernel
theorem dX7_opening_38 : decode cX7_opening 38 = .ok (.goto 4, 3) := by decide +kernel
theorem dX7_opening_41 : decode cX7_opening 41 = .ok (.iconst 0, 1) := by decide +kernel
theorem dX7_opening_42 : decode cX7_opening 42 = .ok (.putfield 128, 3) := by decide +kernel
theorem dX7_opening_45 : decode cX7_opening 45 = .ok (.aload_n 0, 1) := by decide +kernel
theorem dX7_opening_46 : decode cX7_opening 46 = .ok (.getfield 10, 3) := by decide +kernel
theorem dX7_opening_49 : decode cX7_opening 49 = .ok (.invokevirtual 131, 3) := by decide +kernel
theorem dX7_opening_52 : decode cX7_opening 52 = .ok (.ireturn, 1) := by decide +kernel
theorem dX7_set_0 : decode cX7_set 0 = .ok (.iload_n 1, 1) := by decide +kernel
theorem dX7_set_1 : decode cX7_set 1 = .ok (.iload_n 2, 1) := by decide +kernel
theorem dX7_set_2 : decode cX7_set 2 = .ok (.invokestatic 135, 3) := by decide +kernel
theorem dX7_set_5 : decode cX7_set 5 = .ok (.ifCond .ne 6, 3) := by decide +kernel
theorem dX7_set_8 : decode cX7_set 8 = .ok (.ldc 52, 2) := by decide +kernel
theorem dX7_set_10 : decode cX7_set 10 = .ok (.ireturn, 1) := by decide +kernel
theorem dX7_set_11 : decode cX7_set 11 = .ok (.aload_n 0, 1) := by decide +kernel
theorem dX7_set_12 : decode cX7_set 12 = .ok (.invokevirtual 53, 3) := by decide +kernel
theorem dX7_set_15 : decode cX7_set 15 = .ok (.aload_n 0, 1) := by decide +kernel
theorem dX7_set_16 : decode cX7_set 16 = .ok (.getfield 10, 3) := by decide +kernel
theorem dX7_set_19 : decode cX7_set 19 = .ok (.getfield 139, 3) := by decide +kernel
theorem dX7_set_22 : decode cX7_set 22 = .ok (.iload_n 1, 1) := by decide +kernel
theorem dX7_set_23 : decode cX7_set 23 = .ok (.iaload, 1) := by decide +kernel
theorem dX7_set_24 : decode cX7_set 24 = .ok (.istore_n 3, 1) := by decide +kernel
theorem dX7_set_25 : decode cX7_set 25 = .ok (.aload_n 0, 1) := by decide +kernel
theorem dX7_set_26 : decode cX7_set 26 = .ok (.getfield 10, 3) := by decide +kernel
theorem dX7_set_29 : decode cX7_set 29 = .ok (.getfield 139, 3) := by decide +kernel
theorem dX7_set_32 : decode cX7_set 32 = .ok (.iload_n 1, 1) := by decide +kernel
theorem dX7_set_33 : decode cX7_set 33 = .ok (.iload_n 2, 1) := by decide +kernel
theorem dX7_set_34 : decode cX7_set 34 = .ok (.iastore, 1) := by decide +kernel
theorem dX7_set_35 : decode cX7_set 35 = .ok (.iload_n 3, 1) := by decide +kernel
theorem dX7_set_36 : decode cX7_set 36 = .ok (.ireturn, 1) := by decide +kernel
theorem dX7_tick_0 : decode cX7_tick 0 = .ok (.iload_n 1, 1) := by decide +kernel
theorem dX7_tick_1 : decode cX7_tick 1 = .ok (.iconst 1, 1) := by decide +kernel
theorem dX7_tick_2 : decode cX7_tick 2 = .ok (.sipush 200, 3) := by decide +kernel
theorem dX7_tick_5 : decode cX7_tick 5 = .ok (.invokestatic 48, 3) := by decide +kernel
theorem dX7_tick_8 : decode cX7_tick 8 = .ok (.ifCond .ne 6, 3) := by decide +kernel
theorem dX7_tick_11 : decode cX7_tick 11 = .ok (.ldc 52, 2) := by decide +kernel
theorem dX7_tick_13 : decode cX7_tick 13 = .ok (.ireturn, 1) := by decide +kernel
theorem dX7_tick_14 : decode cX7_tick 14 = .ok (.aload_n 0, 1) := by decide +kernel
theorem dX7_tick_15 : decode cX7_tick 15 = .ok (.invokevirtual 53, 3) := by decide +kernel
theorem dX7_tick_18 : decode cX7_tick 18 = .ok (.aload_n 0, 1) := by decide +kernel
theorem dX7_tick_19 : decode cX7_tick 19 = .ok (.getfield 10, 3) := by decide +kernel
theorem dX7_tick_22 : decode cX7_tick 22 = .ok (.invokevirtual 142, 3) := by decide +kernel
theorem dX7_tick_25 : decode cX7_tick 25 = .ok (.iconst 0, 1) := by decide +kernel
theorem dX7_tick_26 : decode cX7_tick 26 = .ok (.istore_n 2, 1) := by decide +kernel
theorem dX7_tick_27 : decode cX7_tick 27 = .ok (.iconst 0, 1) := by decide +kernel
theorem dX7_tick_28 : decode cX7_tick 28 = .ok (.istore_n 3, 1) := by decide +kernel
theorem dX7_tick_29 : decode cX7_tick 29 = .ok (.iload_n 3, 1) := by decide +kernel
theorem dX7_tick_30 : decode cX7_tick 30 = .ok (.iload_n 1, 1) := by decide +kernel
theorem dX7_tick_31 : decode cX7_tick 31 = .ok (.if_icmp .ge 19, 3) := by decide +kernel
theorem dX7_tick_34 : decode cX7_tick 34 = .ok (.iload_n 2, 1) := by decide +kernel
theorem dX7_tick_35 : decode cX7_tick 35 = .ok (.aload_n 0, 1) := by decide +kernel
theorem dX7_tick_36 : decode cX7_tick 36 = .ok (.getfield 10, 3) := by decide +kernel
theorem dX7_tick_39 : decode cX7_tick 39 = .ok (.invokevirtual 145, 3) := by decide +kernel
theorem dX7_tick_42 : decode cX7_tick 42 = .ok (.iadd, 1) := by decide +kernel
theorem dX7_tick_43 : decode cX7_tick 43 = .ok (.istore_n 2, 1) := by decide +kernel
theorem dX7_tick_44 : decode cX7_tick 44 = .ok (.iinc 3 1, 3) := by decide +kernel
theorem dX7_tick_47 : decode cX7_tick 47 = .ok (.goto (-18), 3) := by decide +kernel
theorem dX7_tick_50 : decode cX7_tick 50 = .ok (.iload_n 2, 1) := by decide +kernel
theorem dX7_tick_51 : decode cX7_tick 51 = .ok (.ireturn, 1) := by decide +kernel
theorem dX7_stripOf_0 : decode cX7_stripOf 0 = .ok (.iload_n 1, 1) := by decide +kernel
theorem dX7_stripOf_1 : decode cX7_stripOf 1 = .ok (.invokestatic 60, 3) := by decide +kernel
theorem dX7_stripOf_4 : decode cX7_stripOf 4 = .ok (.ifCond .ne 6, 3) := by decide +kernel
theorem dX7_stripOf_7 : decode cX7_stripOf 7 = .ok (.ldc 52, 2) := by decide +kernel
theorem dX7_stripOf_9 : decode cX7_stripOf 9 = .ok (.ireturn, 1) := by decide +kernel
theorem dX7_stripOf_10 : decode cX7_stripOf 10 = .ok (.aload_n 0, 1) := by decide +kernel
theorem dX7_stripOf_11 : decode cX7_stripOf 11 = .ok (.getfield 10, 3) := by decide +kernel
theorem dX7_stripOf_14 : decode cX7_stripOf 14 = .ok (.getfield 64, 3) := by decide +kernel
theorem dX7_stripOf_17 : decode cX7_stripOf 17 = .ok (.iload_n 1, 1) := by decide +kernel
theorem dX7_stripOf_18 : decode cX7_stripOf 18 = .ok (.aaload, 1) := by decide +kernel
theorem dX7_stripOf_19 : decode cX7_stripOf 19 = .ok (.astore_n 3, 1) := by decide +kernel
theorem dX7_stripOf_20 : decode cX7_stripOf 20 = .ok (.iload_n 2, 1) := by decide +kernel
theorem dX7_stripOf_21 : decode cX7_stripOf 21 = .ok (.tableswitch 140 0 11 #[63, 68, 73, 85, 94, 99, 104, 109, 117, 122, 127, 132], 63) := by decide +kernel
theorem dX7_stripOf_84 : decode cX7_stripOf 84 = .ok (.aload_n 3, 1) := by decide +kernel
theorem dX7_stripOf_85 : decode cX7_stripOf 85 = .ok (.getfield 68, 3) := by decide +kernel
theorem dX7_stripOf_88 : decode cX7_stripOf 88 = .ok (.ireturn, 1) := by decide +kernel
theorem dX7_stripOf_89 : decode cX7_stripOf 89 = .ok (.aload_n 3, 1) := by decide +kernel
theorem dX7_stripOf_90 : decode cX7_stripOf 90 = .ok (.invokevirtual 148, 3) := by decide +kernel
theorem dX7_stripOf_93 : decode cX7_stripOf 93 = .ok (.ireturn, 1) := by decide +kernel
theorem dX7_stripOf_94 : decode cX7_stripOf 94 = .ok (.aload_n 3, 1) := by decide +kernel
theorem dX7_stripOf_95 : decode cX7_stripOf 95 = .ok (.aload_n 0, 1) := by decide +kernel
theorem dX7_stripOf_96 : decode cX7_stripOf 96 = .ok (.getfield 10, 3) := by decide +kernel
theorem dX7_stripOf_99 : decode cX7_stripOf 99 = .ok (.getfield 56, 3) := by decide +kernel
theorem dX7_stripOf_102 : decode cX7_stripOf 102 = .ok (.invokevirtual 151, 3) := by decide +kernel
theorem dX7_stripOf_105 : decode cX7_stripOf 105 = .ok (.ireturn, 1) := by decide +kernel
theorem dX7_stripOf_106 : decode cX7_stripOf 106 = .ok (.aload_n 0, 1) := by decide +kernel
theorem dX7_stripOf_107 : decode cX7_stripOf 107 = .ok (.getfield 10, 3) := by decide +kernel
theorem dX7_stripOf_110 : decode cX7_stripOf 110 = .ok (.iload_n 1, 1) := by decide +kernel
theorem dX7_stripOf_111 : decode cX7_stripOf 111 = .ok (.invokevirtual 92, 3) := by decide +kernel
theorem dX7_stripOf_114 : decode cX7_stripOf 114 = .ok (.ireturn, 1) := by decide +kernel
theorem dX7_stripOf_115 : decode cX7_stripOf 115 = .ok (.aload_n 3, 1) := by decide +kernel
theorem dX7_stripOf_116 : decode cX7_stripOf 116 = .ok (.getfield 83, 3) := by decide +kernel
theorem dX7_stripOf_119 : decode cX7_stripOf 119 = .ok (.ireturn, 1) := by decide +kernel
theorem dX7_stripOf_120 : decode cX7_stripOf 120 = .ok (.aload_n 3, 1) := by decide +kernel
theorem dX7_stripOf_121 : decode cX7_stripOf 121 = .ok (.getfield 86, 3) := by decide +kernel
theorem dX7_stripOf_124 : decode cX7_stripOf 124 = .ok (.ireturn, 1) := by decide +kernel
theorem dX7_stripOf_125 : decode cX7_stripOf 125 = .ok (.aload_n 3, 1) := by decide +kernel
theorem dX7_stripOf_126 : decode cX7_stripOf 126 = .ok (.getfield 89, 3) := by decide +kernel
theorem dX7_stripOf_129 : decode cX7_stripOf 129 = .ok (.ireturn, 1) := by decide +kernel
theorem dX7_stripOf_130 : decode cX7_stripOf 130 = .ok (.aload_n 3, 1) := by decide +kernel
theorem dX7_stripOf_131 : decode cX7_stripOf 131 = .ok (.getfield 155, 3) := by decide +kernel
theorem dX7_stripOf_134 : decode cX7_stripOf 134 = .ok (.invokestatic 103, 3) := by decide +kernel
theorem dX7_stripOf_137 : decode cX7_stripOf 137 = .ok (.ireturn, 1) := by decide +kernel
theorem dX7_stripOf_138 : decode cX7_stripOf 138 = .ok (.aload_n 3, 1) := by decide +kernel
theorem dX7_stripOf_139 : decode cX7_stripOf 139 = .ok (.getfield 158, 3) := by decide +kernel
theorem dX7_stripOf_142 : decode cX7_stripOf 142 = .ok (.ireturn, 1) := by decide +kernel
theorem dX7_stripOf_143 : decode cX7_stripOf 143 = .ok (.aload_n 3, 1) := by decide +kernel
theorem dX7_stripOf_144 : decode cX7_stripOf 144 = .ok (.getfield 161, 3) := by decide +kernel
theorem dX7_stripOf_147 : decode cX7_stripOf 147 = .ok (.ireturn, 1) := by decide +kernel
theorem dX7_stripOf_148 : decode cX7_stripOf 148 = .ok (.aload_n 3, 1) := by decide +kernel
theorem dX7_stripOf_149 : decode cX7_stripOf 149 = .ok (.getfield 96, 3) := by decide +kernel
theorem dX7_stripOf_152 : decode cX7_stripOf 152 = .ok (.ireturn, 1) := by decide +kernel
theorem dX7_stripOf_153 : decode cX7_stripOf 153 = .ok (.aload_n 3, 1) := by decide +kernel
theorem dX7_stripOf_154 : decode cX7_stripOf 154 = .ok (.invokevirtual 99, 3) := by decide +kernel
theorem dX7_stripOf_157 : decode cX7_stripOf 157 = .ok (.invokestatic 103, 3) := by decide +kernel
theorem dX7_stripOf_160 : decode cX7_stripOf 160 = .ok (.ireturn, 1) := by decide +kernel
theorem dX7_stripOf_161 : decode cX7_stripOf 161 = .ok (.ldc 52, 2) := by decide +kernel
theorem dX7_stripOf_163 : decode cX7_stripOf 163 = .ok (.ireturn, 1) := by decide +kernel
theorem dX7_partOf_0 : decode cX7_partOf 0 = .ok (.iload_n 1, 1) := by decide +kernel
theorem dX7_partOf_1 : decode cX7_partOf 1 = .ok (.invokestatic 60, 3) := by decide +kernel
theorem dX7_partOf_4 : decode cX7_partOf 4 = .ok (.ifCond .eq 16, 3) := by decide +kernel
theorem dX7_partOf_7 : decode cX7_partOf 7 = .ok (.iload_n 2, 1) := by decide +kernel
theorem dX7_partOf_8 : decode cX7_partOf 8 = .ok (.ifCond .lt 12, 3) := by decide +kernel
theorem dX7_partOf_11 : decode cX7_partOf 11 = .ok (.iload_n 3, 1) := by decide +kernel
theorem dX7_partOf_12 : decode cX7_partOf 12 = .ok (.iconst 0, 1) := by decide +kernel
theorem dX7_partOf_13 : decode cX7_partOf 13 = .ok (.iconst 3, 1) := by decide +kernel
theorem dX7_partOf_14 : decode cX7_partOf 14 = .ok (.invokestatic 48, 3) := by decide +kernel
theorem dX7_partOf_17 : decode cX7_partOf 17 = .ok (.ifCond .ne 6, 3) := by decide +kernel
theorem dX7_partOf_20 : decode cX7_partOf 20 = .ok (.ldc 52, 2) := by decide +kernel
theorem dX7_partOf_22 : decode cX7_partOf 22 = .ok (.ireturn, 1) := by decide +kernel
theorem dX7_partOf_23 : decode cX7_partOf 23 = .ok (.aload_n 0, 1) := by decide +kernel
theorem dX7_partOf_24 : decode cX7_partOf 24 = .ok (.getfield 10, 3) := by decide +kernel
theorem dX7_partOf_27 : decode cX7_partOf 27 = .ok (.getfield 64, 3) := by decide +kernel
theorem dX7_partOf_30 : decode cX7_partOf 30 = .ok (.iload_n 1, 1) := by decide +kernel
theorem dX7_partOf_31 : decode cX7_partOf 31 = .ok (.aaload, 1) := by decide +kernel
theorem dX7_partOf_32 : decode cX7_partOf 32 = .ok (.astore 4, 2) := by decide +kernel
theorem dX7_partOf_34 : decode cX7_partOf 34 = .ok (.iload_n 2, 1) := by decide +kernel
theorem dX7_partOf_35 : decode cX7_partOf 35 = .ok (.aload 4, 2) := by decide +kernel
theorem dX7_partOf_37 : decode cX7_partOf 37 = .ok (.getfield 68, 3) := by decide +kernel
theorem dX7_partOf_40 : decode cX7_partOf 40 = .ok (.if_icmp .lt 6, 3) := by decide +kernel
theorem dX7_partOf_43 : decode cX7_partOf 43 = .ok (.ldc 164, 2) := by decide +kernel
theorem dX7_partOf_45 : decode cX7_partOf 45 = .ok (.ireturn, 1) := by decide +kernel
theorem dX7_partOf_46 : decode cX7_partOf 46 = .ok (.iload_n 3, 1) := by decide +kernel
theorem dX7_partOf_47 : decode cX7_partOf 47 = .ok (.tableswitch 49 0 2 #[25, 33, 41], 25) := by decide +kernel
theorem dX7_partOf_72 : decode cX7_partOf 72 = .ok (.aload 4, 2) := by decide +kernel
theorem dX7_partOf_74 : decode cX7_partOf 74 = .ok (.getfield 165, 3) := by decide +kernel
theorem dX7_partOf_77 : decode cX7_partOf 77 = .ok (.iload_n 2, 1) := by decide +kernel
theorem dX7_partOf_78 : decode cX7_partOf 78 = .ok (.iaload, 1) := by decide +kernel
theorem dX7_partOf_79 : decode cX7_partOf 79 = .ok (.ireturn, 1) := by decide +kernel
theorem dX7_partOf_80 : decode cX7_partOf 80 = .ok (.aload 4, 2) := by decide +kernel
theorem dX7_partOf_82 : decode cX7_partOf 82 = .ok (.getfield 168, 3) := by decide +kernel
theorem dX7_partOf_85 : decode cX7_partOf 85 = .ok (.iload_n 2, 1) := by decide +kernel
theorem dX7_partOf_86 : decode cX7_partOf 86 = .ok (.iaload, 1) := by decide +kernel
theorem dX7_partOf_87 : decode cX7_partOf 87 = .ok (.ireturn, 1) := by decide +kernel
theorem dX7_partOf_88 : decode cX7_partOf 88 = .ok (.aload 4, 2) := by decide +kernel
theorem dX7_partOf_90 : decode cX7_partOf 90 = .ok (.getfield 171, 3) := by decide +kernel
theorem dX7_partOf_93 : decode cX7_partOf 93 = .ok (.iload_n 2, 1) := by decide +kernel
theorem dX7_partOf_94 : decode cX7_partOf 94 = .ok (.iaload, 1) := by decide +kernel
theorem dX7_partOf_95 : decode cX7_partOf 95 = .ok (.ireturn, 1) := by decide +kernel
theorem dX7_partOf_96 : decode cX7_partOf 96 = .ok (.aload 4, 2) := by decide +kernel
theorem dX7_partOf_98 : decode cX7_partOf 98 = .ok (.iload_n 2, 1) := by decide +kernel
theorem dX7_partOf_99 : decode cX7_partOf 99 = .ok (.aload_n 0, 1) := by decide +kernel
theorem dX7_partOf_100 : decode cX7_partOf 100 = .ok (.getfield 10, 3) := by decide +kernel
theorem dX7_partOf_103 : decode cX7_partOf 103 = .ok (.getfield 56, 3) := by decide +kernel
theorem dX7_partOf_106 : decode cX7_partOf 106 = .ok (.invokevirtual 174, 3) := by decide +kernel
theorem dX7_partOf_109 : decode cX7_partOf 109 = .ok (.ireturn, 1) := by decide +kernel
theorem dX7_roomOf_0 : decode cX7_roomOf 0 = .ok (.iload_n 1, 1) := by decide +kernel
theorem dX7_roomOf_1 : decode cX7_roomOf 1 = .ok (.invokestatic 60, 3) := by decide +kernel
theorem dX7_roomOf_4 : decode cX7_roomOf 4 = .ok (.ifCond .ne 6, 3) := by decide +kernel
theorem dX7_roomOf_7 : decode cX7_roomOf 7 = .ok (.ldc 52, 2) := by decide +kernel
theorem dX7_roomOf_9 : decode cX7_roomOf 9 = .ok (.ireturn, 1) := by decide +kernel
theorem dX7_roomOf_10 : decode cX7_roomOf 10 = .ok (.aload_n 0, 1) := by decide +kernel
theorem dX7_roomOf_11 : decode cX7_roomOf 11 = .ok (.getfield 10, 3) := by decide +kernel
theorem dX7_roomOf_14 : decode cX7_roomOf 14 = .ok (.getfield 107, 3) := by decide +kernel
theorem dX7_roomOf_17 : decode cX7_roomOf 17 = .ok (.iload_n 1, 1) := by decide +kernel
theorem dX7_roomOf_18 : decode cX7_roomOf 18 = .ok (.aaload, 1) := by decide +kernel
theorem dX7_roomOf_19 : decode cX7_roomOf 19 = .ok (.astore_n 3, 1) := by decide +kernel
theorem dX7_roomOf_20 : decode cX7_roomOf 20 = .ok (.iload_n 2, 1) := by decide +kernel
theorem dX7_roomOf_21 : decode cX7_roomOf 21 = .ok (.tableswitch 111 0 6 #[43, 48, 53, 58, 66, 71, 91], 43) := by decide +kernel
theorem dX7_roomOf_64 : decode cX7_roomOf 64 = .ok (.aload_n 3, 1) := by decide +kernel
theorem dX7_roomOf_65 : decode cX7_roomOf 65 = .ok (.getfield 125, 3) := by decide +kernel
theorem dX7_roomOf_68 : decode cX7_roomOf 68 = .ok (.ireturn, 1) := by decide +kernel
theorem dX7_roomOf_69 : decode cX7_roomOf 69 = .ok (.aload_n 3, 1) := by decide +kernel
theorem dX7_roomOf_70 : decode cX7_roomOf 70 = .ok (.getfield 111, 3) := by decide +kernel
theorem dX7_roomOf_73 : decode cX7_roomOf 73 = .ok (.ireturn, 1) := by decide +kernel
theorem dX7_roomOf_74 : decode cX7_roomOf 74 = .ok (.aload_n 3, 1) := by decide +kernel
theorem dX7_roomOf_75 : decode cX7_roomOf 75 = .ok (.getfield 116, 3) := by decide +kernel
theorem dX7_roomOf_78 : decode cX7_roomOf 78 = .ok (.ireturn, 1) := by decide +kernel
theorem dX7_roomOf_79 : decode cX7_roomOf 79 = .ok (.aload_n 3, 1) := by decide +kernel
theorem dX7_roomOf_80 : decode cX7_roomOf 80 = .ok (.getfield 128, 3) := by decide +kernel
theorem dX7_roomOf_83 : decode cX7_roomOf 83 = .ok (.invokestatic 103, 3) := by decide +kernel
theorem dX7_roomOf_86 : decode cX7_roomOf 86 = .ok (.ireturn, 1) := by decide +kernel
theorem dX7_roomOf_87 : decode cX7_roomOf 87 = .ok (.aload_n 3, 1) := by decide +kernel
theorem dX7_roomOf_88 : decode cX7_roomOf 88 = .ok (.getfield 178, 3) := by decide +kernel
theorem dX7_roomOf_91 : decode cX7_roomOf 91 = .ok (.ireturn, 1) := by decide +kernel
theorem dX7_roomOf_92 : decode cX7_roomOf 92 = .ok (.aload_n 0, 1) := by decide +kernel
theorem dX7_roomOf_93 : decode cX7_roomOf 93 = .ok (.getfield 10, 3) := by decide +kernel
theorem dX7_roomOf_96 : decode cX7_roomOf 96 = .ok (.getfield 181, 3) := by decide +kernel
theorem dX7_roomOf_99 : decode cX7_roomOf 99 = .ok (.ifCond .ne 8, 3) := by decide +kernel
theorem dX7_roomOf_102 : decode cX7_roomOf 102 = .ok (.ldc 164, 2) := by decide +kernel
theorem dX7_roomOf_104 : decode cX7_roomOf 104 = .ok (.goto 7, 3) := by decide +kernel
theorem dX7_roomOf_107 : decode cX7_roomOf 107 = .ok (.aload_n 3, 1) := by decide +kernel
theorem dX7_roomOf_108 : decode cX7_roomOf 108 = .ok (.getfield 184, 3) := by decide +kernel
theorem dX7_roomOf_111 : decode cX7_roomOf 111 = .ok (.ireturn, 1) := by decide +kernel
theorem dX7_roomOf_112 : decode cX7_roomOf 112 = .ok (.aload_n 0, 1) := by decide +kernel
theorem dX7_roomOf_113 : decode cX7_roomOf 113 = .ok (.getfield 10, 3) := by decide +kernel
theorem dX7_roomOf_116 : decode cX7_roomOf 116 = .ok (.getfield 181, 3) := by decide +kernel
theorem dX7_roomOf_119 : decode cX7_roomOf 119 = .ok (.ifCond .ne 8, 3) := by decide +kernel
theorem dX7_roomOf_122 : decode cX7_roomOf 122 = .ok (.ldc 164, 2) := by decide +kernel
theorem dX7_roomOf_124 : decode cX7_roomOf 124 = .ok (.goto 7, 3) := by decide +kernel
theorem dX7_roomOf_127 : decode cX7_roomOf 127 = .ok (.aload_n 3, 1) := by decide +kernel
theorem dX7_roomOf_128 : decode cX7_roomOf 128 = .ok (.getfield 187, 3) := by decide +kernel
theorem dX7_roomOf_131 : decode cX7_roomOf 131 = .ok (.ireturn, 1) := by decide +kernel
theorem dX7_roomOf_132 : decode cX7_roomOf 132 = .ok (.ldc 52, 2) := by decide +kernel
theorem dX7_roomOf_134 : decode cX7_roomOf 134 = .ok (.ireturn, 1) := by decide +kernel
theorem dX7_count_0 : decode cX7_count 0 = .ok (.iload_n 1, 1) := by decide +kernel
theorem dX7_count_1 : decode cX7_count 1 = .ok (.tableswitch 103 0 6 #[43, 51, 59, 67, 75, 83, 93], 43) := by decide +kernel
theorem dX7_count_44 : decode cX7_count 44 = .ok (.aload_n 0, 1) := by decide +kernel
theorem dX7_count_45 : decode cX7_count 45 = .ok (.getfield 10, 3) := by decide +kernel
theorem dX7_count_48 : decode cX7_count 48 = .ok (.getfield 181, 3) := by decide +kernel
theorem dX7_count_51 : decode cX7_count 51 = .ok (.ireturn, 1) := by decide +kernel
theorem dX7_count_52 : decode cX7_count 52 = .ok (.aload_n 0, 1) := by decide +kernel
theorem dX7_count_53 : decode cX7_count 53 = .ok (.getfield 10, 3) := by decide +kernel
theorem dX7_count_56 : decode cX7_count 56 = .ok (.invokevirtual 190, 3) := by decide +kernel
theorem dX7_count_59 : decode cX7_count 59 = .ok (.ireturn, 1) := by decide +kernel
theorem dX7_count_60 : decode cX7_count 60 = .ok (.aload_n 0, 1) := by decide +kernel
theorem dX7_count_61 : decode cX7_count 61 = .ok (.getfield 10, 3) := by decide +kernel
theorem dX7_count_64 : decode cX7_count 64 = .ok (.getfield 122, 3) := by decide +kernel
theorem dX7_count_67 : decode cX7_count 67 = .ok (.ireturn, 1) := by decide +kernel
theorem dX7_count_68 : decode cX7_count 68 = .ok (.aload_n 0, 1) := by decide +kernel
theorem dX7_count_69 : decode cX7_count 69 = .ok (.getfield 19, 3) := by decide +kernel
theorem dX7_count_72 : decode cX7_count 72 = .ok (.getfield 192, 3) := by decide +kernel
theorem dX7_count_75 : decode cX7_count 75 = .ok (.ireturn, 1) := by decide +kernel
theorem dX7_count_76 : decode cX7_count 76 = .ok (.aload_n 0, 1) := by decide +kernel
theorem dX7_count_77 : decode cX7_count 77 = .ok (.getfield 26, 3) := by decide +kernel
theorem dX7_count_80 : decode cX7_count 80 = .ok (.getfield 195, 3) := by decide +kernel
theorem dX7_count_83 : decode cX7_count 83 = .ok (.ireturn, 1) := by decide +kernel
theorem dX7_count_84 : decode cX7_count 84 = .ok (.aload_n 0, 1) := by decide +kernel
theorem dX7_count_85 : decode cX7_count 85 = .ok (.getfield 10, 3) := by decide +kernel
theorem dX7_count_88 : decode cX7_count 88 = .ok (.getfield 139, 3) := by decide +kernel
theorem dX7_count_91 : decode cX7_count 91 = .ok (.iconst 0, 1) := by decide +kernel
theorem dX7_count_92 : decode cX7_count 92 = .ok (.iaload, 1) := by decide +kernel
theorem dX7_count_93 : decode cX7_count 93 = .ok (.ireturn, 1) := by decide +kernel
theorem dX7_count_94 : decode cX7_count 94 = .ok (.aload_n 0, 1) := by decide +kernel
theorem dX7_count_95 : decode cX7_count 95 = .ok (.getfield 10, 3) := by decide +kernel
theorem dX7_count_98 : decode cX7_count 98 = .ok (.getfield 139, 3) := by decide +kernel
theorem dX7_count_101 : decode cX7_count 101 = .ok (.iconst 1, 1) := by decide +kernel
theorem dX7_count_102 : decode cX7_count 102 = .ok (.iaload, 1) := by decide +kernel
theorem dX7_count_103 : decode cX7_count 103 = .ok (.ireturn, 1) := by decide +kernel
theorem dX7_count_104 : decode cX7_count 104 = .ok (.aload_n 0, 1) := by decide +kernel
theorem dX7_count_105 : decode cX7_count 105 = .ok (.iload_n 1, 1) := by decide +kernel
theorem dX7_count_106 : decode cX7_count 106 = .ok (.bipush 10, 2) := by decide +kernel
theorem dX7_count_108 : decode cX7_count 108 = .ok (.isub, 1) := by decide +kernel
theorem dX7_count_109 : decode cX7_count 109 = .ok (.invokevirtual 198, 3) := by decide +kernel
theorem dX7_count_112 : decode cX7_count 112 = .ok (.ireturn, 1) := by decide +kernel
theorem dX7_bend_0 : decode cX7_bend 0 = .ok (.iload_n 1, 1) := by decide +kernel
theorem dX7_bend_1 : decode cX7_bend 1 = .ok (.invokestatic 60, 3) := by decide +kernel
theorem dX7_bend_4 : decode cX7_bend 4 = .ok (.ifCond .eq 10, 3) := by decide +kernel
theorem dX7_bend_7 : decode cX7_bend 7 = .ok (.iload_n 2, 1) := by decide +kernel
theorem dX7_bend_8 : decode cX7_bend 8 = .ok (.invokestatic 119, 3) := by decide +kernel
theorem dX7_bend_11 : decode cX7_bend 11 = .ok (.ifCond .ne 6, 3) := by decide +kernel
theorem dX7_bend_14 : decode cX7_bend 14 = .ok (.ldc 52, 2) := by decide +kernel
theorem dX7_bend_16 : decode cX7_bend 16 = .ok (.ireturn, 1) := by decide +kernel
theorem dX7_bend_17 : decode cX7_bend 17 = .ok (.aload_n 0, 1) := by decide +kernel
theorem dX7_bend_18 : decode cX7_bend 18 = .ok (.getfield 10, 3) := by decide +kernel
theorem dX7_bend_21 : decode cX7_bend 21 = .ok (.getfield 64, 3) := by decide +kernel
theorem dX7_bend_24 : decode cX7_bend 24 = .ok (.iload_n 1, 1) := by decide +kernel
theorem dX7_bend_25 : decode cX7_bend 25 = .ok (.aaload, 1) := by decide +kernel
theorem dX7_bend_26 : decode cX7_bend 26 = .ok (.aload_n 0, 1) := by decide +kernel
theorem dX7_bend_27 : decode cX7_bend 27 = .ok (.getfield 10, 3) := by decide +kernel
theorem dX7_bend_30 : decode cX7_bend 30 = .ok (.getfield 56, 3) := by decide +kernel
theorem dX7_bend_33 : decode cX7_bend 33 = .ok (.invokevirtual 151, 3) := by decide +kernel
theorem dX7_bend_36 : decode cX7_bend 36 = .ok (.iload_n 2, 1) := by decide +kernel
theorem dX7_bend_37 : decode cX7_bend 37 = .ok (.invokestatic 201, 3) := by decide +kernel
theorem dX7_bend_40 : decode cX7_bend 40 = .ok (.ireturn, 1) := by decide +kernel
theorem dX7_tripsAt_0 : decode cX7_tripsAt 0 = .ok (.iload_n 1, 1) := by decide +kernel
theorem dX7_tripsAt_1 : decode cX7_tripsAt 1 = .ok (.invokestatic 60, 3) := by decide +kernel
theorem dX7_tripsAt_4 : decode cX7_tripsAt 4 = .ok (.ifCond .eq 12, 3) := by decide +kernel
theorem dX7_tripsAt_7 : decode cX7_tripsAt 7 = .ok (.iload_n 2, 1) := by decide +kernel
theorem dX7_tripsAt_8 : decode cX7_tripsAt 8 = .ok (.iconst 0, 1) := by decide +kernel
theorem dX7_tripsAt_9 : decode cX7_tripsAt 9 = .ok (.iconst 1, 1) := by decide +kernel
theorem dX7_tripsAt_10 : decode cX7_tripsAt 10 = .ok (.invokestatic 48, 3) := by decide +kernel
theorem dX7_tripsAt_13 : decode cX7_tripsAt 13 = .ok (.ifCond .ne 6, 3) := by decide +kernel
theorem dX7_tripsAt_16 : decode cX7_tripsAt 16 = .ok (.ldc 52, 2) := by decide +kernel
theorem dX7_tripsAt_18 : decode cX7_tripsAt 18 = .ok (.ireturn, 1) := by decide +kernel
theorem dX7_tripsAt_19 : decode cX7_tripsAt 19 = .ok (.aload_n 0, 1) := by decide +kernel
theorem dX7_tripsAt_20 : decode cX7_tripsAt 20 = .ok (.getfield 10, 3) := by decide +kernel
theorem dX7_tripsAt_23 : decode cX7_tripsAt 23 = .ok (.getfield 64, 3) := by decide +kernel
theorem dX7_tripsAt_26 : decode cX7_tripsAt 26 = .ok (.iload_n 1, 1) := by decide +kernel
theorem dX7_tripsAt_27 : decode cX7_tripsAt 27 = .ok (.aaload, 1) := by decide +kernel
theorem dX7_tripsAt_28 : decode cX7_tripsAt 28 = .ok (.astore_n 3, 1) := by decide +kernel
theorem dX7_tripsAt_29 : decode cX7_tripsAt 29 = .ok (.aload_n 3, 1) := by decide +kernel
theorem dX7_tripsAt_30 : decode cX7_tripsAt 30 = .ok (.aload_n 0, 1) := by decide +kernel
theorem dX7_tripsAt_31 : decode cX7_tripsAt 31 = .ok (.getfield 10, 3) := by decide +kernel
theorem dX7_tripsAt_34 : decode cX7_tripsAt 34 = .ok (.getfield 56, 3) := by decide +kernel
theorem dX7_tripsAt_37 : decode cX7_tripsAt 37 = .ok (.invokevirtual 151, 3) := by decide +kernel
theorem dX7_tripsAt_40 : decode cX7_tripsAt 40 = .ok (.istore 4, 2) := by decide +kernel
theorem dX7_tripsAt_42 : decode cX7_tripsAt 42 = .ok (.iload_n 2, 1) := by decide +kernel
theorem dX7_tripsAt_43 : decode cX7_tripsAt 43 = .ok (.ifCond .ne 15, 3) := by decide +kernel
theorem dX7_tripsAt_46 : decode cX7_tripsAt 46 = .ok (.iload 4, 2) := by decide +kernel
theorem dX7_tripsAt_48 : decode cX7_tripsAt 48 = .ok (.aload_n 3, 1) := by decide +kernel
theorem dX7_tripsAt_49 : decode cX7_tripsAt 49 = .ok (.getfield 86, 3) := by decide +kernel
theorem dX7_tripsAt_52 : decode cX7_tripsAt 52 = .ok (.invokestatic 205, 3) := by decide +kernel
theorem dX7_tripsAt_55 : decode cX7_tripsAt 55 = .ok (.goto 12, 3) := by decide +kernel
theorem dX7_tripsAt_58 : decode cX7_tripsAt 58 = .ok (.iload 4, 2) := by decide +kernel
theorem dX7_tripsAt_60 : decode cX7_tripsAt 60 = .ok (.aload_n 3, 1) := by decide +kernel
theorem dX7_tripsAt_61 : decode cX7_tripsAt 61 = .ok (.getfield 83, 3) := by decide +kernel
theorem dX7_tripsAt_64 : decode cX7_tripsAt 64 = .ok (.invokestatic 208, 3) := by decide +kernel
theorem dX7_tripsAt_67 : decode cX7_tripsAt 67 = .ok (.ireturn, 1) := by decide +kernel
theorem dX7_loop_0 : decode cX7_loop 0 = .ok (.iload_n 1, 1) := by decide +kernel
theorem dX7_loop_1 : decode cX7_loop 1 = .ok (.iconst 0, 1) := by decide +kernel
theorem dX7_loop_2 : decode cX7_loop 2 = .ok (.iconst 2, 1) := by decide +kernel
theorem dX7_loop_3 : decode cX7_loop 3 = .ok (.invokestatic 48, 3) := by decide +kernel
theorem dX7_loop_6 : decode cX7_loop 6 = .ok (.ifCond .ne 6, 3) := by decide +kernel
theorem dX7_loop_9 : decode cX7_loop 9 = .ok (.ldc 52, 2) := by decide +kernel
theorem dX7_loop_11 : decode cX7_loop 11 = .ok (.ireturn, 1) := by decide +kernel
theorem dX7_loop_12 : decode cX7_loop 12 = .ok (.aload_n 0, 1) := by decide +kernel
theorem dX7_loop_13 : decode cX7_loop 13 = .ok (.getfield 44, 3) := by decide +kernel
theorem dX7_loop_16 : decode cX7_loop 16 = .ok (.ifCond .ne 19, 3) := by decide +kernel
theorem dX7_loop_19 : decode cX7_loop 19 = .ok (.aload_n 0, 1) := by decide +kernel
theorem dX7_loop_20 : decode cX7_loop 20 = .ok (.getfield 33, 3) := by decide +kernel
theorem dX7_loop_23 : decode cX7_loop 23 = .ok (.aload_n 0, 1) := by decide +kernel
theorem dX7_loop_24 : decode cX7_loop 24 = .ok (.getfield 10, 3) := by decide +kernel
theorem dX7_loop_27 : decode cX7_loop 27 = .ok (.invokevirtual 211, 3) := by decide +kernel
theorem dX7_loop_30 : decode cX7_loop 30 = .ok (.aload_n 0, 1) := by decide +kernel
theorem dX7_loop_31 : decode cX7_loop 31 = .ok (.iconst 1, 1) := by decide +kernel
theorem dX7_loop_32 : decode cX7_loop 32 = .ok (.putfield 44, 3) := by decide +kernel
theorem dX7_loop_35 : decode cX7_loop 35 = .ok (.aload_n 0, 1) := by decide +kernel
theorem dX7_loop_36 : decode cX7_loop 36 = .ok (.getfield 33, 3) := by decide +kernel
theorem dX7_loop_39 : decode cX7_loop 39 = .ok (.getfield 215, 3) := by decide +kernel
theorem dX7_loop_42 : decode cX7_loop 42 = .ok (.ifCond .ne 6, 3) := by decide +kernel
theorem dX7_loop_45 : decode cX7_loop 45 = .ok (.ldc 164, 2) := by decide +kernel
theorem dX7_loop_47 : decode cX7_loop 47 = .ok (.ireturn, 1) := by decide +kernel
theorem dX7_loop_48 : decode cX7_loop 48 = .ok (.iload_n 1, 1) := by decide +kernel
theorem dX7_loop_49 : decode cX7_loop 49 = .ok (.lookupswitch 43 #[(0, 27), (1, 35)], 27) := by decide +kernel
theorem dX7_loop_76 : decode cX7_loop 76 = .ok (.aload_n 0, 1) := by decide +kernel
theorem dX7_loop_77 : decode cX7_loop 77 = .ok (.getfield 33, 3) := by decide +kernel
theorem dX7_loop_80 : decode cX7_loop 80 = .ok (.getfield 218, 3) := by decide +kernel
theorem dX7_loop_83 : decode cX7_loop 83 = .ok (.ireturn, 1) := by decide +kernel
theorem dX7_loop_84 : decode cX7_loop 84 = .ok (.aload_n 0, 1) := by decide +kernel
theorem dX7_loop_85 : decode cX7_loop 85 = .ok (.getfield 33, 3) := by decide +kernel
theorem dX7_loop_88 : decode cX7_loop 88 = .ok (.getfield 221, 3) := by decide +kernel
theorem dX7_loop_91 : decode cX7_loop 91 = .ok (.ireturn, 1) := by decide +kernel
theorem dX7_loop_92 : decode cX7_loop 92 = .ok (.aload_n 0, 1) := by decide +kernel
theorem dX7_loop_93 : decode cX7_loop 93 = .ok (.getfield 33, 3) := by decide +kernel
theorem dX7_loop_96 : decode cX7_loop 96 = .ok (.getfield 224, 3) := by decide +kernel
theorem dX7_loop_99 : decode cX7_loop 99 = .ok (.ireturn, 1) := by decide +kernel
theorem dX7_stack_0 : decode cX7_stack 0 = .ok (.iload_n 1, 1) := by decide +kernel
theorem dX7_stack_1 : decode cX7_stack 1 = .ok (.sipush (-900), 3) := by decide +kernel
theorem dX7_stack_4 : decode cX7_stack 4 = .ok (.sipush 900, 3) := by decide +kernel
theorem dX7_stack_7 : decode cX7_stack 7 = .ok (.invokestatic 48, 3) := by decide +kernel
theorem dX7_stack_10 : decode cX7_stack 10 = .ok (.ifCond .eq 26, 3) := by decide +kernel
theorem dX7_stack_13 : decode cX7_stack 13 = .ok (.iload_n 2, 1) := by decide +kernel
theorem dX7_stack_14 : decode cX7_stack 14 = .ok (.iconst (-1), 1) := by decide +kernel
theorem dX7_stack_15 : decode cX7_stack 15 = .ok (.if_icmp .lt 21, 3) := by decide +kernel
theorem dX7_stack_18 : decode cX7_stack 18 = .ok (.iload_n 3, 1) := by decide +kernel
theorem dX7_stack_19 : decode cX7_stack 19 = .ok (.iconst 0, 1) := by decide +kernel
theorem dX7_stack_20 : decode cX7_stack 20 = .ok (.iconst 2, 1) := by decide +kernel
theorem dX7_stack_21 : decode cX7_stack 21 = .ok (.invokestatic 48, 3) := by decide +kernel
theorem dX7_stack_24 : decode cX7_stack 24 = .ok (.ifCond .eq 12, 3) := by decide +kernel
theorem dX7_stack_27 : decode cX7_stack 27 = .ok (.iload_n 2, 1) := by decide +kernel
theorem dX7_stack_28 : decode cX7_stack 28 = .ok (.iconst (-1), 1) := by decide +kernel
theorem dX7_stack_29 : decode cX7_stack 29 = .ok (.if_icmp .ne 10, 3) := by decide +kernel
theorem dX7_stack_32 : decode cX7_stack 32 = .ok (.iload_n 3, 1) := by decide +kernel
theorem dX7_stack_33 : decode cX7_stack 33 = .ok (.ifCond .eq 6, 3) := by decide +kernel
theorem dX7_stack_36 : decode cX7_stack 36 = .ok (.ldc 52, 2) := by decide +kernel
theorem dX7_stack_38 : decode cX7_stack 38 = .ok (.ireturn, 1) := by decide +kernel
theorem dX7_stack_39 : decode cX7_stack 39 = .ok (.aload_n 0, 1) := by decide +kernel
theorem dX7_stack_40 : decode cX7_stack 40 = .ok (.getfield 40, 3) := by decide +kernel
theorem dX7_stack_43 : decode cX7_stack 43 = .ok (.aload_n 0, 1) := by decide +kernel
theorem dX7_stack_44 : decode cX7_stack 44 = .ok (.getfield 10, 3) := by decide +kernel
theorem dX7_stack_47 : decode cX7_stack 47 = .ok (.getfield 56, 3) := by decide +kernel
theorem dX7_stack_50 : decode cX7_stack 50 = .ok (.invokevirtual 225, 3) := by decide +kernel
theorem dX7_stack_53 : decode cX7_stack 53 = .ok (.aload_n 0, 1) := by decide +kernel
theorem dX7_stack_54 : decode cX7_stack 54 = .ok (.getfield 40, 3) := by decide +kernel
theorem dX7_stack_57 : decode cX7_stack 57 = .ok (.iload_n 1, 1) := by decide +kernel
theorem dX7_stack_58 : decode cX7_stack 58 = .ok (.invokevirtual 229, 3) := by decide +kernel
theorem dX7_stack_61 : decode cX7_stack 61 = .ok (.istore 4, 2) := by decide +kernel
theorem dX7_stack_63 : decode cX7_stack 63 = .ok (.iload 4, 2) := by decide +kernel
theorem dX7_stack_65 : decode cX7_stack 65 = .ok (.ifCond .lt 9, 3) := by decide +kernel
theorem dX7_stack_68 : decode cX7_stack 68 = .ok (.iload_n 2, 1) := by decide +kernel
theorem dX7_stack_69 : decode cX7_stack 69 = .ok (.iload 4, 2) := by decide +kernel
theorem dX7_stack_71 : decode cX7_stack 71 = .ok (.if_icmp .lt 6, 3) := by decide +kernel
theorem dX7_stack_74 : decode cX7_stack 74 = .ok (.ldc 164, 2) := by decide +kernel
theorem dX7_stack_76 : decode cX7_stack 76 = .ok (.ireturn, 1) := by decide +kernel
theorem dX7_stack_77 : decode cX7_stack 77 = .ok (.iload_n 2, 1) := by decide +kernel
theorem dX7_stack_78 : decode cX7_stack 78 = .ok (.iconst (-1), 1) := by decide +kernel
theorem dX7_stack_79 : decode cX7_stack 79 = .ok (.if_icmp .ne 8, 3) := by decide +kernel
theorem dX7_stack_82 : decode cX7_stack 82 = .ok (.iload 4, 2) := by decide +kernel
theorem dX7_stack_84 : decode cX7_stack 84 = .ok (.goto 15, 3) := by decide +kernel
theorem dX7_stack_87 : decode cX7_stack 87 = .ok (.aload_n 0, 1) := by decide +kernel
theorem dX7_stack_88 : decode cX7_stack 88 = .ok (.getfield 40, 3) := by decide +kernel
theorem dX7_stack_91 : decode cX7_stack 91 = .ok (.iload 4, 2) := by decide +kernel
theorem dX7_stack_93 : decode cX7_stack 93 = .ok (.iload_n 1, 1) := by decide +kernel
theorem dX7_stack_94 : decode cX7_stack 94 = .ok (.iload_n 2, 1) := by decide +kernel
theorem dX7_stack_95 : decode cX7_stack 95 = .ok (.iload_n 3, 1) := by decide +kernel
theorem dX7_stack_96 : decode cX7_stack 96 = .ok (.invokevirtual 232, 3) := by decide +kernel
theorem dX7_stack_99 : decode cX7_stack 99 = .ok (.ireturn, 1) := by decide +kernel
theorem dX7_undo_0 : decode cX7_undo 0 = .ok (.aload_n 0, 1) := by decide +kernel
theorem dX7_undo_1 : decode cX7_undo 1 = .ok (.getfield 19, 3) := by decide +kernel
theorem dX7_undo_4 : decode cX7_undo 4 = .ok (.getfield 192, 3) := by decide +kernel
theorem dX7_undo_7 : decode cX7_undo 7 = .ok (.ifCond .ne 6, 3) := by decide +kernel
theorem dX7_undo_10 : decode cX7_undo 10 = .ok (.ldc 79, 2) := by decide +kernel
theorem dX7_undo_12 : decode cX7_undo 12 = .ok (.ireturn, 1) := by decide +kernel
theorem dX7_undo_13 : decode cX7_undo 13 = .ok (.aload_n 0, 1) := by decide +kernel
theorem dX7_undo_14 : decode cX7_undo 14 = .ok (.getfield 19, 3) := by decide +kernel
theorem dX7_undo_17 : decode cX7_undo 17 = .ok (.aload_n 0, 1) := by decide +kernel
theorem dX7_undo_18 : decode cX7_undo 18 = .ok (.getfield 10, 3) := by decide +kernel
theorem dX7_undo_21 : decode cX7_undo 21 = .ok (.invokevirtual 236, 3) := by decide +kernel
theorem dX7_undo_24 : decode cX7_undo 24 = .ok (.aload_n 0, 1) := by decide +kernel
theorem dX7_undo_25 : decode cX7_undo 25 = .ok (.iconst 0, 1) := by decide +kernel
theorem dX7_undo_26 : decode cX7_undo 26 = .ok (.putfield 44, 3) := by decide +kernel
theorem dX7_undo_29 : decode cX7_undo 29 = .ok (.aload_n 0, 1) := by decide +kernel
theorem dX7_undo_30 : decode cX7_undo 30 = .ok (.getfield 19, 3) := by decide +kernel
theorem dX7_undo_33 : decode cX7_undo 33 = .ok (.getfield 192, 3) := by decide +kernel
theorem dX7_undo_36 : decode cX7_undo 36 = .ok (.ireturn, 1) := by decide +kernel
theorem dX7_type_0 : decode cX7_type 0 = .ok (.iload_n 1, 1) := by decide +kernel
theorem dX7_type_1 : decode cX7_type 1 = .ok (.bipush 32, 2) := by decide +kernel
theorem dX7_type_3 : decode cX7_type 3 = .ok (.bipush 126, 2) := by decide +kernel
theorem dX7_type_5 : decode cX7_type 5 = .ok (.invokestatic 48, 3) := by decide +kernel
theorem dX7_type_8 : decode cX7_type 8 = .ok (.ifCond .ne 6, 3) := by decide +kernel
theorem dX7_type_11 : decode cX7_type 11 = .ok (.ldc 52, 2) := by decide +kernel
theorem dX7_type_13 : decode cX7_type 13 = .ok (.ireturn, 1) := by decide +kernel
theorem dX7_type_14 : decode cX7_type 14 = .ok (.aload_n 0, 1) := by decide +kernel
theorem dX7_type_15 : decode cX7_type 15 = .ok (.getfield 26, 3) := by decide +kernel
theorem dX7_type_18 : decode cX7_type 18 = .ok (.getfield 195, 3) := by decide +kernel
theorem dX7_type_21 : decode cX7_type 21 = .ok (.bipush 60, 2) := by decide +kernel
theorem dX7_type_23 : decode cX7_type 23 = .ok (.if_icmp .lt 6, 3) := by decide +kernel
theorem dX7_type_26 : decode cX7_type 26 = .ok (.ldc 74, 2) := by decide +kernel
theorem dX7_type_28 : decode cX7_type 28 = .ok (.ireturn, 1) := by decide +kernel
theorem dX7_type_29 : decode cX7_type 29 = .ok (.aload_n 0, 1) := by decide +kernel
theorem dX7_type_30 : decode cX7_type 30 = .ok (.getfield 26, 3) := by decide +kernel
theorem dX7_type_33 : decode cX7_type 33 = .ok (.iload_n 1, 1) := by decide +kernel
theorem dX7_type_34 : decode cX7_type 34 = .ok (.i2c, 1) := by decide +kernel
theorem dX7_type_35 : decode cX7_type 35 = .ok (.invokevirtual 239, 3) := by decide +kernel
theorem dX7_type_38 : decode cX7_type 38 = .ok (.aload_n 0, 1) := by decide +kernel
theorem dX7_type_39 : decode cX7_type 39 = .ok (.getfield 26, 3) := by decide +kernel
theorem dX7_type_42 : decode cX7_type 42 = .ok (.getfield 195, 3) := by decide +kernel
theorem dX7_type_45 : decode cX7_type 45 = .ok (.ireturn, 1) := by decide +kernel
theorem dX7_clearText_0 : decode cX7_clearText 0 = .ok (.aload_n 0, 1) := by decide +kernel
theorem dX7_clearText_1 : decode cX7_clearText 1 = .ok (.getfield 26, 3) := by decide +kernel
theorem dX7_clearText_4 : decode cX7_clearText 4 = .ok (.getfield 195, 3) := by decide +kernel
theorem dX7_clearText_7 : decode cX7_clearText 7 = .ok (.istore_n 1, 1) := by decide +kernel
theorem dX7_clearText_8 : decode cX7_clearText 8 = .ok (.aload_n 0, 1) := by decide +kernel
theorem dX7_clearText_9 : decode cX7_clearText 9 = .ok (.getfield 26, 3) := by decide +kernel
theorem dX7_clearText_12 : decode cX7_clearText 12 = .ok (.iconst 0, 1) := by decide +kernel
theorem dX7_clearText_13 : decode cX7_clearText 13 = .ok (.putfield 195, 3) := by decide +kernel
theorem dX7_clearText_16 : decode cX7_clearText 16 = .ok (.iload_n 1, 1) := by decide +kernel
theorem dX7_clearText_17 : decode cX7_clearText 17 = .ok (.ireturn, 1) := by decide +kernel
theorem dX7_fault_0 : decode cX7_fault 0 = .ok (.iload_n 1, 1) := by decide +kernel
theorem dX7_fault_1 : decode cX7_fault 1 = .ok (.iconst 0, 1) := by decide +kernel
theorem dX7_fault_2 : decode cX7_fault 2 = .ok (.iconst 1, 1) := by decide +kernel
theorem dX7_fault_3 : decode cX7_fault 3 = .ok (.invokestatic 48, 3) := by decide +kernel
theorem dX7_fault_6 : decode cX7_fault 6 = .ok (.ifCond .ne 6, 3) := by decide +kernel
theorem dX7_fault_9 : decode cX7_fault 9 = .ok (.ldc 52, 2) := by decide +kernel
theorem dX7_fault_11 : decode cX7_fault 11 = .ok (.ireturn, 1) := by decide +kernel
theorem dX7_fault_12 : decode cX7_fault 12 = .ok (.aload_n 0, 1) := by decide +kernel
theorem dX7_fault_13 : decode cX7_fault 13 = .ok (.getfield 26, 3) := by decide +kernel
theorem dX7_fault_16 : decode cX7_fault 16 = .ok (.invokevirtual 243, 3) := by decide +kernel
theorem dX7_fault_19 : decode cX7_fault 19 = .ok (.istore_n 2, 1) := by decide +kernel
theorem dX7_fault_20 : decode cX7_fault 20 = .ok (.iload_n 2, 1) := by decide +kernel
theorem dX7_fault_21 : decode cX7_fault 21 = .ok (.iconst (-1), 1) := by decide +kernel
theorem dX7_fault_22 : decode cX7_fault 22 = .ok (.if_icmp .ne 6, 3) := by decide +kernel
theorem dX7_fault_25 : decode cX7_fault 25 = .ok (.ldc 164, 2) := by decide +kernel
theorem dX7_fault_27 : decode cX7_fault 27 = .ok (.ireturn, 1) := by decide +kernel
theorem dX7_fault_28 : decode cX7_fault 28 = .ok (.iload_n 1, 1) := by decide +kernel
theorem dX7_fault_29 : decode cX7_fault 29 = .ok (.ifCond .ne 7, 3) := by decide +kernel
theorem dX7_fault_32 : decode cX7_fault 32 = .ok (.iload_n 2, 1) := by decide +kernel
theorem dX7_fault_33 : decode cX7_fault 33 = .ok (.goto 11, 3) := by decide +kernel
theorem dX7_fault_36 : decode cX7_fault 36 = .ok (.aload_n 0, 1) := by decide +kernel
theorem dX7_fault_37 : decode cX7_fault 37 = .ok (.getfield 26, 3) := by decide +kernel
theorem dX7_fault_40 : decode cX7_fault 40 = .ok (.iload_n 2, 1) := by decide +kernel
theorem dX7_fault_41 : decode cX7_fault 41 = .ok (.invokevirtual 246, 3) := by decide +kernel
theorem dX7_fault_44 : decode cX7_fault 44 = .ok (.ireturn, 1) := by decide +kernel
theorem dX7_read_0 : decode cX7_read 0 = .ok (.iload_n 1, 1) := by decide +kernel
theorem dX7_read_1 : decode cX7_read 1 = .ok (.invokestatic 60, 3) := by decide +kernel
theorem dX7_read_4 : decode cX7_read 4 = .ok (.ifCond .ne 6, 3) := by decide +kernel
theorem dX7_read_7 : decode cX7_read 7 = .ok (.ldc 52, 2) := by decide +kernel
theorem dX7_read_9 : decode cX7_read 9 = .ok (.ireturn, 1) := by decide +kernel
theorem dX7_read_10 : decode cX7_read 10 = .ok (.aload_n 0, 1) := by decide +kernel
theorem dX7_read_11 : decode cX7_read 11 = .ok (.getfield 26, 3) := by decide +kernel
theorem dX7_read_14 : decode cX7_read 14 = .ok (.invokevirtual 243, 3) := by decide +kernel
theorem dX7_read_17 : decode cX7_read 17 = .ok (.iconst (-1), 1) := by decide +kernel
theorem dX7_read_18 : decode cX7_read 18 = .ok (.if_icmp .eq 6, 3) := by decide +kernel
theorem dX7_read_21 : decode cX7_read 21 = .ok (.ldc 79, 2) := by decide +kernel
theorem dX7_read_23 : decode cX7_read 23 = .ok (.ireturn, 1) := by decide +kernel
theorem dX7_read_24 : decode cX7_read 24 = .ok (.aload_n 0, 1) := by decide +kernel
theorem dX7_read_25 : decode cX7_read 25 = .ok (.invokevirtual 53, 3) := by decide +kernel
theorem dX7_read_28 : decode cX7_read 28 = .ok (.aload_n 0, 1) := by decide +kernel
theorem dX7_read_29 : decode cX7_read 29 = .ok (.getfield 10, 3) := by decide +kernel
theorem dX7_read_32 : decode cX7_read 32 = .ok (.getfield 64, 3) := by decide +kernel
theorem dX7_read_35 : decode cX7_read 35 = .ok (.iload_n 1, 1) := by decide +kernel
theorem dX7_read_36 : decode cX7_read 36 = .ok (.aaload, 1) := by decide +kernel
theorem dX7_read_37 : decode cX7_read 37 = .ok (.astore_n 2, 1) := by decide +kernel
theorem dX7_read_38 : decode cX7_read 38 = .ok (.aload_n 2, 1) := by decide +kernel
theorem dX7_read_39 : decode cX7_read 39 = .ok (.iconst 0, 1) := by decide +kernel
theorem dX7_read_40 : decode cX7_read 40 = .ok (.putfield 68, 3) := by decide +kernel
theorem dX7_read_43 : decode cX7_read 43 = .ok (.iconst 0, 1) := by decide +kernel
theorem dX7_read_44 : decode cX7_read 44 = .ok (.istore_n 3, 1) := by decide +kernel
theorem dX7_read_45 : decode cX7_read 45 = .ok (.iload_n 3, 1) := by decide +kernel
theorem dX7_read_46 : decode cX7_read 46 = .ok (.aload_n 0, 1) := by decide +kernel
theorem dX7_read_47 : decode cX7_read 47 = .ok (.getfield 26, 3) := by decide +kernel
theorem dX7_read_50 : decode cX7_read 50 = .ok (.invokevirtual 249, 3) := by decide +kernel
theorem dX7_read_53 : decode cX7_read 53 = .ok (.if_icmp .ge 37, 3) := by decide +kernel
theorem dX7_read_56 : decode cX7_read 56 = .ok (.aload_n 2, 1) := by decide +kernel
theorem dX7_read_57 : decode cX7_read 57 = .ok (.aload_n 0, 1) := by decide +kernel
theorem dX7_read_58 : decode cX7_read 58 = .ok (.getfield 26, 3) := by decide +kernel
theorem dX7_read_61 : decode cX7_read 61 = .ok (.iload_n 3, 1) := by decide +kernel
theorem dX7_read_62 : decode cX7_read 62 = .ok (.invokevirtual 251, 3) := by decide +kernel
theorem dX7_read_65 : decode cX7_read 65 = .ok (.aload_n 0, 1) := by decide +kernel
theorem dX7_read_66 : decode cX7_read 66 = .ok (.getfield 26, 3) := by decide +kernel
theorem dX7_read_69 : decode cX7_read 69 = .ok (.iload_n 3, 1) := by decide +kernel
theorem dX7_read_70 : decode cX7_read 70 = .ok (.invokevirtual 254, 3) := by decide +kernel
theorem dX7_read_73 : decode cX7_read 73 = .ok (.aload_n 0, 1) := by decide +kernel
theorem dX7_read_74 : decode cX7_read 74 = .ok (.getfield 26, 3) := by decide +kernel
theorem dX7_read_77 : decode cX7_read 77 = .ok (.iload_n 3, 1) := by decide +kernel
theorem dX7_read_78 : decode cX7_read 78 = .ok (.invokevirtual 257, 3) := by decide +kernel
theorem dX7_read_81 : decode cX7_read 81 = .ok (.invokevirtual 75, 3) := by decide +kernel
theorem dX7_read_84 : decode cX7_read 84 = .ok (.iinc 3 1, 3) := by decide +kernel
theorem dX7_read_87 : decode cX7_read 87 = .ok (.goto (-42), 3) := by decide +kernel
theorem dX7_read_90 : decode cX7_read 90 = .ok (.aload_n 2, 1) := by decide +kernel
theorem dX7_read_91 : decode cX7_read 91 = .ok (.getfield 68, 3) := by decide +kernel
theorem dX7_read_94 : decode cX7_read 94 = .ok (.ireturn, 1) := by decide +kernel
theorem dX7_recordChange_0 : decode cX7_recordChange 0 = .ok (.aload_n 0, 1) := by decide +kernel
theorem dX7_recordChange_1 : decode cX7_recordChange 1 = .ok (.getfield 19, 3) := by decide +kernel
theorem dX7_recordChange_4 : decode cX7_recordChange 4 = .ok (.aload_n 0, 1) := by decide +kernel
theorem dX7_recordChange_5 : decode cX7_recordChange 5 = .ok (.getfield 10, 3) := by decide +kernel
theorem dX7_recordChange_8 : decode cX7_recordChange 8 = .ok (.invokevirtual 260, 3) := by decide +kernel
theorem dX7_recordChange_11 : decode cX7_recordChange 11 = .ok (.aload_n 0, 1) := by decide +kernel
theorem dX7_recordChange_12 : decode cX7_recordChange 12 = .ok (.iconst 0, 1) := by decide +kernel
theorem dX7_recordChange_13 : decode cX7_recordChange 13 = .ok (.putfield 44, 3) := by decide +kernel
theorem dX7_recordChange_16 : decode cX7_recordChange 16 = .ok (.return_, 1) := by decide +kernel
theorem dX7_numberOfMetal_0 : decode cX7_numberOfMetal 0 = .ok (.iload_n 1, 1) := by decide +kernel
theorem dX7_numberOfMetal_1 : decode cX7_numberOfMetal 1 = .ok (.iconst 0, 1) := by decide +kernel
theorem dX7_numberOfMetal_2 : decode cX7_numberOfMetal 2 = .ok (.iconst 5, 1) := by decide +kernel
theorem dX7_numberOfMetal_3 : decode cX7_numberOfMetal 3 = .ok (.invokestatic 48, 3) := by decide +kernel
theorem dX7_numberOfMetal_6 : decode cX7_numberOfMetal 6 = .ok (.ifCond .eq 15, 3) := by decide +kernel
theorem dX7_numberOfMetal_9 : decode cX7_numberOfMetal 9 = .ok (.aload_n 0, 1) := by decide +kernel
theorem dX7_numberOfMetal_10 : decode cX7_numberOfMetal 10 = .ok (.getfield 10, 3) := by decide +kernel
theorem dX7_numberOfMetal_13 : decode cX7_numberOfMetal 13 = .ok (.getfield 56, 3) := by decide +kernel
theorem dX7_numberOfMetal_16 : decode cX7_numberOfMetal 16 = .ok (.iload_n 1, 1) := by decide +kernel
theorem dX7_numberOfMetal_17 : decode cX7_numberOfMetal 17 = .ok (.iaload, 1) := by decide +kernel
theorem dX7_numberOfMetal_18 : decode cX7_numberOfMetal 18 = .ok (.goto 5, 3) := by decide +kernel
theorem dX7_numberOfMetal_21 : decode cX7_numberOfMetal 21 = .ok (.ldc 52, 2) := by decide +kernel
theorem dX7_numberOfMetal_23 : decode cX7_numberOfMetal 23 = .ok (.ireturn, 1) := by decide +kernel
theorem dX7_isWithin_0 : decode cX7_isWithin 0 = .ok (.iload_n 1, 1) := by decide +kernel
theorem dX7_isWithin_1 : decode cX7_isWithin 1 = .ok (.iload_n 0, 1) := by decide +kernel
theorem dX7_isWithin_2 : decode cX7_isWithin 2 = .ok (.if_icmp .gt 12, 3) := by decide +kernel
theorem dX7_isWithin_5 : decode cX7_isWithin 5 = .ok (.iload_n 0, 1) := by decide +kernel
theorem dX7_isWithin_6 : decode cX7_isWithin 6 = .ok (.iload_n 2, 1) := by decide +kernel
theorem dX7_isWithin_7 : decode cX7_isWithin 7 = .ok (.if_icmp .gt 7, 3) := by decide +kernel
theorem dX7_isWithin_10 : decode cX7_isWithin 10 = .ok (.iconst 1, 1) := by decide +kernel
theorem dX7_isWithin_11 : decode cX7_isWithin 11 = .ok (.goto 4, 3) := by decide +kernel
theorem dX7_isWithin_14 : decode cX7_isWithin 14 = .ok (.iconst 0, 1) := by decide +kernel
theorem dX7_isWithin_15 : decode cX7_isWithin 15 = .ok (.ireturn, 1) := by decide +kernel
theorem dX7_isRoom_0 : decode cX7_isRoom 0 = .ok (.iload_n 0, 1) := by decide +kernel
theorem dX7_isRoom_1 : decode cX7_isRoom 1 = .ok (.iconst 0, 1) := by decide +kernel
theorem dX7_isRoom_2 : decode cX7_isRoom 2 = .ok (.iconst 2, 1) := by decide +kernel
theorem dX7_isRoom_3 : decode cX7_isRoom 3 = .ok (.invokestatic 48, 3) := by decide +kernel
theorem dX7_isRoom_6 : decode cX7_isRoom 6 = .ok (.ireturn, 1) := by decide +kernel
theorem dX7_isWarmth_0 : decode cX7_isWarmth 0 = .ok (.iload_n 0, 1) := by decide +kernel
theorem dX7_isWarmth_1 : decode cX7_isWarmth 1 = .ok (.sipush (-500), 3) := by decide +kernel
theorem dX7_isWarmth_4 : decode cX7_isWarmth 4 = .ok (.sipush 1500, 3) := by decide +kernel
theorem dX7_isWarmth_7 : decode cX7_isWarmth 7 = .ok (.invokestatic 48, 3) := by decide +kernel
theorem dX7_isWarmth_10 : decode cX7_isWarmth 10 = .ok (.ireturn, 1) := by decide +kernel
theorem dX7_isSetting_0 : decode cX7_isSetting 0 = .ok (.iload_n 0, 1) := by decide +kernel
theorem dX7_isSetting_1 : decode cX7_isSetting 1 = .ok (.ifCond .ne 13, 3) := by decide +kernel
theorem dX7_isSetting_4 : decode cX7_isSetting 4 = .ok (.iload_n 1, 1) := by decide +kernel
theorem dX7_isSetting_5 : decode cX7_isSetting 5 = .ok (.iconst 0, 1) := by decide +kernel
theorem dX7_isSetting_6 : decode cX7_isSetting 6 = .ok (.bipush 99, 2) := by decide +kernel
theorem dX7_isSetting_8 : decode cX7_isSetting 8 = .ok (.invokestatic 48, 3) := by decide +kernel
theorem dX7_isSetting_11 : decode cX7_isSetting 11 = .ok (.goto 24, 3) := by decide +kernel
theorem dX7_isSetting_14 : decode cX7_isSetting 14 = .ok (.iload_n 0, 1) := by decide +kernel
theorem dX7_isSetting_15 : decode cX7_isSetting 15 = .ok (.iconst 1, 1) := by decide +kernel
theorem dX7_isSetting_16 : decode cX7_isSetting 16 = .ok (.if_icmp .ne 18, 3) := by decide +kernel
theorem dX7_isSetting_19 : decode cX7_isSetting 19 = .ok (.iload_n 1, 1) := by decide +kernel
theorem dX7_isSetting_20 : decode cX7_isSetting 20 = .ok (.iconst 1, 1) := by decide +kernel
theorem dX7_isSetting_21 : decode cX7_isSetting 21 = .ok (.sipush 999, 3) := by decide +kernel
theorem dX7_isSetting_24 : decode cX7_isSetting 24 = .ok (.invokestatic 48, 3) := by decide +kernel
theorem dX7_isSetting_27 : decode cX7_isSetting 27 = .ok (.ifCond .eq 7, 3) := by decide +kernel
theorem dX7_isSetting_30 : decode cX7_isSetting 30 = .ok (.iconst 1, 1) := by decide +kernel
theorem dX7_isSetting_31 : decode cX7_isSetting 31 = .ok (.goto 4, 3) := by decide +kernel
theorem dX7_isSetting_34 : decode cX7_isSetting 34 = .ok (.iconst 0, 1) := by decide +kernel
theorem dX7_isSetting_35 : decode cX7_isSetting 35 = .ok (.ireturn, 1) := by decide +kernel
theorem dX7_oneIf_0 : decode cX7_oneIf 0 = .ok (.iload_n 0, 1) := by decide +kernel
theorem dX7_oneIf_1 : decode cX7_oneIf 1 = .ok (.ifCond .eq 7, 3) := by decide +kernel
theorem dX7_oneIf_4 : decode cX7_oneIf 4 = .ok (.iconst 1, 1) := by decide +kernel
theorem dX7_oneIf_5 : decode cX7_oneIf 5 = .ok (.goto 4, 3) := by decide +kernel
theorem dX7_oneIf_8 : decode cX7_oneIf 8 = .ok (.iconst 0, 1) := by decide +kernel
theorem dX7_oneIf_9 : decode cX7_oneIf 9 = .ok (.ireturn, 1) := by decide +kernel
theorem dX7_bendAt_0 : decode cX7_bendAt 0 = .ok (.iload_n 0, 1) := by decide +kernel
theorem dX7_bendAt_1 : decode cX7_bendAt 1 = .ok (.iload_n 1, 1) := by decide +kernel
theorem dX7_bendAt_2 : decode cX7_bendAt 2 = .ok (.sipush 200, 3) := by decide +kernel
theorem dX7_bendAt_5 : decode cX7_bendAt 5 = .ok (.isub, 1) := by decide +kernel
theorem dX7_bendAt_6 : decode cX7_bendAt 6 = .ok (.imul, 1) := by decide +kernel
theorem dX7_bendAt_7 : decode cX7_bendAt 7 = .ok (.ireturn, 1) := by decide +kernel
theorem dX7_leastPulledUp_0 : decode cX7_leastPulledUp 0 = .ok (.iload_n 0, 1) := by decide +kernel
theorem dX7_leastPulledUp_1 : decode cX7_leastPulledUp 1 = .ok (.ifCond .gt 23, 3) := by decide +kernel
theorem dX7_leastPulledUp_4 : decode cX7_leastPulledUp 4 = .ok (.iload_n 0, 1) := by decide +kernel
theorem dX7_leastPulledUp_5 : decode cX7_leastPulledUp 5 = .ok (.sipush (-500), 3) := by decide +kernel
theorem dX7_leastPulledUp_8 : decode cX7_leastPulledUp 8 = .ok (.invokestatic 201, 3) := by decide +kernel
theorem dX7_leastPulledUp_11 : decode cX7_leastPulledUp 11 = .ok (.iload_n 1, 1) := by decide +kernel
theorem dX7_leastPulledUp_12 : decode cX7_leastPulledUp 12 = .ok (.if_icmp .lt 9, 3) := by decide +kernel
theorem dX7_leastPulledUp_15 : decode cX7_leastPulledUp 15 = .ok (.sipush (-500), 3) := by decide +kernel
theorem dX7_leastPulledUp_18 : decode cX7_leastPulledUp 18 = .ok (.goto 5, 3) := by decide +kernel
theorem dX7_leastPulledUp_21 : decode cX7_leastPulledUp 21 = .ok (.ldc 164, 2) := by decide +kernel
theorem dX7_leastPulledUp_23 : decode cX7_leastPulledUp 23 = .ok (.ireturn, 1) := by decide +kernel
theorem dX7_leastPulledUp_24 : decode cX7_leastPulledUp 24 = .ok (.sipush 200, 3) := by decide +kernel
theorem dX7_leastPulledUp_27 : decode cX7_leastPulledUp 27 = .ok (.iload_n 1, 1) := by decide +kernel
theorem dX7_leastPulledUp_28 : decode cX7_leastPulledUp 28 = .ok (.ineg, 1) := by decide +kernel
theorem dX7_leastPulledUp_29 : decode cX7_leastPulledUp 29 = .ok (.iload_n 0, 1) := by decide +kernel
theorem dX7_leastPulledUp_30 : decode cX7_leastPulledUp 30 = .ok (.invokestatic 263, 3) := by decide +kernel
theorem dX7_leastPulledUp_33 : decode cX7_leastPulledUp 33 = .ok (.isub, 1) := by decide +kernel
theorem dX7_leastPulledUp_34 : decode cX7_leastPulledUp 34 = .ok (.istore_n 2, 1) := by decide +kernel
theorem dX7_leastPulledUp_35 : decode cX7_leastPulledUp 35 = .ok (.iload_n 2, 1) := by decide +kernel
theorem dX7_leastPulledUp_36 : decode cX7_leastPulledUp 36 = .ok (.sipush 1500, 3) := by decide +kernel
theorem dX7_leastPulledUp_39 : decode cX7_leastPulledUp 39 = .ok (.if_icmp .le 8, 3) := by decide +kernel
theorem dX7_leastPulledUp_42 : decode cX7_leastPulledUp 42 = .ok (.ldc 164, 2) := by decide +kernel
theorem dX7_leastPulledUp_44 : decode cX7_leastPulledUp 44 = .ok (.goto 10, 3) := by decide +kernel
theorem dX7_leastPulledUp_47 : decode cX7_leastPulledUp 47 = .ok (.iload_n 2, 1) := by decide +kernel
theorem dX7_leastPulledUp_48 : decode cX7_leastPulledUp 48 = .ok (.sipush (-500), 3) := by decide +kernel
theorem dX7_leastPulledUp_51 : decode cX7_leastPulledUp 51 = .ok (.invokestatic 268, 3) := by decide +kernel
theorem dX7_leastPulledUp_54 : decode cX7_leastPulledUp 54 = .ok (.ireturn, 1) := by decide +kernel
theorem dX7_greatestPulledBack_0 : decode cX7_greatestPulledBack 0 = .ok (.iload_n 0, 1) := by decide +kernel
theorem dX7_greatestPulledBack_1 : decode cX7_greatestPulledBack 1 = .ok (.ifCond .gt 23, 3) := by decide +kernel
theorem dX7_greatestPulledBack_4 : decode cX7_greatestPulledBack 4 = .ok (.iload_n 0, 1) := by decide +kernel
theorem dX7_greatestPulledBack_5 : decode cX7_greatestPulledBack 5 = .ok (.sipush 1500, 3) := by decide +kernel
theorem dX7_greatestPulledBack_8 : decode cX7_greatestPulledBack 8 = .ok (.invokestatic 201, 3) := by decide +kernel
theorem dX7_greatestPulledBack_11 : decode cX7_greatestPulledBack 11 = .ok (.iload_n 1, 1) := by decide +kernel
theorem dX7_greatestPulledBack_12 : decode cX7_greatestPulledBack 12 = .ok (.if_icmp .gt 9, 3) := by decide +kernel
theorem dX7_greatestPulledBack_15 : decode cX7_greatestPulledBack 15 = .ok (.sipush 1500, 3) := by decide +kernel
theorem dX7_greatestPulledBack_18 : decode cX7_greatestPulledBack 18 = .ok (.goto 5, 3) := by decide +kernel
theorem dX7_greatestPulledBack_21 : decode cX7_greatestPulledBack 21 = .ok (.ldc 164, 2) := by decide +kernel
theorem dX7_greatestPulledBack_23 : decode cX7_greatestPulledBack 23 = .ok (.ireturn, 1) := by decide +kernel
theorem dX7_greatestPulledBack_24 : decode cX7_greatestPulledBack 24 = .ok (.sipush 200, 3) := by decide +kernel
theorem dX7_greatestPulledBack_27 : decode cX7_greatestPulledBack 27 = .ok (.iload_n 1, 1) := by decide +kernel
theorem dX7_greatestPulledBack_28 : decode cX7_greatestPulledBack 28 = .ok (.iload_n 0, 1) := by decide +kernel
theorem dX7_greatestPulledBack_29 : decode cX7_greatestPulledBack 29 = .ok (.invokestatic 263, 3) := by decide +kernel
theorem dX7_greatestPulledBack_32 : decode cX7_greatestPulledBack 32 = .ok (.iadd, 1) := by decide +kernel
theorem dX7_greatestPulledBack_33 : decode cX7_greatestPulledBack 33 = .ok (.istore_n 2, 1) := by decide +kernel
theorem dX7_greatestPulledBack_34 : decode cX7_greatestPulledBack 34 = .ok (.iload_n 2, 1) := by decide +kernel
theorem dX7_greatestPulledBack_35 : decode cX7_greatestPulledBack 35 = .ok (.sipush (-500), 3) := by decide +kernel
theorem dX7_greatestPulledBack_38 : decode cX7_greatestPulledBack 38 = .ok (.if_icmp .ge 8, 3) := by decide +kernel
theorem dX7_greatestPulledBack_41 : decode cX7_greatestPulledBack 41 = .ok (.ldc 164, 2) := by decide +kernel
theorem dX7_greatestPulledBack_43 : decode cX7_greatestPulledBack 43 = .ok (.goto 10, 3) := by decide +kernel
theorem dX7_greatestPulledBack_46 : decode cX7_greatestPulledBack 46 = .ok (.iload_n 2, 1) := by decide +kernel
theorem dX7_greatestPulledBack_47 : decode cX7_greatestPulledBack 47 = .ok (.sipush 1500, 3) := by decide +kernel
theorem dX7_greatestPulledBack_50 : decode cX7_greatestPulledBack 50 = .ok (.invokestatic 271, 3) := by decide +kernel
theorem dX7_greatestPulledBack_53 : decode cX7_greatestPulledBack 53 = .ok (.ireturn, 1) := by decide +kernel
theorem dX8_init_0 : decode cX8_init 0 = .ok (.aload_n 0, 1) := by decide +kernel
theorem dX8_init_1 : decode cX8_init 1 = .ok (.invokespecial 1, 3) := by decide +kernel
theorem dX8_init_4 : decode cX8_init 4 = .ok (.aload_n 0, 1) := by decide +kernel
theorem dX8_init_5 : decode cX8_init 5 = .ok (.bipush 127, 2) := by decide +kernel
theorem dX8_init_7 : decode cX8_init 7 = .ok (.newarray .int, 2) := by decide +kernel
theorem dX8_init_9 : decode cX8_init 9 = .ok (.putfield 7, 3) := by decide +kernel
theorem dX8_init_12 : decode cX8_init 12 = .ok (.aload_n 0, 1) := by decide +kernel
theorem dX8_init_13 : decode cX8_init 13 = .ok (.bipush 127, 2) := by decide +kernel
theorem dX8_init_15 : decode cX8_init 15 = .ok (.newarray .int, 2) := by decide +kernel
theorem dX8_init_17 : decode cX8_init 17 = .ok (.putfield 13, 3) := by decide +kernel
theorem dX8_init_20 : decode cX8_init 20 = .ok (.aload_n 0, 1) := by decide +kernel
theorem dX8_init_21 : decode cX8_init 21 = .ok (.sipush 508, 3) := by decide +kernel
theorem dX8_init_24 : decode cX8_init 24 = .ok (.newarray .int, 2) := by decide +kernel
theorem dX8_init_26 : decode cX8_init 26 = .ok (.putfield 16, 3) := by decide +kernel
theorem dX8_init_29 : decode cX8_init 29 = .ok (.aload_n 0, 1) := by decide +kernel
theorem dX8_init_30 : decode cX8_init 30 = .ok (.bipush 60, 2) := by decide +kernel
theorem dX8_init_32 : decode cX8_init 32 = .ok (.newarray .int, 2) := by decide +kernel
theorem dX8_init_34 : decode cX8_init 34 = .ok (.putfield 19, 3) := by decide +kernel
theorem dX8_init_37 : decode cX8_init 37 = .ok (.aload_n 0, 1) := by decide +kernel
theorem dX8_init_38 : decode cX8_init 38 = .ok (.iconst 3, 1) := by decide +kernel
theorem dX8_init_39 : decode cX8_init 39 = .ok (.newarray .int, 2) := by decide +kernel
theorem dX8_init_41 : decode cX8_init 41 = .ok (.putfield 22, 3) := by decide +kernel
theorem dX8_init_44 : decode cX8_init 44 = .ok (.aload_n 0, 1) := by decide +kernel
theorem dX8_init_45 : decode cX8_init 45 = .ok (.sipush 1501, 3) := by decide +kernel
theorem dX8_init_48 : decode cX8_init 48 = .ok (.newarray .long, 2) := by decide +kernel
theorem dX8_init_50 : decode cX8_init 50 = .ok (.putfield 25, 3) := by decide +kernel
theorem dX8_init_53 : decode cX8_init 53 = .ok (.aload_n 0, 1) := by decide +kernel
theorem dX8_init_54 : decode cX8_init 54 = .ok (.sipush 1501, 3) := by decide +kernel
theorem dX8_init_57 : decode cX8_init 57 = .ok (.newarray .int, 2) := by decide +kernel
theorem dX8_init_59 : decode cX8_init 59 = .ok (.putfield 29, 3) := by decide +kernel
theorem dX8_init_62 : decode cX8_init 62 = .ok (.aload_n 0, 1) := by decide +kernel
theorem dX8_init_63 : decode cX8_init 63 = .ok (.bipush 61, 2) := by decide +kernel
theorem dX8_init_65 : decode cX8_init 65 = .ok (.newarray .boolean, 2) := by decide +kernel
theorem dX8_init_67 : decode cX8_init 67 = .ok (.putfield 32, 3) := by decide +kernel
theorem dX8_init_70 : decode cX8_init 70 = .ok (.aload_n 0, 1) := by decide +kernel
theorem dX8_init_71 : decode cX8_init 71 = .ok (.sipush 18377, 3) := by decide +kernel
theorem dX8_init_74 : decode cX8_init 74 = .ok (.newarray .boolean, 2) := by decide +kernel
theorem dX8_init_76 : decode cX8_init 76 = .ok (.putfield 36, 3) := by decide +kernel
theorem dX8_init_79 : decode cX8_init 79 = .ok (.aload_n 0, 1) := by decide +kernel
theorem dX8_init_80 : decode cX8_init 80 = .ok (.bipush 9, 2) := by decide +kernel
theorem dX8_init_82 : decode cX8_init 82 = .ok (.newarray .int, 2) := by decide +kernel
theorem dX8_init_84 : decode cX8_init 84 = .ok (.putfield 39, 3) := by decide +kernel
theorem dX8_init_87 : decode cX8_init 87 = .ok (.iconst 0, 1) := by decide +kernel
theorem dX8_init_88 : decode cX8_init 88 = .ok (.istore_n 1, 1) := by decide +kernel
theorem dX8_init_89 : decode cX8_init 89 = .ok (.iload_n 1, 1) := by decide +kernel
theorem dX8_init_90 : decode cX8_init 90 = .ok (.bipush 6, 2) := by decide +kernel
theorem dX8_init_92 : decode cX8_init 92 = .ok (.if_icmp .ge 20, 3) := by decide +kernel
theorem dX8_init_95 : decode cX8_init 95 = .ok (.aload_n 0, 1) := by decide +kernel
theorem dX8_init_96 : decode cX8_init 96 = .ok (.getfield 7, 3) := by decide +kernel
theorem dX8_init_99 : decode cX8_init 99 = .ok (.iconst 0, 1) := by decide +kernel
theorem dX8_init_100 : decode cX8_init 100 = .ok (.iload_n 1, 1) := by decide +kernel
theorem dX8_init_101 : decode cX8_init 101 = .ok (.iadd, 1) := by decide +kernel
theorem dX8_init_102 : decode cX8_init 102 = .ok (.iconst 5, 1) := by decide +kernel
theorem dX8_init_103 : decode cX8_init 103 = .ok (.iload_n 1, 1) := by decide +kernel
theorem dX8_init_104 : decode cX8_init 104 = .ok (.imul, 1) := by decide +kernel
theorem dX8_init_105 : decode cX8_init 105 = .ok (.iastore, 1) := by decide +kernel
theorem dX8_init_106 : decode cX8_init 106 = .ok (.iinc 1 1, 3) := by decide +kernel
theorem dX8_init_109 : decode cX8_init 109 = .ok (.goto (-20), 3) := by decide +kernel
theorem dX8_init_112 : decode cX8_init 112 = .ok (.aload_n 0, 1) := by decide +kernel
theorem dX8_init_113 : decode cX8_init 113 = .ok (.getfield 7, 3) := by decide +kernel
theorem dX8_init_116 : decode cX8_init 116 = .ok (.bipush 7, 2) := by decide +kernel
theorem dX8_init_118 : decode cX8_init 118 = .ok (.bipush 50, 2) := by decide +kernel
theorem dX8_init_120 : decode cX8_init 120 = .ok (.iastore, 1) := by decide +kernel
theorem dX8_init_121 : decode cX8_init 121 = .ok (.aload_n 0, 1) := by decide +kernel
theorem dX8_init_122 : decode cX8_init 122 = .ok (.getfield 7, 3) := by decide +kernel
theorem dX8_init_125 : decode cX8_init 125 = .ok (.bipush 8, 2) := by decide +kernel
theorem dX8_init_127 : decode cX8_init 127 = .ok (.bipush 100, 2) := by decide +kernel
theorem dX8_init_129 : decode cX8_init 129 = .ok (.iastore, 1) := by decide +kernel
theorem dX8_init_130 : decode cX8_init 130 = .ok (.iconst 0, 1) := by decide +kernel
theorem dX8_init_131 : decode cX8_init 131 = .ok (.istore_n 1, 1) := by decide +kernel
theorem dX8_init_132 : decode cX8_init 132 = .ok (.iload_n 1, 1) := by decide +kernel
theorem dX8_init_133 : decode cX8_init 133 = .ok (.iconst 3, 1) := by decide +kernel
theorem dX8_init_134 : decode cX8_init 134 = .ok (.if_icmp .ge 64, 3) := by decide +kernel
theorem dX8_init_137 : decode cX8_init 137 = .ok (.aload_n 0, 1) := by decide +kernel
theorem dX8_init_138 : decode cX8_init 138 = .ok (.getfield 7, 3) := by decide +kernel
theorem dX8_init_141 : decode cX8_init 141 = .ok (.iload_n 1, 1) := by decide +kernel
theorem dX8_init_142 : decode cX8_init 142 = .ok (.invokestatic 42, 3) := by decide +kernel
theorem dX8_init_145 : decode cX8_init 145 = .ok (.iconst 1, 1) := by decide +kernel
theorem dX8_init_146 : decode cX8_init 146 = .ok (.iadd, 1) := by decide +kernel
theorem dX8_init_147 : decode cX8_init 147 = .ok (.sipush 1000, 3) := by decide +kernel
theorem dX8_init_150 : decode cX8_init 150 = .ok (.iastore, 1) := by decide +kernel
theorem dX8_init_151 : decode cX8_init 151 = .ok (.aload_n 0, 1) := by decide +kernel
theorem dX8_init_152 : decode cX8_init 152 = .ok (.getfield 7, 3) := by decide +kernel
theorem dX8_init_155 : decode cX8_init 155 = .ok (.iload_n 1, 1) := by decide +kernel
theorem dX8_init_156 : decode cX8_init 156 = .ok (.invokestatic 42, 3) := by decide +kernel
theorem dX8_init_159 : decode cX8_init 159 = .ok (.iconst 2, 1) := by decide +kernel
theorem dX8_init_160 : decode cX8_init 160 = .ok (.iadd, 1) := by decide +kernel
theorem dX8_init_161 : decode cX8_init 161 = .ok (.sipush 3000, 3) := by decide +kernel
theorem dX8_init_164 : decode cX8_init 164 = .ok (.iastore, 1) := by decide +kernel
theorem dX8_init_165 : decode cX8_init 165 = .ok (.aload_n 0, 1) := by decide +kernel
theorem dX8_init_166 : decode cX8_init 166 = .ok (.getfield 7, 3) := by decide +kernel
theorem dX8_init_169 : decode cX8_init 169 = .ok (.iload_n 1, 1) := by decide +kernel
theorem dX8_init_170 : decode cX8_init 170 = .ok (.invokestatic 46, 3) := by decide +kernel
theorem dX8_init_173 : decode cX8_init 173 = .ok (.iconst 0, 1) := by decide +kernel
theorem dX8_init_174 : decode cX8_init 174 = .ok (.iadd, 1) := by decide +kernel
theorem dX8_init_175 : decode cX8_init 175 = .ok (.sipush 200, 3) := by decide +kernel
theorem dX8_init_178 : decode cX8_init 178 = .ok (.iastore, 1) := by decide +kernel
theorem dX8_init_179 : decode cX8_init 179 = .ok (.aload_n 0, 1) := by decide +kernel
theorem dX8_init_180 : decode cX8_init 180 = .ok (.getfield 7, 3) := by decide +kernel
theorem dX8_init_183 : decode cX8_init 183 = .ok (.iload_n 1, 1) := by decide +kernel
theorem dX8_init_184 : decode cX8_init 184 = .ok (.invokestatic 46, 3) := by decide +kernel
theorem dX8_init_187 : decode cX8_init 187 = .ok (.iconst 2, 1) := by decide +kernel
theorem dX8_init_188 : decode cX8_init 188 = .ok (.iadd, 1) := by decide +kernel
theorem dX8_init_189 : decode cX8_init 189 = .ok (.bipush 20, 2) := by decide +kernel
theorem dX8_init_191 : decode cX8_init 191 = .ok (.iastore, 1) := by decide +kernel
theorem dX8_init_192 : decode cX8_init 192 = .ok (.iinc 1 1, 3) := by decide +kernel
theorem dX8_init_195 : decode cX8_init 195 = .ok (.goto (-63), 3) := by decide +kernel
theorem dX8_init_198 : decode cX8_init 198 = .ok (.return_, 1) := by decide +kernel
theorem dX8_in_0 : decode cX8_in 0 = .ok (.iload_n 0, 1) := by decide +kernel
theorem dX8_in_1 : decode cX8_in 1 = .ok (.iload_n 1, 1) := by decide +kernel
theorem dX8_in_2 : decode cX8_in 2 = .ok (.if_icmp .lt 12, 3) := by decide +kernel
theorem dX8_in_5 : decode cX8_in 5 = .ok (.iload_n 0, 1) := by decide +kernel
theorem dX8_in_6 : decode cX8_in 6 = .ok (.iload_n 2, 1) := by decide +kernel
theorem dX8_in_7 : decode cX8_in 7 = .ok (.if_icmp .gt 7, 3) := by decide +kernel
theorem dX8_in_10 : decode cX8_in 10 = .ok (.iconst 1, 1) := by decide +kernel
theorem dX8_in_11 : decode cX8_in 11 = .ok (.goto 4, 3) := by decide +kernel
theorem dX8_in_14 : decode cX8_in 14 = .ok (.iconst 0, 1) := by decide +kernel
theorem dX8_in_15 : decode cX8_in 15 = .ok (.ireturn, 1) := by decide +kernel
theorem dX8_isOne_0 : decode cX8_isOne 0 = .ok (.iload_n 0, 1) := by decide +kernel
theorem dX8_isOne_1 : decode cX8_isOne 1 = .ok (.iconst 0, 1) := by decide +kernel
theorem dX8_isOne_2 : decode cX8_isOne 2 = .ok (.iconst 2, 1) := by decide +kernel
theorem dX8_isOne_3 : decode cX8_isOne 3 = .ok (.invokestatic 49, 3) := by decide +kernel
theorem dX8_isOne_6 : decode cX8_isOne 6 = .ok (.ireturn, 1) := by decide +kernel
theorem dX8_stripAt_0 : decode cX8_stripAt 0 = .ok (.bipush 10, 2) := by decide +kernel
theorem dX8_stripAt_2 : decode cX8_stripAt 2 = .ok (.bipush 32, 2) := by decide +kernel
theorem dX8_stripAt_4 : decode cX8_stripAt 4 = .ok (.iload_n 0, 1) := by decide +kernel
theorem dX8_stripAt_5 : decode cX8_stripAt 5 = .ok (.imul, 1) := by decide +kernel
theorem dX8_stripAt_6 : decode cX8_stripAt 6 = .ok (.iadd, 1) := by decide +kernel
theorem dX8_stripAt_7 : decode cX8_stripAt 7 = .ok (.ireturn, 1) := by decide +kernel
theorem dX8_roomAt_0 : decode cX8_roomAt 0 = .ok (.bipush 106, 2) := by decide +kernel
theorem dX8_roomAt_2 : decode cX8_roomAt 2 = .ok (.bipush 7, 2) := by decide +kernel
theorem dX8_roomAt_4 : decode cX8_roomAt 4 = .ok (.iload_n 0, 1) := by decide +kernel
theorem dX8_roomAt_5 : decode cX8_roomAt 5 = .ok (.imul, 1) := by decide +kernel
theorem dX8_roomAt_6 : decode cX8_roomAt 6 = .ok (.iadd, 1) := by decide +kernel
theorem dX8_roomAt_7 : decode cX8_roomAt 7 = .ok (.ireturn, 1) := by decide +kernel
theorem dX8_begins_0 : decode cX8_begins 0 = .ok (.iconst 0, 1) := by decide +kernel
theorem dX8_begins_1 : decode cX8_begins 1 = .ok (.istore_n 1, 1) := by decide +kernel
theorem dX8_begins_2 : decode cX8_begins 2 = .ok (.iload_n 1, 1) := by decide +kernel
theorem dX8_begins_3 : decode cX8_begins 3 = .ok (.bipush 127, 2) := by decide +kernel
theorem dX8_begins_5 : decode cX8_begins 5 = .ok (.if_icmp .ge 21, 3) := by decide +kernel
theorem dX8_begins_8 : decode cX8_begins 8 = .ok (.aload_n 0, 1) := by decide +kernel
theorem dX8_begins_9 : decode cX8_begins 9 = .ok (.getfield 13, 3) := by decide +kernel
theorem dX8_begins_12 : decode cX8_begins 12 = .ok (.iload_n 1, 1) := by decide +kernel
theorem dX8_begins_13 : decode cX8_begins 13 = .ok (.aload_n 0, 1) := by decide +kernel
theorem dX8_begins_14 : decode cX8_begins 14 = .ok (.getfield 7, 3) := by decide +kernel
theorem dX8_begins_17 : decode cX8_begins 17 = .ok (.iload_n 1, 1) := by decide +kernel
theorem dX8_begins_18 : decode cX8_begins 18 = .ok (.iaload, 1) := by decide +kernel
theorem dX8_begins_19 : decode cX8_begins 19 = .ok (.iastore, 1) := by decide +kernel
theorem dX8_begins_20 : decode cX8_begins 20 = .ok (.iinc 1 1, 3) := by decide +kernel
theorem dX8_begins_23 : decode cX8_begins 23 = .ok (.goto (-21), 3) := by decide +kernel
theorem dX8_begins_26 : decode cX8_begins 26 = .ok (.return_, 1) := by decide +kernel
theorem dX8_returns_0 : decode cX8_returns 0 = .ok (.iconst 0, 1) := by decide +kernel
theorem dX8_returns_1 : decode cX8_returns 1 = .ok (.istore_n 1, 1) := by decide +kernel
theorem dX8_returns_2 : decode cX8_returns 2 = .ok (.iload_n 1, 1) := by decide +kernel
theorem dX8_returns_3 : decode cX8_returns 3 = .ok (.bipush 127, 2) := by decide +kernel
theorem dX8_returns_5 : decode cX8_returns 5 = .ok (.if_icmp .ge 21, 3) := by decide +kernel
theorem dX8_returns_8 : decode cX8_returns 8 = .ok (.aload_n 0, 1) := by decide +kernel
theorem dX8_returns_9 : decode cX8_returns 9 = .ok (.getfield 7, 3) := by decide +kernel
theorem dX8_returns_12 : decode cX8_returns 12 = .ok (.iload_n 1, 1) := by decide +kernel
theorem dX8_returns_13 : decode cX8_returns 13 = .ok (.aload_n 0, 1) := by decide +kernel
theorem dX8_returns_14 : decode cX8_returns 14 = .ok (.getfield 13, 3) := by decide +kernel
theorem dX8_returns_17 : decode cX8_returns 17 = .ok (.iload_n 1, 1) := by decide +kernel
theorem dX8_returns_18 : decode cX8_returns 18 = .ok (.iaload, 1) := by decide +kernel
theorem dX8_returns_19 : decode cX8_returns 19 = .ok (.iastore, 1) := by decide +kernel
theorem dX8_returns_20 : decode cX8_returns 20 = .ok (.iinc 1 1, 3) := by decide +kernel
theorem dX8_returns_23 : decode cX8_returns 23 = .ok (.goto (-21), 3) := by decide +kernel
theorem dX8_returns_26 : decode cX8_returns 26 = .ok (.return_, 1) := by decide +kernel
theorem dX8_acted_0 : decode cX8_acted 0 = .ok (.iload_n 1, 1) := by decide +kernel
theorem dX8_acted_1 : decode cX8_acted 1 = .ok (.ldc 53, 2) := by decide +kernel
theorem dX8_acted_3 : decode cX8_acted 3 = .ok (.if_icmp .gt 9, 3) := by decide +kernel
theorem dX8_acted_6 : decode cX8_acted 6 = .ok (.aload_n 0, 1) := by decide +kernel
theorem dX8_acted_7 : decode cX8_acted 7 = .ok (.invokevirtual 54, 3) := by decide +kernel
theorem dX8_acted_10 : decode cX8_acted 10 = .ok (.iload_n 1, 1) := by decide +kernel
theorem dX8_acted_11 : decode cX8_acted 11 = .ok (.ireturn, 1) := by decide +kernel
theorem dX8_acted_12 : decode cX8_acted 12 = .ok (.aload_n 0, 1) := by decide +kernel
theorem dX8_acted_13 : decode cX8_acted 13 = .ok (.getfield 57, 3) := by decide +kernel
theorem dX8_acted_16 : decode cX8_acted 16 = .ok (.iconst 4, 1) := by decide +kernel
theorem dX8_acted_17 : decode cX8_acted 17 = .ok (.if_icmp .ne 43, 3) := by decide +kernel
theorem dX8_acted_20 : decode cX8_acted 20 = .ok (.iconst 0, 1) := by decide +kernel
theorem dX8_acted_21 : decode cX8_acted 21 = .ok (.istore_n 2, 1) := by decide +kernel
theorem dX8_acted_22 : decode cX8_acted 22 = .ok (.iload_n 2, 1) := by decide +kernel
theorem dX8_acted_23 : decode cX8_acted 23 = .ok (.sipush 381, 3) := by decide +kernel
theorem dX8_acted_26 : decode cX8_acted 26 = .ok (.if_icmp .ge 24, 3) := by decide +kernel
theorem dX8_acted_29 : decode cX8_acted 29 = .ok (.aload_n 0, 1) := by decide +kernel
theorem dX8_acted_30 : decode cX8_acted 30 = .ok (.getfield 16, 3) := by decide +kernel
theorem dX8_acted_33 : decode cX8_acted 33 = .ok (.iload_n 2, 1) := by decide +kernel
theorem dX8_acted_34 : decode cX8_acted 34 = .ok (.aload_n 0, 1) := by decide +kernel
theorem dX8_acted_35 : decode cX8_acted 35 = .ok (.getfield 16, 3) := by decide +kernel
theorem dX8_acted_38 : decode cX8_acted 38 = .ok (.iload_n 2, 1) := by decide +kernel
theorem dX8_acted_39 : decode cX8_acted 39 = .ok (.bipush 127, 2) := by decide +kernel
theorem dX8_acted_41 : decode cX8_acted 41 = .ok (.iadd, 1) := by decide +kernel
theorem dX8_acted_42 : decode cX8_acted 42 = .ok (.iaload, 1) := by decide +kernel
theorem dX8_acted_43 : decode cX8_acted 43 = .ok (.iastore, 1) := by decide +kernel
theorem dX8_acted_44 : decode cX8_acted 44 = .ok (.iinc 2 1, 3) := by decide +kernel
theorem dX8_acted_47 : decode cX8_acted 47 = .ok (.goto (-25), 3) := by decide +kernel
theorem dX8_acted_50 : decode cX8_acted 50 = .ok (.aload_n 0, 1) := by decide +kernel
theorem dX8_acted_51 : decode cX8_acted 51 = .ok (.dup, 1) := by decide +kernel
theorem dX8_acted_52 : decode cX8_acted 52 = .ok (.getfield 57, 3) := by decide +kernel
theorem dX8_acted_55 : decode cX8_acted 55 = .ok (.iconst 1, 1) := by decide +kernel
theorem dX8_acted_56 : decode cX8_acted 56 = .ok (.isub, 1) := by decide +kernel
theorem dX8_acted_57 : decode cX8_acted 57 = .ok (.putfield 57, 3) := by decide +kernel
theorem dX8_acted_60 : decode cX8_acted 60 = .ok (.iconst 0, 1) := by decide +kernel
theorem dX8_acted_61 : decode cX8_acted 61 = .ok (.istore_n 2, 1) := by decide +kernel
theorem dX8_acted_62 : decode cX8_acted 62 = .ok (.iload_n 2, 1) := by decide +kernel
theorem dX8_acted_63 : decode cX8_acted 63 = .ok (.bipush 127, 2) := by decide +kernel
theorem dX8_acted_65 : decode cX8_acted 65 = .ok (.if_icmp .ge 29, 3) := by decide +kernel
theorem dX8_acted_68 : decode cX8_acted 68 = .ok (.aload_n 0, 1) := by decide +kernel
theorem dX8_acted_69 : decode cX8_acted 69 = .ok (.getfield 16, 3) := by decide +kernel
theorem dX8_acted_72 : decode cX8_acted 72 = .ok (.bipush 127, 2) := by decide +kernel
theorem dX8_acted_74 : decode cX8_acted 74 = .ok (.aload_n 0, 1) := by decide +kernel
theorem dX8_acted_75 : decode cX8_acted 75 = .ok (.getfield 57, 3) := by decide +kernel
theorem dX8_acted_78 : decode cX8_acted 78 = .ok (.imul, 1) := by decide +kernel
theorem dX8_acted_79 : decode cX8_acted 79 = .ok (.iload_n 2, 1) := by decide +kernel
theorem dX8_acted_80 : decode cX8_acted 80 = .ok (.iadd, 1) := by decide +kernel
theorem dX8_acted_81 : decode cX8_acted 81 = .ok (.aload_n 0, 1) := by decide +kernel
theorem dX8_acted_82 : decode cX8_acted 82 = .ok (.getfield 13, 3) := by decide +kernel
theorem dX8_acted_85 : decode cX8_acted 85 = .ok (.iload_n 2, 1) := by decide +kernel
theorem dX8_acted_86 : decode cX8_acted 86 = .ok (.iaload, 1) := by decide +kernel
theorem dX8_acted_87 : decode cX8_acted 87 = .ok (.iastore, 1) := by decide +kernel
theorem dX8_acted_88 : decode cX8_acted 88 = .ok (.iinc 2 1, 3) := by decide +kernel
theorem dX8_acted_91 : decode cX8_acted 91 = .ok (.goto (-29), 3) := by decide +kernel
theorem dX8_acted_94 : decode cX8_acted 94 = .ok (.aload_n 0, 1) := by decide +kernel
theorem dX8_acted_95 : decode cX8_acted 95 = .ok (.dup, 1) := by decide +kernel
theorem dX8_acted_96 : decode cX8_acted 96 = .ok (.getfield 57, 3) := by decide +kernel
theorem dX8_acted_99 : decode cX8_acted 99 = .ok (.iconst 1, 1) := by decide +kernel
theorem dX8_acted_100 : decode cX8_acted 100 = .ok (.iadd, 1) := by decide +kernel
theorem dX8_acted_101 : decode cX8_acted 101 = .ok (.putfield 57, 3) := by decide +kernel
theorem dX8_acted_104 : decode cX8_acted 104 = .ok (.iload_n 1, 1) := by decide +kernel
theorem dX8_acted_105 : decode cX8_acted 105 = .ok (.ireturn, 1) := by decide +kernel
theorem dX8_puts_0 : decode cX8_puts 0 = .ok (.aload_n 0, 1) := by decide +kernel
theorem dX8_puts_1 : decode cX8_puts 1 = .ok (.getfield 7, 3) := by decide +kernel
theorem dX8_puts_4 : decode cX8_puts 4 = .ok (.iload_n 1, 1) := by decide +kernel
theorem dX8_puts_5 : decode cX8_puts 5 = .ok (.iaload, 1) := by decide +kernel
theorem dX8_puts_6 : decode cX8_puts 6 = .ok (.istore_n 3, 1) := by decide +kernel
theorem dX8_puts_7 : decode cX8_puts 7 = .ok (.aload_n 0, 1) := by decide +kernel
theorem dX8_puts_8 : decode cX8_puts 8 = .ok (.getfield 7, 3) := by decide +kernel
theorem dX8_puts_11 : decode cX8_puts 11 = .ok (.iload_n 1, 1) := by decide +kernel
theorem dX8_puts_12 : decode cX8_puts 12 = .ok (.iload_n 2, 1) := by decide +kernel
theorem dX8_puts_13 : decode cX8_puts 13 = .ok (.iastore, 1) := by decide +kernel
theorem dX8_puts_14 : decode cX8_puts 14 = .ok (.iload_n 3, 1) := by decide +kernel
theorem dX8_puts_15 : decode cX8_puts 15 = .ok (.ireturn, 1) := by decide +kernel
theorem dX8_many_0 : decode cX8_many 0 = .ok (.aload_n 0, 1) := by decide +kernel
theorem dX8_many_1 : decode cX8_many 1 = .ok (.getfield 7, 3) := by decide +kernel
theorem dX8_many_4 : decode cX8_many 4 = .ok (.iload_n 1, 1) := by decide +kernel
theorem dX8_many_5 : decode cX8_many 5 = .ok (.invokestatic 42, 3) := by decide +kernel
theorem dX8_many_8 : decode cX8_many 8 = .ok (.iconst 0, 1) := by decide +kernel
theorem dX8_many_9 : decode cX8_many 9 = .ok (.iadd, 1) := by decide +kernel
theorem dX8_many_10 : decode cX8_many 10 = .ok (.iaload, 1) := by decide +kernel
theorem dX8_many_11 : decode cX8_many 11 = .ok (.ireturn, 1) := by decide +kernel
theorem dX8_partOfStrip_0 : decode cX8_partOfStrip 0 = .ok (.aload_n 0, 1) := by decide +kernel
theorem dX8_partOfStrip_1 : decode cX8_partOfStrip 1 = .ok (.getfield 7, 3) := by decide +kernel
theorem dX8_partOfStrip_4 : decode cX8_partOfStrip 4 = .ok (.iload_n 1, 1) := by decide +kernel
theorem dX8_partOfStrip_5 : decode cX8_partOfStrip 5 = .ok (.invokestatic 42, 3) := by decide +kernel
theorem dX8_partOfStrip_8 : decode cX8_partOfStrip 8 = .ok (.bipush 8, 2) := by decide +kernel
theorem dX8_partOfStrip_10 : decode cX8_partOfStrip 10 = .ok (.iadd, 1) := by decide +kernel
theorem dX8_partOfStrip_11 : decode cX8_partOfStrip 11 = .ok (.iconst 3, 1) := by decide +kernel
theorem dX8_partOfStrip_12 : decode cX8_partOfStrip 12 = .ok (.iload_n 2, 1) := by decide +kernel
theorem dX8_partOfStrip_13 : decode cX8_partOfStrip 13 = .ok (.imul, 1) := by decide +kernel
theorem dX8_partOfStrip_14 : decode cX8_partOfStrip 14 = .ok (.iadd, 1) := by decide +kernel
theorem dX8_partOfStrip_15 : decode cX8_partOfStrip 15 = .ok (.iload_n 3, 1) := by decide +kernel
theorem dX8_partOfStrip_16 : decode cX8_partOfStrip 16 = .ok (.iadd, 1) := by decide +kernel
theorem dX8_partOfStrip_17 : decode cX8_partOfStrip 17 = .ok (.iaload, 1) := by decide +kernel
theorem dX8_partOfStrip_18 : decode cX8_partOfStrip 18 = .ok (.ireturn, 1) := by decide +kernel
theorem dX8_bendOfPart_0 : decode cX8_bendOfPart 0 = .ok (.aload_n 0, 1) := by decide +kernel
theorem dX8_bendOfPart_1 : decode cX8_bendOfPart 1 = .ok (.iload_n 1, 1) := by decide +kernel
theorem dX8_bendOfPart_2 : decode cX8_bendOfPart 2 = .ok (.iload_n 2, 1) := by decide +kernel
theorem dX8_bendOfPart_3 : decode cX8_bendOfPart 3 = .ok (.iconst 0, 1) := by decide +kernel
theorem dX8_bendOfPart_4 : decode cX8_bendOfPart 4 = .ok (.invokevirtual 61, 3) := by decide +kernel
theorem dX8_bendOfPart_7 : decode cX8_bendOfPart 7 = .ok (.aload_n 0, 1) := by decide +kernel
theorem dX8_bendOfPart_8 : decode cX8_bendOfPart 8 = .ok (.getfield 7, 3) := by decide +kernel
theorem dX8_bendOfPart_11 : decode cX8_bendOfPart 11 = .ok (.iconst 0, 1) := by decide +kernel
theorem dX8_bendOfPart_12 : decode cX8_bendOfPart 12 = .ok (.aload_n 0, 1) := by decide +kernel
theorem dX8_bendOfPart_13 : decode cX8_bendOfPart 13 = .ok (.iload_n 1, 1) := by decide +kernel
theorem dX8_bendOfPart_14 : decode cX8_bendOfPart 14 = .ok (.iload_n 2, 1) := by decide +kernel
theorem dX8_bendOfPart_15 : decode cX8_bendOfPart 15 = .ok (.iconst 1, 1) := by decide +kernel
theorem dX8_bendOfPart_16 : decode cX8_bendOfPart 16 = .ok (.invokevirtual 61, 3) := by decide +kernel
theorem dX8_bendOfPart_19 : decode cX8_bendOfPart 19 = .ok (.iadd, 1) := by decide +kernel
theorem dX8_bendOfPart_20 : decode cX8_bendOfPart 20 = .ok (.iaload, 1) := by decide +kernel
theorem dX8_bendOfPart_21 : decode cX8_bendOfPart 21 = .ok (.aload_n 0, 1) := by decide +kernel
theorem dX8_bendOfPart_22 : decode cX8_bendOfPart 22 = .ok (.getfield 7, 3) := by decide +kernel
theorem dX8_bendOfPart_25 : decode cX8_bendOfPart 25 = .ok (.iconst 0, 1) := by decide +kernel
theorem dX8_bendOfPart_26 : decode cX8_bendOfPart 26 = .ok (.aload_n 0, 1) := by decide +kernel
theorem dX8_bendOfPart_27 : decode cX8_bendOfPart 27 = .ok (.iload_n 1, 1) := by decide +kernel
theorem dX8_bendOfPart_28 : decode cX8_bendOfPart 28 = .ok (.iload_n 2, 1) := by decide +kernel
theorem dX8_bendOfPart_29 : decode cX8_bendOfPart 29 = .ok (.iconst 2, 1) := by decide +kernel
theorem dX8_bendOfPart_30 : decode cX8_bendOfPart 30 = .ok (.invokevirtual 61, 3) := by decide +kernel
theorem dX8_bendOfPart_33 : decode cX8_bendOfPart 33 = .ok (.iadd, 1) := by decide +kernel
theorem dX8_bendOfPart_34 : decode cX8_bendOfPart 34 = .ok (.iaload, 1) := by decide +kernel
theorem dX8_bendOfPart_35 : decode cX8_bendOfPart 35 = .ok (.isub, 1) := by decide +kernel
theorem dX8_bendOfPart_36 : decode cX8_bendOfPart 36 = .ok (.imul, 1) := by decide +kernel
theorem dX8_bendOfPart_37 : decode cX8_bendOfPart 37 = .ok (.ireturn, 1) := by decide +kernel
theorem dX8_bendOfStrip_0 : decode cX8_bendOfStrip 0 = .ok (.iconst 0, 1) := by decide +kernel
theorem dX8_bendOfStrip_1 : decode cX8_bendOfStrip 1 = .ok (.istore_n 2, 1) := by decide +kernel
theorem dX8_bendOfStrip_2 : decode cX8_bendOfStrip 2 = .ok (.iconst 0, 1) := by decide +kernel
theorem dX8_bendOfStrip_3 : decode cX8_bendOfStrip 3 = .ok (.istore_n 3, 1) := by decide +kernel
theorem dX8_bendOfStrip_4 : decode cX8_bendOfStrip 4 = .ok (.iload_n 3, 1) := by decide +kernel
theorem dX8_bendOfStrip_5 : decode cX8_bendOfStrip 5 = .ok (.aload_n 0, 1) := by decide +kernel
theorem dX8_bendOfStrip_6 : decode cX8_bendOfStrip 6 = .ok (.iload_n 1, 1) := by decide +kernel
theorem dX8_bendOfStrip_7 : decode cX8_bendOfStrip 7 = .ok (.invokevirtual 65, 3) := by decide +kernel
theorem dX8_bendOfStrip_10 : decode cX8_bendOfStrip 10 = .ok (.if_icmp .ge 18, 3) := by decide +kernel
theorem dX8_bendOfStrip_13 : decode cX8_bendOfStrip 13 = .ok (.iload_n 2, 1) := by decide +kernel
theorem dX8_bendOfStrip_14 : decode cX8_bendOfStrip 14 = .ok (.aload_n 0, 1) := by decide +kernel
theorem dX8_bendOfStrip_15 : decode cX8_bendOfStrip 15 = .ok (.iload_n 1, 1) := by decide +kernel
theorem dX8_bendOfStrip_16 : decode cX8_bendOfStrip 16 = .ok (.iload_n 3, 1) := by decide +kernel
theorem dX8_bendOfStrip_17 : decode cX8_bendOfStrip 17 = .ok (.invokevirtual 68, 3) := by decide +kernel
theorem dX8_bendOfStrip_20 : decode cX8_bendOfStrip 20 = .ok (.iadd, 1) := by decide +kernel
theorem dX8_bendOfStrip_21 : decode cX8_bendOfStrip 21 = .ok (.istore_n 2, 1) := by decide +kernel
theorem dX8_bendOfStrip_22 : decode cX8_bendOfStrip 22 = .ok (.iinc 3 1, 3) := by decide +kernel
theorem dX8_bendOfStrip_25 : decode cX8_bendOfStrip 25 = .ok (.goto (-21), 3) := by decide +kernel
theorem dX8_bendOfStrip_28 : decode cX8_bendOfStrip 28 = .ok (.iload_n 2, 1) := by decide +kernel
theorem dX8_bendOfStrip_29 : decode cX8_bendOfStrip 29 = .ok (.ireturn, 1) := by decide +kernel
theorem dX8_lengthOfStrip_0 : decode cX8_lengthOfStrip 0 = .ok (.iconst 0, 1) := by decide +kernel
theorem dX8_lengthOfStrip_1 : decode cX8_lengthOfStrip 1 = .ok (.istore_n 2, 1) := by decide +kernel
theorem dX8_lengthOfStrip_2 : decode cX8_lengthOfStrip 2 = .ok (.iconst 0, 1) := by decide +kernel
theorem dX8_lengthOfStrip_3 : decode cX8_lengthOfStrip 3 = .ok (.istore_n 3, 1) := by decide +kernel
theorem dX8_lengthOfStrip_4 : decode cX8_lengthOfStrip 4 = .ok (.iload_n 3, 1) := by decide +kernel
theorem dX8_lengthOfStrip_5 : decode cX8_lengthOfStrip 5 = .ok (.aload_n 0, 1) := by decide +kernel
theorem dX8_lengthOfStrip_6 : decode cX8_lengthOfStrip 6 = .ok (.iload_n 1, 1) := by decide +kernel
theorem dX8_lengthOfStrip_7 : decode cX8_lengthOfStrip 7 = .ok (.invokevirtual 65, 3) := by decide +kernel
theorem dX8_lengthOfStrip_10 : decode cX8_lengthOfStrip 10 = .ok (.if_icmp .ge 19, 3) := by decide +kernel
theorem dX8_lengthOfStrip_13 : decode cX8_lengthOfStrip 13 = .ok (.iload_n 2, 1) := by decide +kernel
theorem dX8_lengthOfStrip_14 : decode cX8_lengthOfStrip 14 = .ok (.aload_n 0, 1) := by decide +kernel
theorem dX8_lengthOfStrip_15 : decode cX8_lengthOfStrip 15 = .ok (.iload_n 1, 1) := by decide +kernel
theorem dX8_lengthOfStrip_16 : decode cX8_lengthOfStrip 16 = .ok (.iload_n 3, 1) := by decide +kernel
theorem dX8_lengthOfStrip_17 : decode cX8_lengthOfStrip 17 = .ok (.iconst 0, 1) := by decide +kernel
theorem dX8_lengthOfStrip_18 : decode cX8_lengthOfStrip 18 = .ok (.invokevirtual 61, 3) := by decide +kernel
theorem dX8_lengthOfStrip_21 : decode cX8_lengthOfStrip 21 = .ok (.iadd, 1) := by decide +kernel
theorem dX8_lengthOfStrip_22 : decode cX8_lengthOfStrip 22 = .ok (.istore_n 2, 1) := by decide +kernel
theorem dX8_lengthOfStrip_23 : decode cX8_lengthOfStrip 23 = .ok (.iinc 3 1, 3) := by decide +kernel
theorem dX8_lengthOfStrip_26 : decode cX8_lengthOfStrip 26 = .ok (.goto (-22), 3) := by decide +kernel
theorem dX8_lengthOfStrip_29 : decode cX8_lengthOfStrip 29 = .ok (.iload_n 2, 1) := by decide +kernel
theorem dX8_lengthOfStrip_30 : decode cX8_lengthOfStrip 30 = .ok (.ireturn, 1) := by decide +kernel
theorem dX8_bendAt_0 : decode cX8_bendAt 0 = .ok (.aload_n 0, 1) := by decide +kernel
theorem dX8_bendAt_1 : decode cX8_bendAt 1 = .ok (.iload_n 1, 1) := by decide +kernel
theorem dX8_bendAt_2 : decode cX8_bendAt 2 = .ok (.invokevirtual 72, 3) := by decide +kernel
theorem dX8_bendAt_5 : decode cX8_bendAt 5 = .ok (.iload_n 2, 1) := by decide +kernel
theorem dX8_bendAt_6 : decode cX8_bendAt 6 = .ok (.sipush 200, 3) := by decide +kernel
theorem dX8_bendAt_9 : decode cX8_bendAt 9 = .ok (.isub, 1) := by decide +kernel
theorem dX8_bendAt_10 : decode cX8_bendAt 10 = .ok (.imul, 1) := by decide +kernel
theorem dX8_bendAt_11 : decode cX8_bendAt 11 = .ok (.ireturn, 1) := by decide +kernel
theorem dX8_isSnapped_0 : decode cX8_isSnapped 0 = .ok (.aload_n 0, 1) := by decide +kernel
theorem dX8_isSnapped_1 : decode cX8_isSnapped 1 = .ok (.getfield 7, 3) := by decide +kernel
theorem dX8_isSnapped_4 : decode cX8_isSnapped 4 = .ok (.iload_n 1, 1) := by decide +kernel
theorem dX8_isSnapped_5 : decode cX8_isSnapped 5 = .ok (.invokestatic 42, 3) := by decide +kernel
theorem dX8_isSnapped_8 : decode cX8_isSnapped 8 = .ok (.iconst 4, 1) := by decide +kernel
theorem dX8_isSnapped_9 : decode cX8_isSnapped 9 = .ok (.iadd, 1) := by decide +kernel
theorem dX8_isSnapped_10 : decode cX8_isSnapped 10 = .ok (.iaload, 1) := by decide +kernel
theorem dX8_isSnapped_11 : decode cX8_isSnapped 11 = .ok (.iconst 1, 1) := by decide +kernel
theorem dX8_isSnapped_12 : decode cX8_isSnapped 12 = .ok (.if_icmp .ne 7, 3) := by decide +kernel
theorem dX8_isSnapped_15 : decode cX8_isSnapped 15 = .ok (.iconst 1, 1) := by decide +kernel
theorem dX8_isSnapped_16 : decode cX8_isSnapped 16 = .ok (.goto 4, 3) := by decide +kernel
theorem dX8_isSnapped_19 : decode cX8_isSnapped 19 = .ok (.iconst 0, 1) := by decide +kernel
theorem dX8_isSnapped_20 : decode cX8_isSnapped 20 = .ok (.ireturn, 1) := by decide +kernel
theorem dX8_isClosed_0 : decode cX8_isClosed 0 = .ok (.aload_n 0, 1) := by decide +kernel
theorem dX8_isClosed_1 : decode cX8_isClosed 1 = .ok (.iload_n 1, 1) := by decide +kernel
theorem dX8_isClosed_2 : decode cX8_isClosed 2 = .ok (.invokevirtual 75, 3) := by decide +kernel
theorem dX8_isClosed_5 : decode cX8_isClosed 5 = .ok (.aload_n 0, 1) := by decide +kernel
theorem dX8_isClosed_6 : decode cX8_isClosed 6 = .ok (.getfield 7, 3) := by decide +kernel
theorem dX8_isClosed_9 : decode cX8_isClosed 9 = .ok (.iload_n 1, 1) := by decide +kernel
theorem dX8_isClosed_10 : decode cX8_isClosed 10 = .ok (.invokestatic 42, 3) := by decide +kernel
theorem dX8_isClosed_13 : decode cX8_isClosed 13 = .ok (.bipush 7, 2) := by decide +kernel
theorem dX8_isClosed_15 : decode cX8_isClosed 15 = .ok (.iadd, 1) := by decide +kernel
theorem dX8_isClosed_16 : decode cX8_isClosed 16 = .ok (.iaload, 1) := by decide +kernel
theorem dX8_isClosed_17 : decode cX8_isClosed 17 = .ok (.iconst 1, 1) := by decide +kernel
theorem dX8_isClosed_18 : decode cX8_isClosed 18 = .ok (.if_icmp .ne 7, 3) := by decide +kernel
theorem dX8_isClosed_21 : decode cX8_isClosed 21 = .ok (.iconst 1, 1) := by decide +kernel
theorem dX8_isClosed_22 : decode cX8_isClosed 22 = .ok (.goto 4, 3) := by decide +kernel
theorem dX8_isClosed_25 : decode cX8_isClosed 25 = .ok (.iconst 0, 1) := by decide +kernel
theorem dX8_isClosed_26 : decode cX8_isClosed 26 = .ok (.if_icmp .ne 7, 3) := by decide +kernel
theorem dX8_isClosed_29 : decode cX8_isClosed 29 = .ok (.iconst 1, 1) := by decide +kernel
theorem dX8_isClosed_30 : decode cX8_isClosed 30 = .ok (.goto 4, 3) := by decide +kernel
theorem dX8_isClosed_33 : decode cX8_isClosed 33 = .ok (.iconst 0, 1) := by decide +kernel
theorem dX8_isClosed_34 : decode cX8_isClosed 34 = .ok (.ireturn, 1) := by decide +kernel
theorem dX8_adds_0 : decode cX8_adds 0 = .ok (.aload_n 0, 1) := by decide +kernel
theorem dX8_adds_1 : decode cX8_adds 1 = .ok (.iload_n 1, 1) := by decide +kernel
theorem dX8_adds_2 : decode cX8_adds 2 = .ok (.invokevirtual 65, 3) := by decide +kernel
theorem dX8_adds_5 : decode cX8_adds 5 = .ok (.bipush 8, 2) := by decide +kernel
theorem dX8_adds_7 : decode cX8_adds 7 = .ok (.if_icmp .ne 6, 3) := by decide +kernel
theorem dX8_adds_10 : decode cX8_adds 10 = .ok (.ldc 79, 2) := by decide +kernel
theorem dX8_adds_12 : decode cX8_adds 12 = .ok (.ireturn, 1) := by decide +kernel
theorem dX8_adds_13 : decode cX8_adds 13 = .ok (.iload_n 1, 1) := by decide +kernel
theorem dX8_adds_14 : decode cX8_adds 14 = .ok (.invokestatic 42, 3) := by decide +kernel
theorem dX8_adds_17 : decode cX8_adds 17 = .ok (.bipush 8, 2) := by decide +kernel
theorem dX8_adds_19 : decode cX8_adds 19 = .ok (.iadd, 1) := by decide +kernel
theorem dX8_adds_20 : decode cX8_adds 20 = .ok (.iconst 3, 1) := by decide +kernel
theorem dX8_adds_21 : decode cX8_adds 21 = .ok (.aload_n 0, 1) := by decide +kernel
theorem dX8_adds_22 : decode cX8_adds 22 = .ok (.iload_n 1, 1) := by decide +kernel
