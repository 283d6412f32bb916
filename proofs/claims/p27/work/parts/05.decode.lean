/-! decode rows -/
theorem dX7_roomOf_111 : decode cX7_roomOf 111 = .ok (.ireturn, 1) := by decide +kernel
theorem dX7_roomOf_112 : decode cX7_roomOf 112 = .ok (.aload_n 0, 1) := by decide +kernel
theorem dX7_roomOf_113 : decode cX7_roomOf 113 = .ok (.getfield 10, 3) := by decide +kernel
theorem dX7_roomOf_116 : decode cX7_roomOf 116 = .ok (.getfield 181, 3) := by decide +kernel
theorem dX7_roomOf_119 : decode cX7_roomOf 119 = .ok (.ifCond .ne 8, 3) := by decide +kernel
theorem dX7_roomOf_122 : decode cX7_roomOf 122 = .ok (.ldc 164, 2) := by decide +kernel
theorem dX7_roomOf_124 : decode cX7_roomOf 124 = .ok (.goto 7, 3) := by decide +kernel
theorem dX7_roomOf_127 : decode cX7_roomOf 127 = .ok (.aload_n 3, 1) := by decide +kernel
theorem dX7_roomOf_128 : decode cX7_roomOf 128 = .ok (.getfield 187, 3) := by decide +kernel
theorem dX7_roomOf_131 : decode cX7_roomOf 131 = .ok (.ireturn, 1) := by decide +kernel
theorem dX7_roomOf_132 : decode cX7_roomOf 132 = .ok (.ldc 52, 2) := by decide +kernel
theorem dX7_roomOf_134 : decode cX7_roomOf 134 = .ok (.ireturn, 1) := by decide +kernel
theorem dX7_count_0 : decode cX7_count 0 = .ok (.iload_n 1, 1) := by decide +kernel
theorem dX7_count_1 : decode cX7_count 1 = .ok (.tableswitch 103 0 6 #[43, 51, 59, 67, 75, 83, 93], 43) := by decide +kernel
theorem dX7_count_44 : decode cX7_count 44 = .ok (.aload_n 0, 1) := by decide +kernel
theorem dX7_count_45 : decode cX7_count 45 = .ok (.getfield 10, 3) := by decide +kernel
theorem dX7_count_48 : decode cX7_count 48 = .ok (.getfield 181, 3) := by decide +kernel
theorem dX7_count_51 : decode cX7_count 51 = .ok (.ireturn, 1) := by decide +kernel
theorem dX7_count_52 : decode cX7_count 52 = .ok (.aload_n 0, 1) := by decide +kernel
theorem dX7_count_53 : decode cX7_count 53 = .ok (.getfield 10, 3) := by decide +kernel
theorem dX7_count_56 : decode cX7_count 56 = .ok (.invokevirtual 190, 3) := by decide +kernel
theorem dX7_count_59 : decode cX7_count 59 = .ok (.ireturn, 1) := by decide +kernel
theorem dX7_count_60 : decode cX7_count 60 = .ok (.aload_n 0, 1) := by decide +kernel
theorem dX7_count_61 : decode cX7_count 61 = .ok (.getfield 10, 3) := by decide +kernel
theorem dX7_count_64 : decode cX7_count 64 = .ok (.getfield 122, 3) := by decide +kernel
theorem dX7_count_67 : decode cX7_count 67 = .ok (.ireturn, 1) := by decide +kernel
theorem dX7_count_68 : decode cX7_count 68 = .ok (.aload_n 0, 1) := by decide +kernel
theorem dX7_count_69 : decode cX7_count 69 = .ok (.getfield 19, 3) := by decide +kernel
theorem dX7_count_72 : decode cX7_count 72 = .ok (.getfield 192, 3) := by decide +kernel
theorem dX7_count_75 : decode cX7_count 75 = .ok (.ireturn, 1) := by decide +kernel
theorem dX7_count_76 : decode cX7_count 76 = .ok (.aload_n 0, 1) := by decide +kernel
theorem dX7_count_77 : decode cX7_count 77 = .ok (.getfield 26, 3) := by decide +kernel
theorem dX7_count_80 : decode cX7_count 80 = .ok (.getfield 195, 3) := by decide +kernel
theorem dX7_count_83 : decode cX7_count 83 = .ok (.ireturn, 1) := by decide +kernel
theorem dX7_count_84 : decode cX7_count 84 = .ok (.aload_n 0, 1) := by decide +kernel
theorem dX7_count_85 : decode cX7_count 85 = .ok (.getfield 10, 3) := by decide +kernel
theorem dX7_count_88 : decode cX7_count 88 = .ok (.getfield 139, 3) := by decide +kernel
theorem dX7_count_91 : decode cX7_count 91 = .ok (.iconst 0, 1) := by decide +kernel
theorem dX7_count_92 : decode cX7_count 92 = .ok (.iaload, 1) := by decide +kernel
theorem dX7_count_93 : decode cX7_count 93 = .ok (.ireturn, 1) := by decide +kernel
theorem dX7_count_94 : decode cX7_count 94 = .ok (.aload_n 0, 1) := by decide +kernel
theorem dX7_count_95 : decode cX7_count 95 = .ok (.getfield 10, 3) := by decide +kernel
theorem dX7_count_98 : decode cX7_count 98 = .ok (.getfield 139, 3) := by decide +kernel
theorem dX7_count_101 : decode cX7_count 101 = .ok (.iconst 1, 1) := by decide +kernel
theorem dX7_count_102 : decode cX7_count 102 = .ok (.iaload, 1) := by decide +kernel
theorem dX7_count_103 : decode cX7_count 103 = .ok (.ireturn, 1) := by decide +kernel
theorem dX7_count_104 : decode cX7_count 104 = .ok (.aload_n 0, 1) := by decide +kernel
theorem dX7_count_105 : decode cX7_count 105 = .ok (.iload_n 1, 1) := by decide +kernel
theorem dX7_count_106 : decode cX7_count 106 = .ok (.bipush 10, 2) := by decide +kernel
theorem dX7_count_108 : decode cX7_count 108 = .ok (.isub, 1) := by decide +kernel
theorem dX7_count_109 : decode cX7_count 109 = .ok (.invokevirtual 198, 3) := by decide +kernel
theorem dX7_count_112 : decode cX7_count 112 = .ok (.ireturn, 1) := by decide +kernel
theorem dX7_bend_0 : decode cX7_bend 0 = .ok (.iload_n 1, 1) := by decide +kernel
theorem dX7_bend_1 : decode cX7_bend 1 = .ok (.invokestatic 60, 3) := by decide +kernel
theorem dX7_bend_4 : decode cX7_bend 4 = .ok (.ifCond .eq 10, 3) := by decide +kernel
theorem dX7_bend_7 : decode cX7_bend 7 = .ok (.iload_n 2, 1) := by decide +kernel
theorem dX7_bend_8 : decode cX7_bend 8 = .ok (.invokestatic 119, 3) := by decide +kernel
theorem dX7_bend_11 : decode cX7_bend 11 = .ok (.ifCond .ne 6, 3) := by decide +kernel
theorem dX7_bend_14 : decode cX7_bend 14 = .ok (.ldc 52, 2) := by decide +kernel
theorem dX7_bend_16 : decode cX7_bend 16 = .ok (.ireturn, 1) := by decide +kernel
theorem dX7_bend_17 : decode cX7_bend 17 = .ok (.aload_n 0, 1) := by decide +kernel
theorem dX7_bend_18 : decode cX7_bend 18 = .ok (.getfield 10, 3) := by decide +kernel
theorem dX7_bend_21 : decode cX7_bend 21 = .ok (.getfield 64, 3) := by decide +kernel
theorem dX7_bend_24 : decode cX7_bend 24 = .ok (.iload_n 1, 1) := by decide +kernel
theorem dX7_bend_25 : decode cX7_bend 25 = .ok (.aaload, 1) := by decide +kernel
theorem dX7_bend_26 : decode cX7_bend 26 = .ok (.aload_n 0, 1) := by decide +kernel
theorem dX7_bend_27 : decode cX7_bend 27 = .ok (.getfield 10, 3) := by decide +kernel
theorem dX7_bend_30 : decode cX7_bend 30 = .ok (.getfield 56, 3) := by decide +kernel
theorem dX7_bend_33 : decode cX7_bend 33 = .ok (.invokevirtual 151, 3) := by decide +kernel
theorem dX7_bend_36 : decode cX7_bend 36 = .ok (.iload_n 2, 1) := by decide +kernel
theorem dX7_bend_37 : decode cX7_bend 37 = .ok (.invokestatic 201, 3) := by decide +kernel
theorem dX7_bend_40 : decode cX7_bend 40 = .ok (.ireturn, 1) := by decide +kernel
theorem dX7_tripsAt_0 : decode cX7_tripsAt 0 = .ok (.iload_n 1, 1) := by decide +kernel
theorem dX7_tripsAt_1 : decode cX7_tripsAt 1 = .ok (.invokestatic 60, 3) := by decide +kernel
theorem dX7_tripsAt_4 : decode cX7_tripsAt 4 = .ok (.ifCond .eq 12, 3) := by decide +kernel
theorem dX7_tripsAt_7 : decode cX7_tripsAt 7 = .ok (.iload_n 2, 1) := by decide +kernel
theorem dX7_tripsAt_8 : decode cX7_tripsAt 8 = .ok (.iconst 0, 1) := by decide +kernel
theorem dX7_tripsAt_9 : decode cX7_tripsAt 9 = .ok (.iconst 1, 1) := by decide +kernel
theorem dX7_tripsAt_10 : decode cX7_tripsAt 10 = .ok (.invokestatic 48, 3) := by decide +kernel
theorem dX7_tripsAt_13 : decode cX7_tripsAt 13 = .ok (.ifCond .ne 6, 3) := by decide +kernel
theorem dX7_tripsAt_16 : decode cX7_tripsAt 16 = .ok (.ldc 52, 2) := by decide +kernel
theorem dX7_tripsAt_18 : decode cX7_tripsAt 18 = .ok (.ireturn, 1) := by decide +kernel
theorem dX7_tripsAt_19 : decode cX7_tripsAt 19 = .ok (.aload_n 0, 1) := by decide +kernel
theorem dX7_tripsAt_20 : decode cX7_tripsAt 20 = .ok (.getfield 10, 3) := by decide +kernel
theorem dX7_tripsAt_23 : decode cX7_tripsAt 23 = .ok (.getfield 64, 3) := by decide +kernel
theorem dX7_tripsAt_26 : decode cX7_tripsAt 26 = .ok (.iload_n 1, 1) := by decide +kernel
theorem dX7_tripsAt_27 : decode cX7_tripsAt 27 = .ok (.aaload, 1) := by decide +kernel
theorem dX7_tripsAt_28 : decode cX7_tripsAt 28 = .ok (.astore_n 3, 1) := by decide +kernel
theorem dX7_tripsAt_29 : decode cX7_tripsAt 29 = .ok (.aload_n 3, 1) := by decide +kernel
theorem dX7_tripsAt_30 : decode cX7_tripsAt 30 = .ok (.aload_n 0, 1) := by decide +kernel
theorem dX7_tripsAt_31 : decode cX7_tripsAt 31 = .ok (.getfield 10, 3) := by decide +kernel
theorem dX7_tripsAt_34 : decode cX7_tripsAt 34 = .ok (.getfield 56, 3) := by decide +kernel
theorem dX7_tripsAt_37 : decode cX7_tripsAt 37 = .ok (.invokevirtual 151, 3) := by decide +kernel
theorem dX7_tripsAt_40 : decode cX7_tripsAt 40 = .ok (.istore 4, 2) := by decide +kernel
theorem dX7_tripsAt_42 : decode cX7_tripsAt 42 = .ok (.iload_n 2, 1) := by decide +kernel
theorem dX7_tripsAt_43 : decode cX7_tripsAt 43 = .ok (.ifCond .ne 15, 3) := by decide +kernel
theorem dX7_tripsAt_46 : decode cX7_tripsAt 46 = .ok (.iload 4, 2) := by decide +kernel
theorem dX7_tripsAt_48 : decode cX7_tripsAt 48 = .ok (.aload_n 3, 1) := by decide +kernel
theorem dX7_tripsAt_49 : decode cX7_tripsAt 49 = .ok (.getfield 86, 3) := by decide +kernel
theorem dX7_tripsAt_52 : decode cX7_tripsAt 52 = .ok (.invokestatic 205, 3) := by decide +kernel
theorem dX7_tripsAt_55 : decode cX7_tripsAt 55 = .ok (.goto 12, 3) := by decide +kernel
theorem dX7_tripsAt_58 : decode cX7_tripsAt 58 = .ok (.iload 4, 2) := by decide +kernel
theorem dX7_tripsAt_60 : decode cX7_tripsAt 60 = .ok (.aload_n 3, 1) := by decide +kernel
theorem dX7_tripsAt_61 : decode cX7_tripsAt 61 = .ok (.getfield 83, 3) := by decide +kernel
theorem dX7_tripsAt_64 : decode cX7_tripsAt 64 = .ok (.invokestatic 208, 3) := by decide +kernel
theorem dX7_tripsAt_67 : decode cX7_tripsAt 67 = .ok (.ireturn, 1) := by decide +kernel
theorem dX7_loop_0 : decode cX7_loop 0 = .ok (.iload_n 1, 1) := by decide +kernel
theorem dX7_loop_1 : decode cX7_loop 1 = .ok (.iconst 0, 1) := by decide +kernel
theorem dX7_loop_2 : decode cX7_loop 2 = .ok (.iconst 2, 1) := by decide +kernel
theorem dX7_loop_3 : decode cX7_loop 3 = .ok (.invokestatic 48, 3) := by decide +kernel
theorem dX7_loop_6 : decode cX7_loop 6 = .ok (.ifCond .ne 6, 3) := by decide +kernel
theorem dX7_loop_9 : decode cX7_loop 9 = .ok (.ldc 52, 2) := by decide +kernel
theorem dX7_loop_11 : decode cX7_loop 11 = .ok (.ireturn, 1) := by decide +kernel
theorem dX7_loop_12 : decode cX7_loop 12 = .ok (.aload_n 0, 1) := by decide +kernel
theorem dX7_loop_13 : decode cX7_loop 13 = .ok (.getfield 44, 3) := by decide +kernel
theorem dX7_loop_16 : decode cX7_loop 16 = .ok (.ifCond .ne 19, 3) := by decide +kernel
theorem dX7_loop_19 : decode cX7_loop 19 = .ok (.aload_n 0, 1) := by decide +kernel
theorem dX7_loop_20 : decode cX7_loop 20 = .ok (.getfield 33, 3) := by decide +kernel
theorem dX7_loop_23 : decode cX7_loop 23 = .ok (.aload_n 0, 1) := by decide +kernel
theorem dX7_loop_24 : decode cX7_loop 24 = .ok (.getfield 10, 3) := by decide +kernel
theorem dX7_loop_27 : decode cX7_loop 27 = .ok (.invokevirtual 211, 3) := by decide +kernel
theorem dX7_loop_30 : decode cX7_loop 30 = .ok (.aload_n 0, 1) := by decide +kernel
theorem dX7_loop_31 : decode cX7_loop 31 = .ok (.iconst 1, 1) := by decide +kernel
theorem dX7_loop_32 : decode cX7_loop 32 = .ok (.putfield 44, 3) := by decide +kernel
theorem dX7_loop_35 : decode cX7_loop 35 = .ok (.aload_n 0, 1) := by decide +kernel
theorem dX7_loop_36 : decode cX7_loop 36 = .ok (.getfield 33, 3) := by decide +kernel
theorem dX7_loop_39 : decode cX7_loop 39 = .ok (.getfield 215, 3) := by decide +kernel
theorem dX7_loop_42 : decode cX7_loop 42 = .ok (.ifCond .ne 6, 3) := by decide +kernel
theorem dX7_loop_45 : decode cX7_loop 45 = .ok (.ldc 164, 2) := by decide +kernel
theorem dX7_loop_47 : decode cX7_loop 47 = .ok (.ireturn, 1) := by decide +kernel
theorem dX7_loop_48 : decode cX7_loop 48 = .ok (.iload_n 1, 1) := by decide +kernel
theorem dX7_loop_49 : decode cX7_loop 49 = .ok (.lookupswitch 43 #[(0, 27), (1, 35)], 27) := by decide +kernel
theorem dX7_loop_76 : decode cX7_loop 76 = .ok (.aload_n 0, 1) := by decide +kernel
theorem dX7_loop_77 : decode cX7_loop 77 = .ok (.getfield 33, 3) := by decide +kernel
theorem dX7_loop_80 : decode cX7_loop 80 = .ok (.getfield 218, 3) := by decide +kernel
theorem dX7_loop_83 : decode cX7_loop 83 = .ok (.ireturn, 1) := by decide +kernel
theorem dX7_loop_84 : decode cX7_loop 84 = .ok (.aload_n 0, 1) := by decide +kernel
theorem dX7_loop_85 : decode cX7_loop 85 = .ok (.getfield 33, 3) := by decide +kernel
theorem dX7_loop_88 : decode cX7_loop 88 = .ok (.getfield 221, 3) := by decide +kernel
theorem dX7_loop_91 : decode cX7_loop 91 = .ok (.ireturn, 1) := by decide +kernel
theorem dX7_loop_92 : decode cX7_loop 92 = .ok (.aload_n 0, 1) := by decide +kernel
theorem dX7_loop_93 : decode cX7_loop 93 = .ok (.getfield 33, 3) := by decide +kernel
theorem dX7_loop_96 : decode cX7_loop 96 = .ok (.getfield 224, 3) := by decide +kernel
theorem dX7_loop_99 : decode cX7_loop 99 = .ok (.ireturn, 1) := by decide +kernel
theorem dX7_undo_0 : decode cX7_undo 0 = .ok (.aload_n 0, 1) := by decide +kernel
theorem dX7_undo_1 : decode cX7_undo 1 = .ok (.getfield 19, 3) := by decide +kernel
theorem dX7_undo_4 : decode cX7_undo 4 = .ok (.getfield 192, 3) := by decide +kernel
theorem dX7_undo_7 : decode cX7_undo 7 = .ok (.ifCond .ne 6, 3) := by decide +kernel
theorem dX7_undo_10 : decode cX7_undo 10 = .ok (.ldc 79, 2) := by decide +kernel
theorem dX7_undo_12 : decode cX7_undo 12 = .ok (.ireturn, 1) := by decide +kernel
theorem dX7_undo_13 : decode cX7_undo 13 = .ok (.aload_n 0, 1) := by decide +kernel
theorem dX7_undo_14 : decode cX7_undo 14 = .ok (.getfield 19, 3) := by decide +kernel
theorem dX7_undo_17 : decode cX7_undo 17 = .ok (.aload_n 0, 1) := by decide +kernel
theorem dX7_undo_18 : decode cX7_undo 18 = .ok (.getfield 10, 3) := by decide +kernel
theorem dX7_undo_21 : decode cX7_undo 21 = .ok (.invokevirtual 236, 3) := by decide +kernel
theorem dX7_undo_24 : decode cX7_undo 24 = .ok (.aload_n 0, 1) := by decide +kernel
theorem dX7_undo_25 : decode cX7_undo 25 = .ok (.iconst 0, 1) := by decide +kernel
theorem dX7_undo_26 : decode cX7_undo 26 = .ok (.putfield 44, 3) := by decide +kernel
theorem dX7_undo_29 : decode cX7_undo 29 = .ok (.aload_n 0, 1) := by decide +kernel
theorem dX7_undo_30 : decode cX7_undo 30 = .ok (.getfield 19, 3) := by decide +kernel
theorem dX7_undo_33 : decode cX7_undo 33 = .ok (.getfield 192, 3) := by decide +kernel
theorem dX7_undo_36 : decode cX7_undo 36 = .ok (.ireturn, 1) := by decide +kernel
theorem dX7_type_0 : decode cX7_type 0 = .ok (.iload_n 1, 1) := by decide +kernel
theorem dX7_type_1 : decode cX7_type 1 = .ok (.bipush 32, 2) := by decide +kernel
theorem dX7_type_3 : decode cX7_type 3 = .ok (.bipush 126, 2) := by decide +kernel
theorem dX7_type_5 : decode cX7_type 5 = .ok (.invokestatic 48, 3) := by decide +kernel
theorem dX7_type_8 : decode cX7_type 8 = .ok (.ifCond .ne 6, 3) := by decide +kernel
theorem dX7_type_11 : decode cX7_type 11 = .ok (.ldc 52, 2) := by decide +kernel
theorem dX7_type_13 : decode cX7_type 13 = .ok (.ireturn, 1) := by decide +kernel
theorem dX7_type_14 : decode cX7_type 14 = .ok (.aload_n 0, 1) := by decide +kernel
theorem dX7_type_15 : decode cX7_type 15 = .ok (.getfield 26, 3) := by decide +kernel
theorem dX7_type_18 : decode cX7_type 18 = .ok (.getfield 195, 3) := by decide +kernel
theorem dX7_type_21 : decode cX7_type 21 = .ok (.bipush 60, 2) := by decide +kernel
theorem dX7_type_23 : decode cX7_type 23 = .ok (.if_icmp .lt 6, 3) := by decide +kernel
theorem dX7_type_26 : decode cX7_type 26 = .ok (.ldc 74, 2) := by decide +kernel
theorem dX7_type_28 : decode cX7_type 28 = .ok (.ireturn, 1) := by decide +kernel
theorem dX7_type_29 : decode cX7_type 29 = .ok (.aload_n 0, 1) := by decide +kernel
theorem dX7_type_30 : decode cX7_type 30 = .ok (.getfield 26, 3) := by decide +kernel
theorem dX7_type_33 : decode cX7_type 33 = .ok (.iload_n 1, 1) := by decide +kernel
theorem dX7_type_34 : decode cX7_type 34 = .ok (.i2c, 1) := by decide +kernel
theorem dX7_type_35 : decode cX7_type 35 = .ok (.invokevirtual 239, 3) := by decide +kernel
theorem dX7_type_38 : decode cX7_type 38 = .ok (.aload_n 0, 1) := by decide +kernel
theorem dX7_type_39 : decode cX7_type 39 = .ok (.getfield 26, 3) := by decide +kernel
theorem dX7_type_42 : decode cX7_type 42 = .ok (.getfield 195, 3) := by decide +kernel
theorem dX7_type_45 : decode cX7_type 45 = .ok (.ireturn, 1) := by decide +kernel
theorem dX7_clearText_0 : decode cX7_clearText 0 = .ok (.aload_n 0, 1) := by decide +kernel
theorem dX7_clearText_1 : decode cX7_clearText 1 = .ok (.getfield 26, 3) := by decide +kernel
theorem dX7_clearText_4 : decode cX7_clearText 4 = .ok (.getfield 195, 3) := by decide +kernel
theorem dX7_clearText_7 : decode cX7_clearText 7 = .ok (.istore_n 1, 1) := by decide +kernel
theorem dX7_clearText_8 : decode cX7_clearText 8 = .ok (.aload_n 0, 1) := by decide +kernel
theorem dX7_clearText_9 : decode cX7_clearText 9 = .ok (.getfield 26, 3) := by decide +kernel
theorem dX7_clearText_12 : decode cX7_clearText 12 = .ok (.iconst 0, 1) := by decide +kernel
theorem dX7_clearText_13 : decode cX7_clearText 13 = .ok (.putfield 195, 3) := by decide +kernel
theorem dX7_clearText_16 : decode cX7_clearText 16 = .ok (.iload_n 1, 1) := by decide +kernel
theorem dX7_clearText_17 : decode cX7_clearText 17 = .ok (.ireturn, 1) := by decide +kernel
theorem dX7_fault_0 : decode cX7_fault 0 = .ok (.iload_n 1, 1) := by decide +kernel
theorem dX7_fault_1 : decode cX7_fault 1 = .ok (.iconst 0, 1) := by decide +kernel
theorem dX7_fault_2 : decode cX7_fault 2 = .ok (.iconst 1, 1) := by decide +kernel
theorem dX7_fault_3 : decode cX7_fault 3 = .ok (.invokestatic 48, 3) := by decide +kernel
theorem dX7_fault_6 : decode cX7_fault 6 = .ok (.ifCond .ne 6, 3) := by decide +kernel
theorem dX7_fault_9 : decode cX7_fault 9 = .ok (.ldc 52, 2) := by decide +kernel
theorem dX7_fault_11 : decode cX7_fault 11 = .ok (.ireturn, 1) := by decide +kernel
theorem dX7_fault_12 : decode cX7_fault 12 = .ok (.aload_n 0, 1) := by decide +kernel
theorem dX7_fault_13 : decode cX7_fault 13 = .ok (.getfield 26, 3) := by decide +kernel
theorem dX7_fault_16 : decode cX7_fault 16 = .ok (.invokevirtual 243, 3) := by decide +kernel
theorem dX7_fault_19 : decode cX7_fault 19 = .ok (.istore_n 2, 1) := by decide +kernel
theorem dX7_fault_20 : decode cX7_fault 20 = .ok (.iload_n 2, 1) := by decide +kernel
theorem dX7_fault_21 : decode cX7_fault 21 = .ok (.iconst (-1), 1) := by decide +kernel
theorem dX7_fault_22 : decode cX7_fault 22 = .ok (.if_icmp .ne 6, 3) := by decide +kernel
theorem dX7_fault_25 : decode cX7_fault 25 = .ok (.ldc 164, 2) := by decide +kernel
theorem dX7_fault_27 : decode cX7_fault 27 = .ok (.ireturn, 1) := by decide +kernel
theorem dX7_fault_28 : decode cX7_fault 28 = .ok (.iload_n 1, 1) := by decide +kernel
theorem dX7_fault_29 : decode cX7_fault 29 = .ok (.ifCond .ne 7, 3) := by decide +kernel
theorem dX7_fault_32 : decode cX7_fault 32 = .ok (.iload_n 2, 1) := by decide +kernel
theorem dX7_fault_33 : decode cX7_fault 33 = .ok (.goto 11, 3) := by decide +kernel
theorem dX7_fault_36 : decode cX7_fault 36 = .ok (.aload_n 0, 1) := by decide +kernel
theorem dX7_fault_37 : decode cX7_fault 37 = .ok (.getfield 26, 3) := by decide +kernel
theorem dX7_fault_40 : decode cX7_fault 40 = .ok (.iload_n 2, 1) := by decide +kernel
theorem dX7_fault_41 : decode cX7_fault 41 = .ok (.invokevirtual 246, 3) := by decide +kernel
theorem dX7_fault_44 : decode cX7_fault 44 = .ok (.ireturn, 1) := by decide +kernel
theorem dX7_read_0 : decode cX7_read 0 = .ok (.iload_n 1, 1) := by decide +kernel
theorem dX7_read_1 : decode cX7_read 1 = .ok (.invokestatic 60, 3) := by decide +kernel
theorem dX7_read_4 : decode cX7_read 4 = .ok (.ifCond .ne 6, 3) := by decide +kernel
theorem dX7_read_7 : decode cX7_read 7 = .ok (.ldc 52, 2) := by decide +kernel
theorem dX7_read_9 : decode cX7_read 9 = .ok (.ireturn, 1) := by decide +kernel
theorem dX7_read_10 : decode cX7_read 10 = .ok (.aload_n 0, 1) := by decide +kernel
theorem dX7_read_11 : decode cX7_read 11 = .ok (.getfield 26, 3) := by decide +kernel
theorem dX7_read_14 : decode cX7_read 14 = .ok (.invokevirtual 243, 3) := by decide +kernel
theorem dX7_read_17 : decode cX7_read 17 = .ok (.iconst (-1), 1) := by decide +kernel
theorem dX7_read_18 : decode cX7_read 18 = .ok (.if_icmp .eq 6, 3) := by decide +kernel
theorem dX7_read_21 : decode cX7_read 21 = .ok (.ldc 79, 2) := by decide +kernel
theorem dX7_read_23 : decode cX7_read 23 = .ok (.ireturn, 1) := by decide +kernel
theorem dX7_read_24 : decode cX7_read 24 = .ok (.aload_n 0, 1) := by decide +kernel
theorem dX7_read_25 : decode cX7_read 25 = .ok (.invokevirtual 53, 3) := by decide +kernel
theorem dX7_read_28 : decode cX7_read 28 = .ok (.aload_n 0, 1) := by decide +kernel
theorem dX7_read_29 : decode cX7_read 29 = .ok (.getfield 10, 3) := by decide +kernel
theorem dX7_read_32 : decode cX7_read 32 = .ok (.getfield 64, 3) := by decide +kernel
theorem dX7_read_35 : decode cX7_read 35 = .ok (.iload_n 1, 1) := by decide +kernel
theorem dX7_read_36 : decode cX7_read 36 = .ok (.aaload, 1) := by decide +kernel
theorem dX7_read_37 : decode cX7_read 37 = .ok (.astore_n 2, 1) := by decide +kernel
theorem dX7_read_38 : decode cX7_read 38 = .ok (.aload_n 2, 1) := by decide +kernel
theorem dX7_read_39 : decode cX7_read 39 = .ok (.iconst 0, 1) := by decide +kernel
theorem dX7_read_40 : decode cX7_read 40 = .ok (.putfield 68, 3) := by decide +kernel
theorem dX7_read_43 : decode cX7_read 43 = .ok (.iconst 0, 1) := by decide +kernel
theorem dX7_read_44 : decode cX7_read 44 = .ok (.istore_n 3, 1) := by decide +kernel
theorem dX7_read_45 : decode cX7_read 45 = .ok (.iload_n 3, 1) := by decide +kernel
theorem dX7_read_46 : decode cX7_read 46 = .ok (.aload_n 0, 1) := by decide +kernel
theorem dX7_read_47 : decode cX7_read 47 = .ok (.getfield 26, 3) := by decide +kernel
theorem dX7_read_50 : decode cX7_read 50 = .ok (.invokevirtual 249, 3) := by decide +kernel
theorem dX7_read_53 : decode cX7_read 53 = .ok (.if_icmp .ge 37, 3) := by decide +kernel
theorem dX7_read_56 : decode cX7_read 56 = .ok (.aload_n 2, 1) := by decide +kernel
theorem dX7_read_57 : decode cX7_read 57 = .ok (.aload_n 0, 1) := by decide +kernel
theorem dX7_read_58 : decode cX7_read 58 = .ok (.getfield 26, 3) := by decide +kernel
theorem dX7_read_61 : decode cX7_read 61 = .ok (.iload_n 3, 1) := by decide +kernel
theorem dX7_read_62 : decode cX7_read 62 = .ok (.invokevirtual 251, 3) := by decide +kernel
theorem dX7_read_65 : decode cX7_read 65 = .ok (.aload_n 0, 1) := by decide +kernel
theorem dX7_read_66 : decode cX7_read 66 = .ok (.getfield 26, 3) := by decide +kernel
theorem dX7_read_69 : decode cX7_read 69 = .ok (.iload_n 3, 1) := by decide +kernel
theorem dX7_read_70 : decode cX7_read 70 = .ok (.invokevirtual 254, 3) := by decide +kernel
theorem dX7_read_73 : decode cX7_read 73 = .ok (.aload_n 0, 1) := by decide +kernel
theorem dX7_read_74 : decode cX7_read 74 = .ok (.getfield 26, 3) := by decide +kernel
theorem dX7_read_77 : decode cX7_read 77 = .ok (.iload_n 3, 1) := by decide +kernel
theorem dX7_read_78 : decode cX7_read 78 = .ok (.invokevirtual 257, 3) := by decide +kernel
theorem dX7_read_81 : decode cX7_read 81 = .ok (.invokevirtual 75, 3) := by decide +kernel
theorem dX7_read_84 : decode cX7_read 84 = .ok (.iinc 3 1, 3) := by decide +kernel
theorem dX7_read_87 : decode cX7_read 87 = .ok (.goto (-42), 3) := by decide +kernel
theorem dX7_read_90 : decode cX7_read 90 = .ok (.aload_n 2, 1) := by decide +kernel
theorem dX7_read_91 : decode cX7_read 91 = .ok (.getfield 68, 3) := by decide +kernel
theorem dX7_read_94 : decode cX7_read 94 = .ok (.ireturn, 1) := by decide +kernel
theorem dX7_recordChange_0 : decode cX7_recordChange 0 = .ok (.aload_n 0, 1) := by decide +kernel
theorem dX7_recordChange_1 : decode cX7_recordChange 1 = .ok (.getfield 19, 3) := by decide +kernel
theorem dX7_recordChange_4 : decode cX7_recordChange 4 = .ok (.aload_n 0, 1) := by decide +kernel
theorem dX7_recordChange_5 : decode cX7_recordChange 5 = .ok (.getfield 10, 3) := by decide +kernel
theorem dX7_recordChange_8 : decode cX7_recordChange 8 = .ok (.invokevirtual 260, 3) := by decide +kernel
theorem dX7_recordChange_11 : decode cX7_recordChange 11 = .ok (.aload_n 0, 1) := by decide +kernel
theorem dX7_recordChange_12 : decode cX7_recordChange 12 = .ok (.iconst 0, 1) := by decide +kernel
theorem dX7_recordChange_13 : decode cX7_recordChange 13 = .ok (.putfield 44, 3) := by decide +kernel
theorem dX7_recordChange_16 : decode cX7_recordChange 16 = .ok (.return_, 1) := by decide +kernel
theorem dX7_numberOfMetal_0 : decode cX7_numberOfMetal 0 = .ok (.iload_n 1, 1) := by decide +kernel
theorem dX7_numberOfMetal_1 : decode cX7_numberOfMetal 1 = .ok (.iconst 0, 1) := by decide +kernel
theorem dX7_numberOfMetal_2 : decode cX7_numberOfMetal 2 = .ok (.iconst 5, 1) := by decide +kernel
theorem dX7_numberOfMetal_3 : decode cX7_numberOfMetal 3 = .ok (.invokestatic 48, 3) := by decide +kernel
theorem dX7_numberOfMetal_6 : decode cX7_numberOfMetal 6 = .ok (.ifCond .eq 15, 3) := by decide +kernel
theorem dX7_numberOfMetal_9 : decode cX7_numberOfMetal 9 = .ok (.aload_n 0, 1) := by decide +kernel
theorem dX7_numberOfMetal_10 : decode cX7_numberOfMetal 10 = .ok (.getfield 10, 3) := by decide +kernel
theorem dX7_numberOfMetal_13 : decode cX7_numberOfMetal 13 = .ok (.getfield 56, 3) := by decide +kernel
theorem dX7_numberOfMetal_16 : decode cX7_numberOfMetal 16 = .ok (.iload_n 1, 1) := by decide +kernel
theorem dX7_numberOfMetal_17 : decode cX7_numberOfMetal 17 = .ok (.iaload, 1) := by decide +kernel
theorem dX7_numberOfMetal_18 : decode cX7_numberOfMetal 18 = .ok (.goto 5, 3) := by decide +kernel
theorem dX7_numberOfMetal_21 : decode cX7_numberOfMetal 21 = .ok (.ldc 52, 2) := by decide +kernel
theorem dX7_numberOfMetal_23 : decode cX7_numberOfMetal 23 = .ok (.ireturn, 1) := by decide +kernel
theorem dX7_isWithin_0 : decode cX7_isWithin 0 = .ok (.iload_n 1, 1) := by decide +kernel
theorem dX7_isWithin_1 : decode cX7_isWithin 1 = .ok (.iload_n 0, 1) := by decide +kernel
theorem dX7_isWithin_2 : decode cX7_isWithin 2 = .ok (.if_icmp .gt 12, 3) := by decide +kernel
theorem dX7_isWithin_5 : decode cX7_isWithin 5 = .ok (.iload_n 0, 1) := by decide +kernel
theorem dX7_isWithin_6 : decode cX7_isWithin 6 = .ok (.iload_n 2, 1) := by decide +kernel
theorem dX7_isWithin_7 : decode cX7_isWithin 7 = .ok (.if_icmp .gt 7, 3) := by decide +kernel
theorem dX7_isWithin_10 : decode cX7_isWithin 10 = .ok (.iconst 1, 1) := by decide +kernel
theorem dX7_isWithin_11 : decode cX7_isWithin 11 = .ok (.goto 4, 3) := by decide +kernel
theorem dX7_isWithin_14 : decode cX7_isWithin 14 = .ok (.iconst 0, 1) := by decide +kernel
theorem dX7_isWithin_15 : decode cX7_isWithin 15 = .ok (.ireturn, 1) := by decide +kernel
theorem dX7_isRoom_0 : decode cX7_isRoom 0 = .ok (.iload_n 0, 1) := by decide +kernel
theorem dX7_isRoom_1 : decode cX7_isRoom 1 = .ok (.iconst 0, 1) := by decide +kernel
theorem dX7_isRoom_2 : decode cX7_isRoom 2 = .ok (.iconst 2, 1) := by decide +kernel
theorem dX7_isRoom_3 : decode cX7_isRoom 3 = .ok (.invokestatic 48, 3) := by decide +kernel
theorem dX7_isRoom_6 : decode cX7_isRoom 6 = .ok (.ireturn, 1) := by decide +kernel
theorem dX7_isWarmth_0 : decode cX7_isWarmth 0 = .ok (.iload_n 0, 1) := by decide +kernel
theorem dX7_isWarmth_1 : decode cX7_isWarmth 1 = .ok (.sipush (-500), 3) := by decide +kernel
theorem dX7_isWarmth_4 : decode cX7_isWarmth 4 = .ok (.sipush 1500, 3) := by decide +kernel
theorem dX7_isWarmth_7 : decode cX7_isWarmth 7 = .ok (.invokestatic 48, 3) := by decide +kernel
theorem dX7_isWarmth_10 : decode cX7_isWarmth 10 = .ok (.ireturn, 1) := by decide +kernel
theorem dX7_isSetting_0 : decode cX7_isSetting 0 = .ok (.iload_n 0, 1) := by decide +kernel
theorem dX7_isSetting_1 : decode cX7_isSetting 1 = .ok (.ifCond .ne 13, 3) := by decide +kernel
theorem dX7_isSetting_4 : decode cX7_isSetting 4 = .ok (.iload_n 1, 1) := by decide +kernel
theorem dX7_isSetting_5 : decode cX7_isSetting 5 = .ok (.iconst 0, 1) := by decide +kernel
theorem dX7_isSetting_6 : decode cX7_isSetting 6 = .ok (.bipush 99, 2) := by decide +kernel
theorem dX7_isSetting_8 : decode cX7_isSetting 8 = .ok (.invokestatic 48, 3) := by decide +kernel
theorem dX7_isSetting_11 : decode cX7_isSetting 11 = .ok (.goto 24, 3) := by decide +kernel
theorem dX7_isSetting_14 : decode cX7_isSetting 14 = .ok (.iload_n 0, 1) := by decide +kernel
theorem dX7_isSetting_15 : decode cX7_isSetting 15 = .ok (.iconst 1, 1) := by decide +kernel
theorem dX7_isSetting_16 : decode cX7_isSetting 16 = .ok (.if_icmp .ne 18, 3) := by decide +kernel
theorem dX7_isSetting_19 : decode cX7_isSetting 19 = .ok (.iload_n 1, 1) := by decide +kernel
theorem dX7_isSetting_20 : decode cX7_isSetting 20 = .ok (.iconst 1, 1) := by decide +kernel
theorem dX7_isSetting_21 : decode cX7_isSetting 21 = .ok (.sipush 999, 3) := by decide +kernel
theorem dX7_isSetting_24 : decode cX7_isSetting 24 = .ok (.invokestatic 48, 3) := by decide +kernel
theorem dX7_isSetting_27 : decode cX7_isSetting 27 = .ok (.ifCond .eq 7, 3) := by decide +kernel
theorem dX7_isSetting_30 : decode cX7_isSetting 30 = .ok (.iconst 1, 1) := by decide +kernel
theorem dX7_isSetting_31 : decode cX7_isSetting 31 = .ok (.goto 4, 3) := by decide +kernel
theorem dX7_isSetting_34 : decode cX7_isSetting 34 = .ok (.iconst 0, 1) := by decide +kernel
theorem dX7_isSetting_35 : decode cX7_isSetting 35 = .ok (.ireturn, 1) := by decide +kernel
theorem dX7_oneIf_0 : decode cX7_oneIf 0 = .ok (.iload_n 0, 1) := by decide +kernel
theorem dX7_oneIf_1 : decode cX7_oneIf 1 = .ok (.ifCond .eq 7, 3) := by decide +kernel
theorem dX7_oneIf_4 : decode cX7_oneIf 4 = .ok (.iconst 1, 1) := by decide +kernel
theorem dX7_oneIf_5 : decode cX7_oneIf 5 = .ok (.goto 4, 3) := by decide +kernel
theorem dX7_oneIf_8 : decode cX7_oneIf 8 = .ok (.iconst 0, 1) := by decide +kernel
theorem dX7_oneIf_9 : decode cX7_oneIf 9 = .ok (.ireturn, 1) := by decide +kernel
theorem dX7_bendAt_0 : decode cX7_bendAt 0 = .ok (.iload_n 0, 1) := by decide +kernel
theorem dX7_bendAt_1 : decode cX7_bendAt 1 = .ok (.iload_n 1, 1) := by decide +kernel
theorem dX7_bendAt_2 : decode cX7_bendAt 2 = .ok (.sipush 200, 3) := by decide +kernel
theorem dX7_bendAt_5 : decode cX7_bendAt 5 = .ok (.isub, 1) := by decide +kernel
theorem dX7_bendAt_6 : decode cX7_bendAt 6 = .ok (.imul, 1) := by decide +kernel
theorem dX7_bendAt_7 : decode cX7_bendAt 7 = .ok (.ireturn, 1) := by decide +kernel
theorem dX7_leastPulledUp_0 : decode cX7_leastPulledUp 0 = .ok (.iload_n 0, 1) := by decide +kernel
theorem dX7_leastPulledUp_1 : decode cX7_leastPulledUp 1 = .ok (.ifCond .gt 23, 3) := by decide +kernel
theorem dX7_leastPulledUp_4 : decode cX7_leastPulledUp 4 = .ok (.iload_n 0, 1) := by decide +kernel
theorem dX7_leastPulledUp_5 : decode cX7_leastPulledUp 5 = .ok (.sipush (-500), 3) := by decide +kernel
theorem dX7_leastPulledUp_8 : decode cX7_leastPulledUp 8 = .ok (.invokestatic 201, 3) := by decide +kernel
theorem dX7_leastPulledUp_11 : decode cX7_leastPulledUp 11 = .ok (.iload_n 1, 1) := by decide +kernel
theorem dX7_leastPulledUp_12 : decode cX7_leastPulledUp 12 = .ok (.if_icmp .lt 9, 3) := by decide +kernel
theorem dX7_leastPulledUp_15 : decode cX7_leastPulledUp 15 = .ok (.sipush (-500), 3) := by decide +kernel
theorem dX7_leastPulledUp_18 : decode cX7_leastPulledUp 18 = .ok (.goto 5, 3) := by decide +kernel
theorem dX7_leastPulledUp_21 : decode cX7_leastPulledUp 21 = .ok (.ldc 164, 2) := by decide +kernel
theorem dX7_leastPulledUp_23 : decode cX7_leastPulledUp 23 = .ok (.ireturn, 1) := by decide +kernel
theorem dX7_leastPulledUp_24 : decode cX7_leastPulledUp 24 = .ok (.sipush 200, 3) := by decide +kernel
theorem dX7_leastPulledUp_27 : decode cX7_leastPulledUp 27 = .ok (.iload_n 1, 1) := by decide +kernel
theorem dX7_leastPulledUp_28 : decode cX7_leastPulledUp 28 = .ok (.ineg, 1) := by decide +kernel
theorem dX7_leastPulledUp_29 : decode cX7_leastPulledUp 29 = .ok (.iload_n 0, 1) := by decide +kernel
theorem dX7_leastPulledUp_30 : decode cX7_leastPulledUp 30 = .ok (.invokestatic 263, 3) := by decide +kernel
theorem dX7_leastPulledUp_33 : decode cX7_leastPulledUp 33 = .ok (.isub, 1) := by decide +kernel
theorem dX7_leastPulledUp_34 : decode cX7_leastPulledUp 34 = .ok (.istore_n 2, 1) := by decide +kernel
theorem dX7_leastPulledUp_35 : decode cX7_leastPulledUp 35 = .ok (.iload_n 2, 1) := by decide +kernel
theorem dX7_leastPulledUp_36 : decode cX7_leastPulledUp 36 = .ok (.sipush 1500, 3) := by decide +kernel
theorem dX7_leastPulledUp_39 : decode cX7_leastPulledUp 39 = .ok (.if_icmp .le 8, 3) := by decide +kernel
theorem dX7_leastPulledUp_42 : decode cX7_leastPulledUp 42 = .ok (.ldc 164, 2) := by decide +kernel
theorem dX7_leastPulledUp_44 : decode cX7_leastPulledUp 44 = .ok (.goto 10, 3) := by decide +kernel
theorem dX7_leastPulledUp_47 : decode cX7_leastPulledUp 47 = .ok (.iload_n 2, 1) := by decide +kernel
theorem dX7_leastPulledUp_48 : decode cX7_leastPulledUp 48 = .ok (.sipush (-500), 3) := by decide +kernel
theorem dX7_leastPulledUp_51 : decode cX7_leastPulledUp 51 = .ok (.invokestatic 268, 3) := by decide +kernel
theorem dX7_leastPulledUp_54 : decode cX7_leastPulledUp 54 = .ok (.ireturn, 1) := by decide +kernel
theorem dX7_greatestPulledBack_0 : decode cX7_greatestPulledBack 0 = .ok (.iload_n 0, 1) := by decide +kernel
theorem dX7_greatestPulledBack_1 : decode cX7_greatestPulledBack 1 = .ok (.ifCond .gt 23, 3) := by decide +kernel
theorem dX7_greatestPulledBack_4 : decode cX7_greatestPulledBack 4 = .ok (.iload_n 0, 1) := by decide +kernel
theorem dX7_greatestPulledBack_5 : decode cX7_greatestPulledBack 5 = .ok (.sipush 1500, 3) := by decide +kernel
theorem dX7_greatestPulledBack_8 : decode cX7_greatestPulledBack 8 = .ok (.invokestatic 201, 3) := by decide +kernel
theorem dX7_greatestPulledBack_11 : decode cX7_greatestPulledBack 11 = .ok (.iload_n 1, 1) := by decide +kernel
theorem dX7_greatestPulledBack_12 : decode cX7_greatestPulledBack 12 = .ok (.if_icmp .gt 9, 3) := by decide +kernel
theorem dX7_greatestPulledBack_15 : decode cX7_greatestPulledBack 15 = .ok (.sipush 1500, 3) := by decide +kernel
theorem dX7_greatestPulledBack_18 : decode cX7_greatestPulledBack 18 = .ok (.goto 5, 3) := by decide +kernel
theorem dX7_greatestPulledBack_21 : decode cX7_greatestPulledBack 21 = .ok (.ldc 164, 2) := by decide +kernel
theorem dX7_greatestPulledBack_23 : decode cX7_greatestPulledBack 23 = .ok (.ireturn, 1) := by decide +kernel
theorem dX7_greatestPulledBack_24 : decode cX7_greatestPulledBack 24 = .ok (.sipush 200, 3) := by decide +kernel
theorem dX7_greatestPulledBack_27 : decode cX7_greatestPulledBack 27 = .ok (.iload_n 1, 1) := by decide +kernel
theorem dX7_greatestPulledBack_28 : decode cX7_greatestPulledBack 28 = .ok (.iload_n 0, 1) := by decide +kernel
theorem dX7_greatestPulledBack_29 : decode cX7_greatestPulledBack 29 = .ok (.invokestatic 263, 3) := by decide +kernel
theorem dX7_greatestPulledBack_32 : decode cX7_greatestPulledBack 32 = .ok (.iadd, 1) := by decide +kernel
theorem dX7_greatestPulledBack_33 : decode cX7_greatestPulledBack 33 = .ok (.istore_n 2, 1) := by decide +kernel
theorem dX7_greatestPulledBack_34 : decode cX7_greatestPulledBack 34 = .ok (.iload_n 2, 1) := by decide +kernel
theorem dX7_greatestPulledBack_35 : decode cX7_greatestPulledBack 35 = .ok (.sipush (-500), 3) := by decide +kernel
theorem dX7_greatestPulledBack_38 : decode cX7_greatestPulledBack 38 = .ok (.if_icmp .ge 8, 3) := by decide +kernel
theorem dX7_greatestPulledBack_41 : decode cX7_greatestPulledBack 41 = .ok (.ldc 164, 2) := by decide +kernel
theorem dX7_greatestPulledBack_43 : decode cX7_greatestPulledBack 43 = .ok (.goto 10, 3) := by decide +kernel
theorem dX7_greatestPulledBack_46 : decode cX7_greatestPulledBack 46 = .ok (.iload_n 2, 1) := by decide +kernel
theorem dX7_greatestPulledBack_47 : decode cX7_greatestPulledBack 47 = .ok (.sipush 1500, 3) := by decide +kernel
theorem dX7_greatestPulledBack_50 : decode cX7_greatestPulledBack 50 = .ok (.invokestatic 271, 3) := by decide +kernel
theorem dX7_greatestPulledBack_53 : decode cX7_greatestPulledBack 53 = .ok (.ireturn, 1) := by decide +kernel
theorem dJ9_floorDiv_7cf53_0 : decode cJ9_floorDiv_7cf53 0 = .ok (.iload_n 0, 1) := by decide +kernel
theorem dJ9_floorDiv_7cf53_1 : decode cJ9_floorDiv_7cf53 1 = .ok (.iload_n 1, 1) := by decide +kernel
theorem dJ9_floorDiv_7cf53_2 : decode cJ9_floorDiv_7cf53 2 = .ok (.idiv, 1) := by decide +kernel
theorem dJ9_floorDiv_7cf53_3 : decode cJ9_floorDiv_7cf53 3 = .ok (.istore_n 2, 1) := by decide +kernel
theorem dJ9_floorDiv_7cf53_4 : decode cJ9_floorDiv_7cf53 4 = .ok (.iload_n 0, 1) := by decide +kernel
theorem dJ9_floorDiv_7cf53_5 : decode cJ9_floorDiv_7cf53 5 = .ok (.iload_n 1, 1) := by decide +kernel
theorem dJ9_floorDiv_7cf53_6 : decode cJ9_floorDiv_7cf53 6 = .ok (.ixor, 1) := by decide +kernel
theorem dJ9_floorDiv_7cf53_7 : decode cJ9_floorDiv_7cf53 7 = .ok (.ifCond .ge 14, 3) := by decide +kernel
theorem dJ9_floorDiv_7cf53_10 : decode cJ9_floorDiv_7cf53 10 = .ok (.iload_n 2, 1) := by decide +kernel
theorem dJ9_floorDiv_7cf53_11 : decode cJ9_floorDiv_7cf53 11 = .ok (.iload_n 1, 1) := by decide +kernel
theorem dJ9_floorDiv_7cf53_12 : decode cJ9_floorDiv_7cf53 12 = .ok (.imul, 1) := by decide +kernel
theorem dJ9_floorDiv_7cf53_13 : decode cJ9_floorDiv_7cf53 13 = .ok (.iload_n 0, 1) := by decide +kernel
theorem dJ9_floorDiv_7cf53_14 : decode cJ9_floorDiv_7cf53 14 = .ok (.if_icmp .eq 7, 3) := by decide +kernel
theorem dJ9_floorDiv_7cf53_17 : decode cJ9_floorDiv_7cf53 17 = .ok (.iload_n 2, 1) := by decide +kernel
theorem dJ9_floorDiv_7cf53_18 : decode cJ9_floorDiv_7cf53 18 = .ok (.iconst 1, 1) := by decide +kernel
theorem dJ9_floorDiv_7cf53_19 : decode cJ9_floorDiv_7cf53 19 = .ok (.isub, 1) := by decide +kernel
theorem dJ9_floorDiv_7cf53_20 : decode cJ9_floorDiv_7cf53 20 = .ok (.ireturn, 1) := by decide +kernel
theorem dJ9_floorDiv_7cf53_21 : decode cJ9_floorDiv_7cf53 21 = .ok (.iload_n 2, 1) := by decide +kernel
theorem dJ9_floorDiv_7cf53_22 : decode cJ9_floorDiv_7cf53 22 = .ok (.ireturn, 1) := by decide +kernel
theorem dJ9_max_7cf53_0 : decode cJ9_max_7cf53 0 = .ok (.iload_n 0, 1) := by decide +kernel
theorem dJ9_max_7cf53_1 : decode cJ9_max_7cf53 1 = .ok (.iload_n 1, 1) := by decide +kernel
theorem dJ9_max_7cf53_2 : decode cJ9_max_7cf53 2 = .ok (.if_icmp .lt 7, 3) := by decide +kernel
theorem dJ9_max_7cf53_5 : decode cJ9_max_7cf53 5 = .ok (.iload_n 0, 1) := by decide +kernel
theorem dJ9_max_7cf53_6 : decode cJ9_max_7cf53 6 = .ok (.goto 4, 3) := by decide +kernel
theorem dJ9_max_7cf53_9 : decode cJ9_max_7cf53 9 = .ok (.iload_n 1, 1) := by decide +kernel
theorem dJ9_max_7cf53_10 : decode cJ9_max_7cf53 10 = .ok (.ireturn, 1) := by decide +kernel
theorem dJ9_min_7cf53_0 : decode cJ9_min_7cf53 0 = .ok (.iload_n 0, 1) := by decide +kernel
theorem dJ9_min_7cf53_1 : decode cJ9_min_7cf53 1 = .ok (.iload_n 1, 1) := by decide +kernel
theorem dJ9_min_7cf53_2 : decode cJ9_min_7cf53 2 = .ok (.if_icmp .gt 7, 3) := by decide +kernel
theorem dJ9_min_7cf53_5 : decode cJ9_min_7cf53 5 = .ok (.iload_n 0, 1) := by decide +kernel
theorem dJ9_min_7cf53_6 : decode cJ9_min_7cf53 6 = .ok (.goto 4, 3) := by decide +kernel
theorem dJ9_min_7cf53_9 : decode cJ9_min_7cf53 9 = .ok (.iload_n 1, 1) := by decide +kernel
theorem dJ9_min_7cf53_10 : decode cJ9_min_7cf53 10 = .ok (.ireturn, 1) := by decide +kernel
theorem dJ7_fill_53178_0 : decode cJ7_fill_53178 0 = .ok (.iconst 0, 1) := by decide +kernel
theorem dJ7_fill_53178_1 : decode cJ7_fill_53178 1 = .ok (.istore_n 2, 1) := by decide +kernel
theorem dJ7_fill_53178_2 : decode cJ7_fill_53178 2 = .ok (.aload_n 0, 1) := by decide +kernel
theorem dJ7_fill_53178_3 : decode cJ7_fill_53178 3 = .ok (.arraylength, 1) := by decide +kernel
theorem dJ7_fill_53178_4 : decode cJ7_fill_53178 4 = .ok (.istore_n 3, 1) := by decide +kernel
theorem dJ7_fill_53178_5 : decode cJ7_fill_53178 5 = .ok (.iload_n 2, 1) := by decide +kernel
theorem dJ7_fill_53178_6 : decode cJ7_fill_53178 6 = .ok (.iload_n 3, 1) := by decide +kernel
theorem dJ7_fill_53178_7 : decode cJ7_fill_53178 7 = .ok (.if_icmp .ge 13, 3) := by decide +kernel
theorem dJ7_fill_53178_10 : decode cJ7_fill_53178 10 = .ok (.aload_n 0, 1) := by decide +kernel
theorem dJ7_fill_53178_11 : decode cJ7_fill_53178 11 = .ok (.iload_n 2, 1) := by decide +kernel
theorem dJ7_fill_53178_12 : decode cJ7_fill_53178 12 = .ok (.iload_n 1, 1) := by decide +kernel
theorem dJ7_fill_53178_13 : decode cJ7_fill_53178 13 = .ok (.iastore, 1) := by decide +kernel
theorem dJ7_fill_53178_14 : decode cJ7_fill_53178 14 = .ok (.iinc 2 1, 3) := by decide +kernel
theorem dJ7_fill_53178_17 : decode cJ7_fill_53178 17 = .ok (.goto (-12), 3) := by decide +kernel
theorem dJ7_fill_53178_20 : decode cJ7_fill_53178 20 = .ok (.return_, 1) := by decide +kernel
theorem dL_lot_0 : decode cL_lot 0 = .ok (.iload_n 1, 1) := by decide +kernel
theorem dL_lot_1 : decode cL_lot 1 = .ok (.aload_n 0, 1) := by decide +kernel
theorem dL_lot_2 : decode cL_lot 2 = .ok (.arraylength, 1) := by decide +kernel
theorem dL_lot_3 : decode cL_lot 3 = .ok (.if_icmp .ge 9, 3) := by decide +kernel
theorem dL_lot_6 : decode cL_lot 6 = .ok (.aload_n 0, 1) := by decide +kernel
theorem dL_lot_7 : decode cL_lot 7 = .ok (.iload_n 1, 1) := by decide +kernel
theorem dL_lot_8 : decode cL_lot 8 = .ok (.iaload, 1) := by decide +kernel
theorem dL_lot_9 : decode cL_lot 9 = .ok (.goto 15, 3) := by decide +kernel
theorem dL_lot_12 : decode cL_lot 12 = .ok (.ldc 7, 2) := by decide +kernel
theorem dL_lot_14 : decode cL_lot 14 = .ok (.iload_n 1, 1) := by decide +kernel
theorem dL_lot_15 : decode cL_lot 15 = .ok (.sipush 2909, 3) := by decide +kernel
theorem dL_lot_18 : decode cL_lot 18 = .ok (.iadd, 1) := by decide +kernel
theorem dL_lot_19 : decode cL_lot 19 = .ok (.imul, 1) := by decide +kernel
theorem dL_lot_20 : decode cL_lot 20 = .ok (.sipush 2699, 3) := by decide +kernel
theorem dL_lot_23 : decode cL_lot 23 = .ok (.iadd, 1) := by decide +kernel
theorem dL_lot_24 : decode cL_lot 24 = .ok (.ireturn, 1) := by decide +kernel
theorem dL_low_0 : decode cL_low 0 = .ok (.iload_n 0, 1) := by decide +kernel
theorem dL_low_1 : decode cL_low 1 = .ok (.ldc 8, 2) := by decide +kernel
theorem dL_low_3 : decode cL_low 3 = .ok (.iand, 1) := by decide +kernel
theorem dL_low_4 : decode cL_low 4 = .ok (.iload_n 1, 1) := by decide +kernel
theorem dL_low_5 : decode cL_low 5 = .ok (.irem, 1) := by decide +kernel
theorem dL_low_6 : decode cL_low 6 = .ok (.ireturn, 1) := by decide +kernel
theorem dL_digest_0 : decode cL_digest 0 = .ok (.ldc2_w 9, 3) := by decide +kernel
theorem dL_digest_3 : decode cL_digest 3 = .ok (.lstore_n 1, 1) := by decide +kernel
theorem dL_digest_4 : decode cL_digest 4 = .ok (.iconst 0, 1) := by decide +kernel
theorem dL_digest_5 : decode cL_digest 5 = .ok (.istore_n 3, 1) := by decide +kernel
theorem dL_digest_6 : decode cL_digest 6 = .ok (.iload_n 3, 1) := by decide +kernel
theorem dL_digest_7 : decode cL_digest 7 = .ok (.bipush 16, 2) := by decide +kernel
theorem dL_digest_9 : decode cL_digest 9 = .ok (.if_icmp .ge 36, 3) := by decide +kernel
theorem dL_digest_12 : decode cL_digest 12 = .ok (.ldc2_w 11, 3) := by decide +kernel
theorem dL_digest_15 : decode cL_digest 15 = .ok (.lload_n 1, 1) := by decide +kernel
theorem dL_digest_16 : decode cL_digest 16 = .ok (.lmul, 1) := by decide +kernel
theorem dL_digest_17 : decode cL_digest 17 = .ok (.iload_n 3, 1) := by decide +kernel
theorem dL_digest_18 : decode cL_digest 18 = .ok (.iconst 3, 1) := by decide +kernel
theorem dL_digest_19 : decode cL_digest 19 = .ok (.if_icmp .eq 8, 3) := by decide +kernel
theorem dL_digest_22 : decode cL_digest 22 = .ok (.iload_n 3, 1) := by decide +kernel
theorem dL_digest_23 : decode cL_digest 23 = .ok (.iconst 4, 1) := by decide +kernel
theorem dL_digest_24 : decode cL_digest 24 = .ok (.if_icmp .ne 7, 3) := by decide +kernel
theorem dL_digest_27 : decode cL_digest 27 = .ok (.iconst 0, 1) := by decide +kernel
theorem dL_digest_28 : decode cL_digest 28 = .ok (.goto 8, 3) := by decide +kernel
theorem dL_digest_31 : decode cL_digest 31 = .ok (.aload_n 0, 1) := by decide +kernel
theorem dL_digest_32 : decode cL_digest 32 = .ok (.iload_n 3, 1) := by decide +kernel
theorem dL_digest_33 : decode cL_digest 33 = .ok (.invokevirtual 13, 3) := by decide +kernel
theorem dL_digest_36 : decode cL_digest 36 = .ok (.i2l, 1) := by decide +kernel
theorem dL_digest_37 : decode cL_digest 37 = .ok (.ladd, 1) := by decide +kernel
theorem dL_digest_38 : decode cL_digest 38 = .ok (.lstore_n 1, 1) := by decide +kernel
theorem dL_digest_39 : decode cL_digest 39 = .ok (.iinc 3 1, 3) := by decide +kernel
theorem dL_digest_42 : decode cL_digest 42 = .ok (.goto (-36), 3) := by decide +kernel
theorem dL_digest_45 : decode cL_digest 45 = .ok (.iconst 0, 1) := by decide +kernel
theorem dL_digest_46 : decode cL_digest 46 = .ok (.istore_n 3, 1) := by decide +kernel
theorem dL_digest_47 : decode cL_digest 47 = .ok (.iload_n 3, 1) := by decide +kernel
theorem dL_digest_48 : decode cL_digest 48 = .ok (.bipush 36, 2) := by decide +kernel
theorem dL_digest_50 : decode cL_digest 50 = .ok (.if_icmp .ge 29, 3) := by decide +kernel
theorem dL_digest_53 : decode cL_digest 53 = .ok (.ldc2_w 11, 3) := by decide +kernel
theorem dL_digest_56 : decode cL_digest 56 = .ok (.lload_n 1, 1) := by decide +kernel
theorem dL_digest_57 : decode cL_digest 57 = .ok (.lmul, 1) := by decide +kernel
theorem dL_digest_58 : decode cL_digest 58 = .ok (.aload_n 0, 1) := by decide +kernel
theorem dL_digest_59 : decode cL_digest 59 = .ok (.iload_n 3, 1) := by decide +kernel
theorem dL_digest_60 : decode cL_digest 60 = .ok (.bipush 12, 2) := by decide +kernel
theorem dL_digest_62 : decode cL_digest 62 = .ok (.idiv, 1) := by decide +kernel
theorem dL_digest_63 : decode cL_digest 63 = .ok (.iload_n 3, 1) := by decide +kernel
theorem dL_digest_64 : decode cL_digest 64 = .ok (.bipush 12, 2) := by decide +kernel
theorem dL_digest_66 : decode cL_digest 66 = .ok (.irem, 1) := by decide +kernel
theorem dL_digest_67 : decode cL_digest 67 = .ok (.invokevirtual 19, 3) := by decide +kernel
theorem dL_digest_70 : decode cL_digest 70 = .ok (.i2l, 1) := by decide +kernel
theorem dL_digest_71 : decode cL_digest 71 = .ok (.ladd, 1) := by decide +kernel
theorem dL_digest_72 : decode cL_digest 72 = .ok (.lstore_n 1, 1) := by decide +kernel
theorem dL_digest_73 : decode cL_digest 73 = .ok (.iinc 3 1, 3) := by decide +kernel
theorem dL_digest_76 : decode cL_digest 76 = .ok (.goto (-29), 3) := by decide +kernel
theorem dL_digest_79 : decode cL_digest 79 = .ok (.iconst 0, 1) := by decide +kernel
theorem dL_digest_80 : decode cL_digest 80 = .ok (.istore_n 3, 1) := by decide +kernel
theorem dL_digest_81 : decode cL_digest 81 = .ok (.iload_n 3, 1) := by decide +kernel
theorem dL_digest_82 : decode cL_digest 82 = .ok (.bipush 21, 2) := by decide +kernel
theorem dL_digest_84 : decode cL_digest 84 = .ok (.if_icmp .ge 29, 3) := by decide +kernel
theorem dL_digest_87 : decode cL_digest 87 = .ok (.ldc2_w 11, 3) := by decide +kernel
theorem dL_digest_90 : decode cL_digest 90 = .ok (.lload_n 1, 1) := by decide +kernel
theorem dL_digest_91 : decode cL_digest 91 = .ok (.lmul, 1) := by decide +kernel
theorem dL_digest_92 : decode cL_digest 92 = .ok (.aload_n 0, 1) := by decide +kernel
theorem dL_digest_93 : decode cL_digest 93 = .ok (.iload_n 3, 1) := by decide +kernel
theorem dL_digest_94 : decode cL_digest 94 = .ok (.bipush 7, 2) := by decide +kernel
theorem dL_digest_96 : decode cL_digest 96 = .ok (.idiv, 1) := by decide +kernel
theorem dL_digest_97 : decode cL_digest 97 = .ok (.iload_n 3, 1) := by decide +kernel
theorem dL_digest_98 : decode cL_digest 98 = .ok (.bipush 7, 2) := by decide +kernel
theorem dL_digest_100 : decode cL_digest 100 = .ok (.irem, 1) := by decide +kernel
theorem dL_digest_101 : decode cL_digest 101 = .ok (.invokevirtual 23, 3) := by decide +kernel
theorem dL_digest_104 : decode cL_digest 104 = .ok (.i2l, 1) := by decide +kernel
theorem dL_digest_105 : decode cL_digest 105 = .ok (.ladd, 1) := by decide +kernel
theorem dL_digest_106 : decode cL_digest 106 = .ok (.lstore_n 1, 1) := by decide +kernel
theorem dL_digest_107 : decode cL_digest 107 = .ok (.iinc 3 1, 3) := by decide +kernel
theorem dL_digest_110 : decode cL_digest 110 = .ok (.goto (-29), 3) := by decide +kernel
theorem dL_digest_113 : decode cL_digest 113 = .ok (.iconst 0, 1) := by decide +kernel
theorem dL_digest_114 : decode cL_digest 114 = .ok (.istore_n 3, 1) := by decide +kernel
theorem dL_digest_115 : decode cL_digest 115 = .ok (.iload_n 3, 1) := by decide +kernel
theorem dL_digest_116 : decode cL_digest 116 = .ok (.bipush 72, 2) := by decide +kernel
theorem dL_digest_118 : decode cL_digest 118 = .ok (.if_icmp .ge 34, 3) := by decide +kernel
theorem dL_digest_121 : decode cL_digest 121 = .ok (.ldc2_w 11, 3) := by decide +kernel
theorem dL_digest_124 : decode cL_digest 124 = .ok (.lload_n 1, 1) := by decide +kernel
theorem dL_digest_125 : decode cL_digest 125 = .ok (.lmul, 1) := by decide +kernel
theorem dL_digest_126 : decode cL_digest 126 = .ok (.aload_n 0, 1) := by decide +kernel
theorem dL_digest_127 : decode cL_digest 127 = .ok (.iload_n 3, 1) := by decide +kernel
theorem dL_digest_128 : decode cL_digest 128 = .ok (.bipush 24, 2) := by decide +kernel
theorem dL_digest_130 : decode cL_digest 130 = .ok (.idiv, 1) := by decide +kernel
theorem dL_digest_131 : decode cL_digest 131 = .ok (.iload_n 3, 1) := by decide +kernel
theorem dL_digest_132 : decode cL_digest 132 = .ok (.iconst 3, 1) := by decide +kernel
theorem dL_digest_133 : decode cL_digest 133 = .ok (.idiv, 1) := by decide +kernel
theorem dL_digest_134 : decode cL_digest 134 = .ok (.bipush 8, 2) := by decide +kernel
theorem dL_digest_136 : decode cL_digest 136 = .ok (.irem, 1) := by decide +kernel
theorem dL_digest_137 : decode cL_digest 137 = .ok (.iload_n 3, 1) := by decide +kernel
theorem dL_digest_138 : decode cL_digest 138 = .ok (.iconst 3, 1) := by decide +kernel
theorem dL_digest_139 : decode cL_digest 139 = .ok (.irem, 1) := by decide +kernel
theorem dL_digest_140 : decode cL_digest 140 = .ok (.invokevirtual 26, 3) := by decide +kernel
theorem dL_digest_143 : decode cL_digest 143 = .ok (.i2l, 1) := by decide +kernel
theorem dL_digest_144 : decode cL_digest 144 = .ok (.ladd, 1) := by decide +kernel
theorem dL_digest_145 : decode cL_digest 145 = .ok (.lstore_n 1, 1) := by decide +kernel
theorem dL_digest_146 : decode cL_digest 146 = .ok (.iinc 3 1, 3) := by decide +kernel
theorem dL_digest_149 : decode cL_digest 149 = .ok (.goto (-34), 3) := by decide +kernel
theorem dL_digest_152 : decode cL_digest 152 = .ok (.lload_n 1, 1) := by decide +kernel
theorem dL_digest_153 : decode cL_digest 153 = .ok (.lreturn, 1) := by decide +kernel
theorem dL_holds_0 : decode cL_holds 0 = .ok (.iconst 0, 1) := by decide +kernel
theorem dL_holds_1 : decode cL_holds 1 = .ok (.istore_n 2, 1) := by decide +kernel
theorem dL_holds_2 : decode cL_holds 2 = .ok (.iconst 0, 1) := by decide +kernel
theorem dL_holds_3 : decode cL_holds 3 = .ok (.istore_n 3, 1) := by decide +kernel
theorem dL_holds_4 : decode cL_holds 4 = .ok (.iload_n 3, 1) := by decide +kernel
theorem dL_holds_5 : decode cL_holds 5 = .ok (.iconst 3, 1) := by decide +kernel
theorem dL_holds_6 : decode cL_holds 6 = .ok (.if_icmp .ge 436, 3) := by decide +kernel
theorem dL_holds_9 : decode cL_holds 9 = .ok (.iconst 0, 1) := by decide +kernel
theorem dL_holds_10 : decode cL_holds 10 = .ok (.istore 4, 2) := by decide +kernel
theorem dL_holds_12 : decode cL_holds 12 = .ok (.iconst 0, 1) := by decide +kernel
theorem dL_holds_13 : decode cL_holds 13 = .ok (.istore 5, 2) := by decide +kernel
theorem dL_holds_15 : decode cL_holds 15 = .ok (.aload_n 0, 1) := by decide +kernel
theorem dL_holds_16 : decode cL_holds 16 = .ok (.iload_n 3, 1) := by decide +kernel
theorem dL_holds_17 : decode cL_holds 17 = .ok (.iconst 0, 1) := by decide +kernel
theorem dL_holds_18 : decode cL_holds 18 = .ok (.invokevirtual 23, 3) := by decide +kernel
theorem dL_holds_21 : decode cL_holds 21 = .ok (.istore 6, 2) := by decide +kernel
theorem dL_holds_23 : decode cL_holds 23 = .ok (.iconst 0, 1) := by decide +kernel
theorem dL_holds_24 : decode cL_holds 24 = .ok (.istore 7, 2) := by decide +kernel
theorem dL_holds_26 : decode cL_holds 26 = .ok (.iload 7, 2) := by decide +kernel
theorem dL_holds_28 : decode cL_holds 28 = .ok (.aload_n 0, 1) := by decide +kernel
theorem dL_holds_29 : decode cL_holds 29 = .ok (.iload_n 3, 1) := by decide +kernel
theorem dL_holds_30 : decode cL_holds 30 = .ok (.iconst 0, 1) := by decide +kernel
theorem dL_holds_31 : decode cL_holds 31 = .ok (.invokevirtual 19, 3) := by decide +kernel
theorem dL_holds_34 : decode cL_holds 34 = .ok (.if_icmp .ge 88, 3) := by decide +kernel
theorem dL_holds_37 : decode cL_holds 37 = .ok (.iload 4, 2) := by decide +kernel
theorem dL_holds_39 : decode cL_holds 39 = .ok (.aload_n 0, 1) := by decide +kernel
theorem dL_holds_40 : decode cL_holds 40 = .ok (.iload_n 3, 1) := by decide +kernel
theorem dL_holds_41 : decode cL_holds 41 = .ok (.iload 7, 2) := by decide +kernel
theorem dL_holds_43 : decode cL_holds 43 = .ok (.iconst 0, 1) := by decide +kernel
theorem dL_holds_44 : decode cL_holds 44 = .ok (.invokevirtual 26, 3) := by decide +kernel
theorem dL_holds_47 : decode cL_holds 47 = .ok (.iadd, 1) := by decide +kernel
theorem dL_holds_48 : decode cL_holds 48 = .ok (.istore 4, 2) := by decide +kernel
theorem dL_holds_50 : decode cL_holds 50 = .ok (.iload 5, 2) := by decide +kernel
theorem dL_holds_52 : decode cL_holds 52 = .ok (.aload_n 0, 1) := by decide +kernel
theorem dL_holds_53 : decode cL_holds 53 = .ok (.iload_n 3, 1) := by decide +kernel
theorem dL_holds_54 : decode cL_holds 54 = .ok (.iload 7, 2) := by decide +kernel
theorem dL_holds_56 : decode cL_holds 56 = .ok (.iconst 3, 1) := by decide +kernel
theorem dL_holds_57 : decode cL_holds 57 = .ok (.invokevirtual 26, 3) := by decide +kernel
theorem dL_holds_60 : decode cL_holds 60 = .ok (.iadd, 1) := by decide +kernel
theorem dL_holds_61 : decode cL_holds 61 = .ok (.istore 5, 2) := by decide +kernel
theorem dL_holds_63 : decode cL_holds 63 = .ok (.aload_n 0, 1) := by decide +kernel
theorem dL_holds_64 : decode cL_holds 64 = .ok (.iload_n 3, 1) := by decide +kernel
theorem dL_holds_65 : decode cL_holds 65 = .ok (.iload 7, 2) := by decide +kernel
theorem dL_holds_67 : decode cL_holds 67 = .ok (.iconst 3, 1) := by decide +kernel
theorem dL_holds_68 : decode cL_holds 68 = .ok (.invokevirtual 26, 3) := by decide +kernel
theorem dL_holds_71 : decode cL_holds 71 = .ok (.aload_n 0, 1) := by decide +kernel
theorem dL_holds_72 : decode cL_holds 72 = .ok (.iload_n 3, 1) := by decide +kernel
theorem dL_holds_73 : decode cL_holds 73 = .ok (.iload 7, 2) := by decide +kernel
theorem dL_holds_75 : decode cL_holds 75 = .ok (.iconst 0, 1) := by decide +kernel
theorem dL_holds_76 : decode cL_holds 76 = .ok (.invokevirtual 26, 3) := by decide +kernel
theorem dL_holds_79 : decode cL_holds 79 = .ok (.aload_n 0, 1) := by decide +kernel
theorem dL_holds_80 : decode cL_holds 80 = .ok (.bipush 10, 2) := by decide +kernel
theorem dL_holds_82 : decode cL_holds 82 = .ok (.aload_n 0, 1) := by decide +kernel
theorem dL_holds_83 : decode cL_holds 83 = .ok (.iload_n 3, 1) := by decide +kernel
theorem dL_holds_84 : decode cL_holds 84 = .ok (.iload 7, 2) := by decide +kernel
theorem dL_holds_86 : decode cL_holds 86 = .ok (.iconst 1, 1) := by decide +kernel
theorem dL_holds_87 : decode cL_holds 87 = .ok (.invokevirtual 26, 3) := by decide +kernel
theorem dL_holds_90 : decode cL_holds 90 = .ok (.iadd, 1) := by decide +kernel
theorem dL_holds_91 : decode cL_holds 91 = .ok (.invokevirtual 13, 3) := by decide +kernel
theorem dL_holds_94 : decode cL_holds 94 = .ok (.aload_n 0, 1) := by decide +kernel
theorem dL_holds_95 : decode cL_holds 95 = .ok (.bipush 10, 2) := by decide +kernel
theorem dL_holds_97 : decode cL_holds 97 = .ok (.aload_n 0, 1) := by decide +kernel
theorem dL_holds_98 : decode cL_holds 98 = .ok (.iload_n 3, 1) := by decide +kernel
theorem dL_holds_99 : decode cL_holds 99 = .ok (.iload 7, 2) := by decide +kernel
theorem dL_holds_101 : decode cL_holds 101 = .ok (.iconst 2, 1) := by decide +kernel
theorem dL_holds_102 : decode cL_holds 102 = .ok (.invokevirtual 26, 3) := by decide +kernel
theorem dL_holds_105 : decode cL_holds 105 = .ok (.iadd, 1) := by decide +kernel
theorem dL_holds_106 : decode cL_holds 106 = .ok (.invokevirtual 13, 3) := by decide +kernel
theorem dL_holds_109 : decode cL_holds 109 = .ok (.isub, 1) := by decide +kernel
theorem dL_holds_110 : decode cL_holds 110 = .ok (.imul, 1) := by decide +kernel
theorem dL_holds_111 : decode cL_holds 111 = .ok (.if_icmp .eq 5, 3) := by decide +kernel
theorem dL_holds_114 : decode cL_holds 114 = .ok (.iconst 0, 1) := by decide +kernel
theorem dL_holds_115 : decode cL_holds 115 = .ok (.ireturn, 1) := by decide +kernel
theorem dL_holds_116 : decode cL_holds 116 = .ok (.iinc 7 1, 3) := by decide +kernel
theorem dL_holds_119 : decode cL_holds 119 = .ok (.goto (-93), 3) := by decide +kernel
theorem dL_holds_122 : decode cL_holds 122 = .ok (.iload_n 2, 1) := by decide +kernel
theorem dL_holds_123 : decode cL_holds 123 = .ok (.aload_n 0, 1) := by decide +kernel
theorem dL_holds_124 : decode cL_holds 124 = .ok (.iload_n 3, 1) := by decide +kernel
theorem dL_holds_125 : decode cL_holds 125 = .ok (.bipush 9, 2) := by decide +kernel
theorem dL_holds_127 : decode cL_holds 127 = .ok (.invokevirtual 19, 3) := by decide +kernel
theorem dL_holds_130 : decode cL_holds 130 = .ok (.iadd, 1) := by decide +kernel
theorem dL_holds_131 : decode cL_holds 131 = .ok (.istore_n 2, 1) := by decide +kernel
theorem dL_holds_132 : decode cL_holds 132 = .ok (.iload_n 1, 1) := by decide +kernel
theorem dL_holds_133 : decode cL_holds 133 = .ok (.iload_n 3, 1) := by decide +kernel
theorem dL_holds_134 : decode cL_holds 134 = .ok (.ishr, 1) := by decide +kernel
theorem dL_holds_135 : decode cL_holds 135 = .ok (.iconst 2, 1) := by decide +kernel
theorem dL_holds_136 : decode cL_holds 136 = .ok (.invokestatic 30, 3) := by decide +kernel
theorem dL_holds_139 : decode cL_holds 139 = .ok (.istore 7, 2) := by decide +kernel
theorem dL_holds_141 : decode cL_holds 141 = .ok (.aload_n 0, 1) := by decide +kernel
theorem dL_holds_142 : decode cL_holds 142 = .ok (.iload_n 3, 1) := by decide +kernel
theorem dL_holds_143 : decode cL_holds 143 = .ok (.iload 7, 2) := by decide +kernel
theorem dL_holds_145 : decode cL_holds 145 = .ok (.invokevirtual 35, 3) := by decide +kernel
theorem dL_holds_148 : decode cL_holds 148 = .ok (.istore 8, 2) := by decide +kernel
theorem dL_holds_150 : decode cL_holds 150 = .ok (.iload 8, 2) := by decide +kernel
theorem dL_holds_152 : decode cL_holds 152 = .ok (.ldc 38, 2) := by decide +kernel
theorem dL_holds_154 : decode cL_holds 154 = .ok (.if_icmp .ne 7, 3) := by decide +kernel
theorem dL_holds_157 : decode cL_holds 157 = .ok (.iconst 0, 1) := by decide +kernel
theorem dL_holds_158 : decode cL_holds 158 = .ok (.goto 10, 3) := by decide +kernel
theorem dL_holds_161 : decode cL_holds 161 = .ok (.aload_n 0, 1) := by decide +kernel
theorem dL_holds_162 : decode cL_holds 162 = .ok (.iload_n 3, 1) := by decide +kernel
theorem dL_holds_163 : decode cL_holds 163 = .ok (.iload 8, 2) := by decide +kernel
theorem dL_holds_165 : decode cL_holds 165 = .ok (.invokevirtual 39, 3) := by decide +kernel
theorem dL_holds_168 : decode cL_holds 168 = .ok (.istore 9, 2) := by decide +kernel
theorem dL_holds_170 : decode cL_holds 170 = .ok (.iload 8, 2) := by decide +kernel
theorem dL_holds_172 : decode cL_holds 172 = .ok (.ldc 38, 2) := by decide +kernel
theorem dL_holds_174 : decode cL_holds 174 = .ok (.if_icmp .eq 33, 3) := by decide +kernel
theorem dL_holds_177 : decode cL_holds 177 = .ok (.iload 7, 2) := by decide +kernel
theorem dL_holds_179 : decode cL_holds 179 = .ok (.ifCond .ne 17, 3) := by decide +kernel
theorem dL_holds_182 : decode cL_holds 182 = .ok (.iload 9, 2) := by decide +kernel
theorem dL_holds_184 : decode cL_holds 184 = .ok (.aload_n 0, 1) := by decide +kernel
theorem dL_holds_185 : decode cL_holds 185 = .ok (.iload_n 3, 1) := by decide +kernel
theorem dL_holds_186 : decode cL_holds 186 = .ok (.iconst 5, 1) := by decide +kernel
theorem dL_holds_187 : decode cL_holds 187 = .ok (.invokevirtual 19, 3) := by decide +kernel
theorem dL_holds_190 : decode cL_holds 190 = .ok (.if_icmp .lt 21, 3) := by decide +kernel
theorem dL_holds_193 : decode cL_holds 193 = .ok (.goto 14, 3) := by decide +kernel
theorem dL_holds_196 : decode cL_holds 196 = .ok (.iload 9, 2) := by decide +kernel
theorem dL_holds_198 : decode cL_holds 198 = .ok (.aload_n 0, 1) := by decide +kernel
theorem dL_holds_199 : decode cL_holds 199 = .ok (.iload_n 3, 1) := by decide +kernel
theorem dL_holds_200 : decode cL_holds 200 = .ok (.iconst 4, 1) := by decide +kernel
theorem dL_holds_201 : decode cL_holds 201 = .ok (.invokevirtual 19, 3) := by decide +kernel
theorem dL_holds_204 : decode cL_holds 204 = .ok (.if_icmp .gt 7, 3) := by decide +kernel
theorem dL_holds_207 : decode cL_holds 207 = .ok (.iconst 1, 1) := by decide +kernel
theorem dL_holds_208 : decode cL_holds 208 = .ok (.goto 4, 3) := by decide +kernel
theorem dL_holds_211 : decode cL_holds 211 = .ok (.iconst 0, 1) := by decide +kernel
theorem dL_holds_212 : decode cL_holds 212 = .ok (.istore 10, 2) := by decide +kernel
theorem dL_holds_214 : decode cL_holds 214 = .ok (.aload_n 0, 1) := by decide +kernel
theorem dL_holds_215 : decode cL_holds 215 = .ok (.iload_n 3, 1) := by decide +kernel
theorem dL_holds_216 : decode cL_holds 216 = .ok (.iconst 1, 1) := by decide +kernel
theorem dL_holds_217 : decode cL_holds 217 = .ok (.invokevirtual 19, 3) := by decide +kernel
theorem dL_holds_220 : decode cL_holds 220 = .ok (.iload 4, 2) := by decide +kernel
theorem dL_holds_222 : decode cL_holds 222 = .ok (.if_icmp .ne 119, 3) := by decide +kernel
theorem dL_holds_225 : decode cL_holds 225 = .ok (.aload_n 0, 1) := by decide +kernel
theorem dL_holds_226 : decode cL_holds 226 = .ok (.iload_n 3, 1) := by decide +kernel
theorem dL_holds_227 : decode cL_holds 227 = .ok (.iconst 2, 1) := by decide +kernel
theorem dL_holds_228 : decode cL_holds 228 = .ok (.invokevirtual 19, 3) := by decide +kernel
theorem dL_holds_231 : decode cL_holds 231 = .ok (.iload 5, 2) := by decide +kernel
theorem dL_holds_233 : decode cL_holds 233 = .ok (.if_icmp .ne 108, 3) := by decide +kernel
theorem dL_holds_236 : decode cL_holds 236 = .ok (.aload_n 0, 1) := by decide +kernel
theorem dL_holds_237 : decode cL_holds 237 = .ok (.iload_n 3, 1) := by decide +kernel
theorem dL_holds_238 : decode cL_holds 238 = .ok (.iconst 3, 1) := by decide +kernel
theorem dL_holds_239 : decode cL_holds 239 = .ok (.invokevirtual 19, 3) := by decide +kernel
theorem dL_holds_242 : decode cL_holds 242 = .ok (.iload 5, 2) := by decide +kernel
theorem dL_holds_244 : decode cL_holds 244 = .ok (.iload 6, 2) := by decide +kernel
theorem dL_holds_246 : decode cL_holds 246 = .ok (.sipush 200, 3) := by decide +kernel
theorem dL_holds_249 : decode cL_holds 249 = .ok (.isub, 1) := by decide +kernel
theorem dL_holds_250 : decode cL_holds 250 = .ok (.imul, 1) := by decide +kernel
theorem dL_holds_251 : decode cL_holds 251 = .ok (.if_icmp .ne 90, 3) := by decide +kernel
theorem dL_holds_254 : decode cL_holds 254 = .ok (.aload_n 0, 1) := by decide +kernel
theorem dL_holds_255 : decode cL_holds 255 = .ok (.iload_n 3, 1) := by decide +kernel
theorem dL_holds_256 : decode cL_holds 256 = .ok (.iload 6, 2) := by decide +kernel
theorem dL_holds_258 : decode cL_holds 258 = .ok (.invokevirtual 39, 3) := by decide +kernel
theorem dL_holds_261 : decode cL_holds 261 = .ok (.aload_n 0, 1) := by decide +kernel
theorem dL_holds_262 : decode cL_holds 262 = .ok (.iload_n 3, 1) := by decide +kernel
theorem dL_holds_263 : decode cL_holds 263 = .ok (.iconst 3, 1) := by decide +kernel
theorem dL_holds_264 : decode cL_holds 264 = .ok (.invokevirtual 19, 3) := by decide +kernel
theorem dL_holds_267 : decode cL_holds 267 = .ok (.if_icmp .ne 74, 3) := by decide +kernel
theorem dL_holds_270 : decode cL_holds 270 = .ok (.aload_n 0, 1) := by decide +kernel
theorem dL_holds_271 : decode cL_holds 271 = .ok (.iload_n 3, 1) := by decide +kernel
theorem dL_holds_272 : decode cL_holds 272 = .ok (.iconst 4, 1) := by decide +kernel
theorem dL_holds_273 : decode cL_holds 273 = .ok (.invokevirtual 19, 3) := by decide +kernel
theorem dL_holds_276 : decode cL_holds 276 = .ok (.aload_n 0, 1) := by decide +kernel
theorem dL_holds_277 : decode cL_holds 277 = .ok (.iload_n 3, 1) := by decide +kernel
theorem dL_holds_278 : decode cL_holds 278 = .ok (.iconst 5, 1) := by decide +kernel
theorem dL_holds_279 : decode cL_holds 279 = .ok (.invokevirtual 19, 3) := by decide +kernel
theorem dL_holds_282 : decode cL_holds 282 = .ok (.if_icmp .ge 59, 3) := by decide +kernel
theorem dL_holds_285 : decode cL_holds 285 = .ok (.aload_n 0, 1) := by decide +kernel
theorem dL_holds_286 : decode cL_holds 286 = .ok (.iload_n 3, 1) := by decide +kernel
theorem dL_holds_287 : decode cL_holds 287 = .ok (.bipush 8, 2) := by decide +kernel
theorem dL_holds_289 : decode cL_holds 289 = .ok (.invokevirtual 19, 3) := by decide +kernel
theorem dL_holds_292 : decode cL_holds 292 = .ok (.iconst 5, 1) := by decide +kernel
theorem dL_holds_293 : decode cL_holds 293 = .ok (.if_icmp .gt 48, 3) := by decide +kernel
theorem dL_holds_296 : decode cL_holds 296 = .ok (.aload_n 0, 1) := by decide +kernel
theorem dL_holds_297 : decode cL_holds 297 = .ok (.iload_n 3, 1) := by decide +kernel
theorem dL_holds_298 : decode cL_holds 298 = .ok (.bipush 11, 2) := by decide +kernel
theorem dL_holds_300 : decode cL_holds 300 = .ok (.invokevirtual 19, 3) := by decide +kernel
theorem dL_holds_303 : decode cL_holds 303 = .ok (.iconst 1, 1) := by decide +kernel
theorem dL_holds_304 : decode cL_holds 304 = .ok (.if_icmp .ne 7, 3) := by decide +kernel
theorem dL_holds_307 : decode cL_holds 307 = .ok (.iconst 1, 1) := by decide +kernel
theorem dL_holds_308 : decode cL_holds 308 = .ok (.goto 4, 3) := by decide +kernel
theorem dL_holds_311 : decode cL_holds 311 = .ok (.iconst 0, 1) := by decide +kernel
theorem dL_holds_312 : decode cL_holds 312 = .ok (.aload_n 0, 1) := by decide +kernel
theorem dL_holds_313 : decode cL_holds 313 = .ok (.iload_n 3, 1) := by decide +kernel
theorem dL_holds_314 : decode cL_holds 314 = .ok (.bipush 7, 2) := by decide +kernel
theorem dL_holds_316 : decode cL_holds 316 = .ok (.invokevirtual 19, 3) := by decide +kernel
theorem dL_holds_319 : decode cL_holds 319 = .ok (.aload_n 0, 1) := by decide +kernel
theorem dL_holds_320 : decode cL_holds 320 = .ok (.iload_n 3, 1) := by decide +kernel
theorem dL_holds_321 : decode cL_holds 321 = .ok (.bipush 10, 2) := by decide +kernel
theorem dL_holds_323 : decode cL_holds 323 = .ok (.invokevirtual 19, 3) := by decide +kernel
theorem dL_holds_326 : decode cL_holds 326 = .ok (.if_icmp .ne 7, 3) := by decide +kernel
theorem dL_holds_329 : decode cL_holds 329 = .ok (.iconst 1, 1) := by decide +kernel
theorem dL_holds_330 : decode cL_holds 330 = .ok (.goto 4, 3) := by decide +kernel
theorem dL_holds_333 : decode cL_holds 333 = .ok (.iconst 0, 1) := by decide +kernel
theorem dL_holds_334 : decode cL_holds 334 = .ok (.if_icmp .ne 7, 3) := by decide +kernel
theorem dL_holds_337 : decode cL_holds 337 = .ok (.iconst 1, 1) := by decide +kernel
theorem dL_holds_338 : decode cL_holds 338 = .ok (.goto 4, 3) := by decide +kernel
theorem dL_holds_341 : decode cL_holds 341 = .ok (.iconst 0, 1) := by decide +kernel
theorem dL_holds_342 : decode cL_holds 342 = .ok (.istore 11, 2) := by decide +kernel
theorem dL_holds_344 : decode cL_holds 344 = .ok (.iload 6, 2) := by decide +kernel
theorem dL_holds_346 : decode cL_holds 346 = .ok (.sipush (-500), 3) := by decide +kernel
theorem dL_holds_349 : decode cL_holds 349 = .ok (.if_icmp .lt 67, 3) := by decide +kernel
theorem dL_holds_352 : decode cL_holds 352 = .ok (.iload 6, 2) := by decide +kernel
theorem dL_holds_354 : decode cL_holds 354 = .ok (.sipush 1500, 3) := by decide +kernel
theorem dL_holds_357 : decode cL_holds 357 = .ok (.if_icmp .gt 59, 3) := by decide +kernel
theorem dL_holds_360 : decode cL_holds 360 = .ok (.aload_n 0, 1) := by decide +kernel
theorem dL_holds_361 : decode cL_holds 361 = .ok (.iconst 0, 1) := by decide +kernel
theorem dL_holds_362 : decode cL_holds 362 = .ok (.invokevirtual 13, 3) := by decide +kernel
theorem dL_holds_365 : decode cL_holds 365 = .ok (.ifCond .ne 17, 3) := by decide +kernel
theorem dL_holds_368 : decode cL_holds 368 = .ok (.aload_n 0, 1) := by decide +kernel
theorem dL_holds_369 : decode cL_holds 369 = .ok (.iload_n 3, 1) := by decide +kernel
theorem dL_holds_370 : decode cL_holds 370 = .ok (.iconst 5, 1) := by decide +kernel
theorem dL_holds_371 : decode cL_holds 371 = .ok (.invokevirtual 23, 3) := by decide +kernel
theorem dL_holds_374 : decode cL_holds 374 = .ok (.ldc 38, 2) := by decide +kernel
theorem dL_holds_376 : decode cL_holds 376 = .ok (.if_icmp .ne 40, 3) := by decide +kernel
theorem dL_holds_379 : decode cL_holds 379 = .ok (.goto 19, 3) := by decide +kernel
theorem dL_holds_382 : decode cL_holds 382 = .ok (.aload_n 0, 1) := by decide +kernel
theorem dL_holds_383 : decode cL_holds 383 = .ok (.iload_n 3, 1) := by decide +kernel
theorem dL_holds_384 : decode cL_holds 384 = .ok (.bipush 6, 2) := by decide +kernel
theorem dL_holds_386 : decode cL_holds 386 = .ok (.invokevirtual 23, 3) := by decide +kernel
theorem dL_holds_389 : decode cL_holds 389 = .ok (.aload_n 0, 1) := by decide +kernel
theorem dL_holds_390 : decode cL_holds 390 = .ok (.iload_n 3, 1) := by decide +kernel
theorem dL_holds_391 : decode cL_holds 391 = .ok (.iconst 5, 1) := by decide +kernel
theorem dL_holds_392 : decode cL_holds 392 = .ok (.invokevirtual 23, 3) := by decide +kernel
theorem dL_holds_395 : decode cL_holds 395 = .ok (.if_icmp .gt 21, 3) := by decide +kernel
theorem dL_holds_398 : decode cL_holds 398 = .ok (.aload_n 0, 1) := by decide +kernel
theorem dL_holds_399 : decode cL_holds 399 = .ok (.iload_n 3, 1) := by decide +kernel
theorem dL_holds_400 : decode cL_holds 400 = .ok (.iconst 4, 1) := by decide +kernel
theorem dL_holds_401 : decode cL_holds 401 = .ok (.invokevirtual 23, 3) := by decide +kernel
theorem dL_holds_404 : decode cL_holds 404 = .ok (.aload_n 0, 1) := by decide +kernel
theorem dL_holds_405 : decode cL_holds 405 = .ok (.iconst 0, 1) := by decide +kernel
theorem dL_holds_406 : decode cL_holds 406 = .ok (.invokevirtual 13, 3) := by decide +kernel
theorem dL_holds_409 : decode cL_holds 409 = .ok (.if_icmp .gt 7, 3) := by decide +kernel
theorem dL_holds_412 : decode cL_holds 412 = .ok (.iconst 1, 1) := by decide +kernel
theorem dL_holds_413 : decode cL_holds 413 = .ok (.goto 4, 3) := by decide +kernel
theorem dL_holds_416 : decode cL_holds 416 = .ok (.iconst 0, 1) := by decide +kernel
theorem dL_holds_417 : decode cL_holds 417 = .ok (.istore 12, 2) := by decide +kernel
theorem dL_holds_419 : decode cL_holds 419 = .ok (.iload 11, 2) := by decide +kernel
theorem dL_holds_421 : decode cL_holds 421 = .ok (.ifCond .eq 13, 3) := by decide +kernel
theorem dL_holds_424 : decode cL_holds 424 = .ok (.iload 12, 2) := by decide +kernel
theorem dL_holds_426 : decode cL_holds 426 = .ok (.ifCond .eq 8, 3) := by decide +kernel
theorem dL_holds_429 : decode cL_holds 429 = .ok (.iload 10, 2) := by decide +kernel
theorem dL_holds_431 : decode cL_holds 431 = .ok (.ifCond .ne 5, 3) := by decide +kernel
theorem dL_holds_434 : decode cL_holds 434 = .ok (.iconst 0, 1) := by decide +kernel
theorem dL_holds_435 : decode cL_holds 435 = .ok (.ireturn, 1) := by decide +kernel
theorem dL_holds_436 : decode cL_holds 436 = .ok (.iinc 3 1, 3) := by decide +kernel
theorem dL_holds_439 : decode cL_holds 439 = .ok (.goto (-435), 3) := by decide +kernel
theorem dL_holds_442 : decode cL_holds 442 = .ok (.iload_n 2, 1) := by decide +kernel
theorem dL_holds_443 : decode cL_holds 443 = .ok (.aload_n 0, 1) := by decide +kernel
theorem dL_holds_444 : decode cL_holds 444 = .ok (.iconst 1, 1) := by decide +kernel
theorem dL_holds_445 : decode cL_holds 445 = .ok (.invokevirtual 13, 3) := by decide +kernel
theorem dL_holds_448 : decode cL_holds 448 = .ok (.if_icmp .ne 40, 3) := by decide +kernel
theorem dL_holds_451 : decode cL_holds 451 = .ok (.aload_n 0, 1) := by decide +kernel
theorem dL_holds_452 : decode cL_holds 452 = .ok (.iconst 0, 1) := by decide +kernel
theorem dL_holds_453 : decode cL_holds 453 = .ok (.invokevirtual 42, 3) := by decide +kernel
