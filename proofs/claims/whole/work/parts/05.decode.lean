/-! decode rows -/
theorem dX8_adds_23 : decode cX8_adds 23 = .ok (.invokevirtual 65, 3) := by decide +kernel
theorem dX8_adds_26 : decode cX8_adds 26 = .ok (.imul, 1) := by decide +kernel
theorem dX8_adds_27 : decode cX8_adds 27 = .ok (.iadd, 1) := by decide +kernel
theorem dX8_adds_28 : decode cX8_adds 28 = .ok (.istore 5, 2) := by decide +kernel
theorem dX8_adds_30 : decode cX8_adds 30 = .ok (.aload_n 0, 1) := by decide +kernel
theorem dX8_adds_31 : decode cX8_adds 31 = .ok (.getfield 7, 3) := by decide +kernel
theorem dX8_adds_34 : decode cX8_adds 34 = .ok (.iload 5, 2) := by decide +kernel
theorem dX8_adds_36 : decode cX8_adds 36 = .ok (.iload_n 2, 1) := by decide +kernel
theorem dX8_adds_37 : decode cX8_adds 37 = .ok (.iastore, 1) := by decide +kernel
theorem dX8_adds_38 : decode cX8_adds 38 = .ok (.aload_n 0, 1) := by decide +kernel
theorem dX8_adds_39 : decode cX8_adds 39 = .ok (.getfield 7, 3) := by decide +kernel
theorem dX8_adds_42 : decode cX8_adds 42 = .ok (.iload 5, 2) := by decide +kernel
theorem dX8_adds_44 : decode cX8_adds 44 = .ok (.iconst 1, 1) := by decide +kernel
theorem dX8_adds_45 : decode cX8_adds 45 = .ok (.iadd, 1) := by decide +kernel
theorem dX8_adds_46 : decode cX8_adds 46 = .ok (.iload_n 3, 1) := by decide +kernel
theorem dX8_adds_47 : decode cX8_adds 47 = .ok (.iastore, 1) := by decide +kernel
theorem dX8_adds_48 : decode cX8_adds 48 = .ok (.aload_n 0, 1) := by decide +kernel
theorem dX8_adds_49 : decode cX8_adds 49 = .ok (.getfield 7, 3) := by decide +kernel
theorem dX8_adds_52 : decode cX8_adds 52 = .ok (.iload 5, 2) := by decide +kernel
theorem dX8_adds_54 : decode cX8_adds 54 = .ok (.iconst 2, 1) := by decide +kernel
theorem dX8_adds_55 : decode cX8_adds 55 = .ok (.iadd, 1) := by decide +kernel
theorem dX8_adds_56 : decode cX8_adds 56 = .ok (.iload 4, 2) := by decide +kernel
theorem dX8_adds_58 : decode cX8_adds 58 = .ok (.iastore, 1) := by decide +kernel
theorem dX8_adds_59 : decode cX8_adds 59 = .ok (.aload_n 0, 1) := by decide +kernel
theorem dX8_adds_60 : decode cX8_adds 60 = .ok (.getfield 7, 3) := by decide +kernel
theorem dX8_adds_63 : decode cX8_adds 63 = .ok (.iload_n 1, 1) := by decide +kernel
theorem dX8_adds_64 : decode cX8_adds 64 = .ok (.invokestatic 42, 3) := by decide +kernel
theorem dX8_adds_67 : decode cX8_adds 67 = .ok (.iconst 0, 1) := by decide +kernel
theorem dX8_adds_68 : decode cX8_adds 68 = .ok (.iadd, 1) := by decide +kernel
theorem dX8_adds_69 : decode cX8_adds 69 = .ok (.dup2, 1) := by decide +kernel
theorem dX8_adds_70 : decode cX8_adds 70 = .ok (.iaload, 1) := by decide +kernel
theorem dX8_adds_71 : decode cX8_adds 71 = .ok (.iconst 1, 1) := by decide +kernel
theorem dX8_adds_72 : decode cX8_adds 72 = .ok (.iadd, 1) := by decide +kernel
theorem dX8_adds_73 : decode cX8_adds 73 = .ok (.iastore, 1) := by decide +kernel
theorem dX8_adds_74 : decode cX8_adds 74 = .ok (.aload_n 0, 1) := by decide +kernel
theorem dX8_adds_75 : decode cX8_adds 75 = .ok (.iload_n 1, 1) := by decide +kernel
theorem dX8_adds_76 : decode cX8_adds 76 = .ok (.invokevirtual 65, 3) := by decide +kernel
theorem dX8_adds_79 : decode cX8_adds 79 = .ok (.ireturn, 1) := by decide +kernel
theorem dX8_shortens_0 : decode cX8_shortens 0 = .ok (.iload_n 2, 1) := by decide +kernel
theorem dX8_shortens_1 : decode cX8_shortens 1 = .ok (.aload_n 0, 1) := by decide +kernel
theorem dX8_shortens_2 : decode cX8_shortens 2 = .ok (.iload_n 1, 1) := by decide +kernel
theorem dX8_shortens_3 : decode cX8_shortens 3 = .ok (.invokevirtual 65, 3) := by decide +kernel
theorem dX8_shortens_6 : decode cX8_shortens 6 = .ok (.if_icmp .le 6, 3) := by decide +kernel
theorem dX8_shortens_9 : decode cX8_shortens 9 = .ok (.ldc 80, 2) := by decide +kernel
theorem dX8_shortens_11 : decode cX8_shortens 11 = .ok (.ireturn, 1) := by decide +kernel
theorem dX8_shortens_12 : decode cX8_shortens 12 = .ok (.iconst 0, 1) := by decide +kernel
theorem dX8_shortens_13 : decode cX8_shortens 13 = .ok (.istore_n 3, 1) := by decide +kernel
theorem dX8_shortens_14 : decode cX8_shortens 14 = .ok (.iload_n 3, 1) := by decide +kernel
theorem dX8_shortens_15 : decode cX8_shortens 15 = .ok (.iload_n 2, 1) := by decide +kernel
theorem dX8_shortens_16 : decode cX8_shortens 16 = .ok (.if_icmp .ge 69, 3) := by decide +kernel
theorem dX8_shortens_19 : decode cX8_shortens 19 = .ok (.aload_n 0, 1) := by decide +kernel
theorem dX8_shortens_20 : decode cX8_shortens 20 = .ok (.getfield 7, 3) := by decide +kernel
theorem dX8_shortens_23 : decode cX8_shortens 23 = .ok (.iload_n 1, 1) := by decide +kernel
theorem dX8_shortens_24 : decode cX8_shortens 24 = .ok (.invokestatic 42, 3) := by decide +kernel
theorem dX8_shortens_27 : decode cX8_shortens 27 = .ok (.iconst 0, 1) := by decide +kernel
theorem dX8_shortens_28 : decode cX8_shortens 28 = .ok (.iadd, 1) := by decide +kernel
theorem dX8_shortens_29 : decode cX8_shortens 29 = .ok (.dup2, 1) := by decide +kernel
theorem dX8_shortens_30 : decode cX8_shortens 30 = .ok (.iaload, 1) := by decide +kernel
theorem dX8_shortens_31 : decode cX8_shortens 31 = .ok (.iconst 1, 1) := by decide +kernel
theorem dX8_shortens_32 : decode cX8_shortens 32 = .ok (.isub, 1) := by decide +kernel
theorem dX8_shortens_33 : decode cX8_shortens 33 = .ok (.iastore, 1) := by decide +kernel
theorem dX8_shortens_34 : decode cX8_shortens 34 = .ok (.iload_n 1, 1) := by decide +kernel
theorem dX8_shortens_35 : decode cX8_shortens 35 = .ok (.invokestatic 42, 3) := by decide +kernel
theorem dX8_shortens_38 : decode cX8_shortens 38 = .ok (.bipush 8, 2) := by decide +kernel
theorem dX8_shortens_40 : decode cX8_shortens 40 = .ok (.iadd, 1) := by decide +kernel
theorem dX8_shortens_41 : decode cX8_shortens 41 = .ok (.iconst 3, 1) := by decide +kernel
theorem dX8_shortens_42 : decode cX8_shortens 42 = .ok (.aload_n 0, 1) := by decide +kernel
theorem dX8_shortens_43 : decode cX8_shortens 43 = .ok (.iload_n 1, 1) := by decide +kernel
theorem dX8_shortens_44 : decode cX8_shortens 44 = .ok (.invokevirtual 65, 3) := by decide +kernel
theorem dX8_shortens_47 : decode cX8_shortens 47 = .ok (.imul, 1) := by decide +kernel
theorem dX8_shortens_48 : decode cX8_shortens 48 = .ok (.iadd, 1) := by decide +kernel
theorem dX8_shortens_49 : decode cX8_shortens 49 = .ok (.istore 4, 2) := by decide +kernel
theorem dX8_shortens_51 : decode cX8_shortens 51 = .ok (.aload_n 0, 1) := by decide +kernel
theorem dX8_shortens_52 : decode cX8_shortens 52 = .ok (.getfield 7, 3) := by decide +kernel
theorem dX8_shortens_55 : decode cX8_shortens 55 = .ok (.iload 4, 2) := by decide +kernel
theorem dX8_shortens_57 : decode cX8_shortens 57 = .ok (.iconst 0, 1) := by decide +kernel
theorem dX8_shortens_58 : decode cX8_shortens 58 = .ok (.iastore, 1) := by decide +kernel
theorem dX8_shortens_59 : decode cX8_shortens 59 = .ok (.aload_n 0, 1) := by decide +kernel
theorem dX8_shortens_60 : decode cX8_shortens 60 = .ok (.getfield 7, 3) := by decide +kernel
theorem dX8_shortens_63 : decode cX8_shortens 63 = .ok (.iload 4, 2) := by decide +kernel
theorem dX8_shortens_65 : decode cX8_shortens 65 = .ok (.iconst 1, 1) := by decide +kernel
theorem dX8_shortens_66 : decode cX8_shortens 66 = .ok (.iadd, 1) := by decide +kernel
theorem dX8_shortens_67 : decode cX8_shortens 67 = .ok (.iconst 0, 1) := by decide +kernel
theorem dX8_shortens_68 : decode cX8_shortens 68 = .ok (.iastore, 1) := by decide +kernel
theorem dX8_shortens_69 : decode cX8_shortens 69 = .ok (.aload_n 0, 1) := by decide +kernel
theorem dX8_shortens_70 : decode cX8_shortens 70 = .ok (.getfield 7, 3) := by decide +kernel
theorem dX8_shortens_73 : decode cX8_shortens 73 = .ok (.iload 4, 2) := by decide +kernel
theorem dX8_shortens_75 : decode cX8_shortens 75 = .ok (.iconst 2, 1) := by decide +kernel
theorem dX8_shortens_76 : decode cX8_shortens 76 = .ok (.iadd, 1) := by decide +kernel
theorem dX8_shortens_77 : decode cX8_shortens 77 = .ok (.iconst 0, 1) := by decide +kernel
theorem dX8_shortens_78 : decode cX8_shortens 78 = .ok (.iastore, 1) := by decide +kernel
theorem dX8_shortens_79 : decode cX8_shortens 79 = .ok (.iinc 3 1, 3) := by decide +kernel
theorem dX8_shortens_82 : decode cX8_shortens 82 = .ok (.goto (-68), 3) := by decide +kernel
theorem dX8_shortens_85 : decode cX8_shortens 85 = .ok (.aload_n 0, 1) := by decide +kernel
theorem dX8_shortens_86 : decode cX8_shortens 86 = .ok (.iload_n 1, 1) := by decide +kernel
theorem dX8_shortens_87 : decode cX8_shortens 87 = .ok (.invokevirtual 65, 3) := by decide +kernel
theorem dX8_shortens_90 : decode cX8_shortens 90 = .ok (.ireturn, 1) := by decide +kernel
theorem dX8_isPulled_0 : decode cX8_isPulled 0 = .ok (.aload_n 0, 1) := by decide +kernel
theorem dX8_isPulled_1 : decode cX8_isPulled 1 = .ok (.iload_n 1, 1) := by decide +kernel
theorem dX8_isPulled_2 : decode cX8_isPulled 2 = .ok (.invokevirtual 75, 3) := by decide +kernel
theorem dX8_isPulled_5 : decode cX8_isPulled 5 = .ok (.ifCond .eq 26, 3) := by decide +kernel
theorem dX8_isPulled_8 : decode cX8_isPulled 8 = .ok (.iload_n 2, 1) := by decide +kernel
theorem dX8_isPulled_9 : decode cX8_isPulled 9 = .ok (.aload_n 0, 1) := by decide +kernel
theorem dX8_isPulled_10 : decode cX8_isPulled 10 = .ok (.getfield 7, 3) := by decide +kernel
theorem dX8_isPulled_13 : decode cX8_isPulled 13 = .ok (.iload_n 1, 1) := by decide +kernel
theorem dX8_isPulled_14 : decode cX8_isPulled 14 = .ok (.invokestatic 42, 3) := by decide +kernel
theorem dX8_isPulled_17 : decode cX8_isPulled 17 = .ok (.iconst 1, 1) := by decide +kernel
theorem dX8_isPulled_18 : decode cX8_isPulled 18 = .ok (.iadd, 1) := by decide +kernel
theorem dX8_isPulled_19 : decode cX8_isPulled 19 = .ok (.iaload, 1) := by decide +kernel
theorem dX8_isPulled_20 : decode cX8_isPulled 20 = .ok (.if_icmp .gt 7, 3) := by decide +kernel
theorem dX8_isPulled_23 : decode cX8_isPulled 23 = .ok (.iconst 1, 1) := by decide +kernel
theorem dX8_isPulled_24 : decode cX8_isPulled 24 = .ok (.goto 27, 3) := by decide +kernel
theorem dX8_isPulled_27 : decode cX8_isPulled 27 = .ok (.iconst 0, 1) := by decide +kernel
theorem dX8_isPulled_28 : decode cX8_isPulled 28 = .ok (.goto 23, 3) := by decide +kernel
theorem dX8_isPulled_31 : decode cX8_isPulled 31 = .ok (.iload_n 2, 1) := by decide +kernel
theorem dX8_isPulled_32 : decode cX8_isPulled 32 = .ok (.aload_n 0, 1) := by decide +kernel
theorem dX8_isPulled_33 : decode cX8_isPulled 33 = .ok (.getfield 7, 3) := by decide +kernel
theorem dX8_isPulled_36 : decode cX8_isPulled 36 = .ok (.iload_n 1, 1) := by decide +kernel
theorem dX8_isPulled_37 : decode cX8_isPulled 37 = .ok (.invokestatic 42, 3) := by decide +kernel
theorem dX8_isPulled_40 : decode cX8_isPulled 40 = .ok (.iconst 2, 1) := by decide +kernel
theorem dX8_isPulled_41 : decode cX8_isPulled 41 = .ok (.iadd, 1) := by decide +kernel
theorem dX8_isPulled_42 : decode cX8_isPulled 42 = .ok (.iaload, 1) := by decide +kernel
theorem dX8_isPulled_43 : decode cX8_isPulled 43 = .ok (.if_icmp .lt 7, 3) := by decide +kernel
theorem dX8_isPulled_46 : decode cX8_isPulled 46 = .ok (.iconst 1, 1) := by decide +kernel
theorem dX8_isPulled_47 : decode cX8_isPulled 47 = .ok (.goto 4, 3) := by decide +kernel
theorem dX8_isPulled_50 : decode cX8_isPulled 50 = .ok (.iconst 0, 1) := by decide +kernel
theorem dX8_isPulled_51 : decode cX8_isPulled 51 = .ok (.ireturn, 1) := by decide +kernel
theorem dX8_tires_0 : decode cX8_tires 0 = .ok (.iload_n 1, 1) := by decide +kernel
theorem dX8_tires_1 : decode cX8_tires 1 = .ok (.invokestatic 42, 3) := by decide +kernel
theorem dX8_tires_4 : decode cX8_tires 4 = .ok (.istore_n 2, 1) := by decide +kernel
theorem dX8_tires_5 : decode cX8_tires 5 = .ok (.aload_n 0, 1) := by decide +kernel
theorem dX8_tires_6 : decode cX8_tires 6 = .ok (.getfield 7, 3) := by decide +kernel
theorem dX8_tires_9 : decode cX8_tires 9 = .ok (.bipush 6, 2) := by decide +kernel
theorem dX8_tires_11 : decode cX8_tires 11 = .ok (.iaload, 1) := by decide +kernel
theorem dX8_tires_12 : decode cX8_tires 12 = .ok (.ifCond .le 27, 3) := by decide +kernel
theorem dX8_tires_15 : decode cX8_tires 15 = .ok (.aload_n 0, 1) := by decide +kernel
theorem dX8_tires_16 : decode cX8_tires 16 = .ok (.getfield 7, 3) := by decide +kernel
theorem dX8_tires_19 : decode cX8_tires 19 = .ok (.iload_n 2, 1) := by decide +kernel
theorem dX8_tires_20 : decode cX8_tires 20 = .ok (.bipush 6, 2) := by decide +kernel
theorem dX8_tires_22 : decode cX8_tires 22 = .ok (.iadd, 1) := by decide +kernel
theorem dX8_tires_23 : decode cX8_tires 23 = .ok (.iaload, 1) := by decide +kernel
theorem dX8_tires_24 : decode cX8_tires 24 = .ok (.aload_n 0, 1) := by decide +kernel
theorem dX8_tires_25 : decode cX8_tires 25 = .ok (.getfield 7, 3) := by decide +kernel
theorem dX8_tires_28 : decode cX8_tires 28 = .ok (.bipush 6, 2) := by decide +kernel
theorem dX8_tires_30 : decode cX8_tires 30 = .ok (.iaload, 1) := by decide +kernel
theorem dX8_tires_31 : decode cX8_tires 31 = .ok (.irem, 1) := by decide +kernel
theorem dX8_tires_32 : decode cX8_tires 32 = .ok (.ifCond .ne 7, 3) := by decide +kernel
theorem dX8_tires_35 : decode cX8_tires 35 = .ok (.iconst 1, 1) := by decide +kernel
theorem dX8_tires_36 : decode cX8_tires 36 = .ok (.goto 4, 3) := by decide +kernel
theorem dX8_tires_39 : decode cX8_tires 39 = .ok (.iconst 0, 1) := by decide +kernel
theorem dX8_tires_40 : decode cX8_tires 40 = .ok (.istore_n 3, 1) := by decide +kernel
theorem dX8_tires_41 : decode cX8_tires 41 = .ok (.aload_n 0, 1) := by decide +kernel
theorem dX8_tires_42 : decode cX8_tires 42 = .ok (.getfield 7, 3) := by decide +kernel
theorem dX8_tires_45 : decode cX8_tires 45 = .ok (.iload_n 2, 1) := by decide +kernel
theorem dX8_tires_46 : decode cX8_tires 46 = .ok (.iconst 2, 1) := by decide +kernel
theorem dX8_tires_47 : decode cX8_tires 47 = .ok (.iadd, 1) := by decide +kernel
theorem dX8_tires_48 : decode cX8_tires 48 = .ok (.iaload, 1) := by decide +kernel
theorem dX8_tires_49 : decode cX8_tires 49 = .ok (.aload_n 0, 1) := by decide +kernel
theorem dX8_tires_50 : decode cX8_tires 50 = .ok (.getfield 7, 3) := by decide +kernel
theorem dX8_tires_53 : decode cX8_tires 53 = .ok (.bipush 7, 2) := by decide +kernel
theorem dX8_tires_55 : decode cX8_tires 55 = .ok (.iaload, 1) := by decide +kernel
theorem dX8_tires_56 : decode cX8_tires 56 = .ok (.isub, 1) := by decide +kernel
theorem dX8_tires_57 : decode cX8_tires 57 = .ok (.istore 4, 2) := by decide +kernel
theorem dX8_tires_59 : decode cX8_tires 59 = .ok (.aload_n 0, 1) := by decide +kernel
theorem dX8_tires_60 : decode cX8_tires 60 = .ok (.getfield 7, 3) := by decide +kernel
theorem dX8_tires_63 : decode cX8_tires 63 = .ok (.iload_n 2, 1) := by decide +kernel
theorem dX8_tires_64 : decode cX8_tires 64 = .ok (.iconst 2, 1) := by decide +kernel
theorem dX8_tires_65 : decode cX8_tires 65 = .ok (.iadd, 1) := by decide +kernel
theorem dX8_tires_66 : decode cX8_tires 66 = .ok (.iload_n 3, 1) := by decide +kernel
theorem dX8_tires_67 : decode cX8_tires 67 = .ok (.ifCond .eq 21, 3) := by decide +kernel
theorem dX8_tires_70 : decode cX8_tires 70 = .ok (.iload 4, 2) := by decide +kernel
theorem dX8_tires_72 : decode cX8_tires 72 = .ok (.aload_n 0, 1) := by decide +kernel
theorem dX8_tires_73 : decode cX8_tires 73 = .ok (.getfield 7, 3) := by decide +kernel
theorem dX8_tires_76 : decode cX8_tires 76 = .ok (.iload_n 2, 1) := by decide +kernel
theorem dX8_tires_77 : decode cX8_tires 77 = .ok (.iconst 1, 1) := by decide +kernel
theorem dX8_tires_78 : decode cX8_tires 78 = .ok (.iadd, 1) := by decide +kernel
theorem dX8_tires_79 : decode cX8_tires 79 = .ok (.iaload, 1) := by decide +kernel
theorem dX8_tires_80 : decode cX8_tires 80 = .ok (.if_icmp .le 8, 3) := by decide +kernel
theorem dX8_tires_83 : decode cX8_tires 83 = .ok (.iload 4, 2) := by decide +kernel
theorem dX8_tires_85 : decode cX8_tires 85 = .ok (.goto 11, 3) := by decide +kernel
theorem dX8_tires_88 : decode cX8_tires 88 = .ok (.aload_n 0, 1) := by decide +kernel
theorem dX8_tires_89 : decode cX8_tires 89 = .ok (.getfield 7, 3) := by decide +kernel
theorem dX8_tires_92 : decode cX8_tires 92 = .ok (.iload_n 2, 1) := by decide +kernel
theorem dX8_tires_93 : decode cX8_tires 93 = .ok (.iconst 2, 1) := by decide +kernel
theorem dX8_tires_94 : decode cX8_tires 94 = .ok (.iadd, 1) := by decide +kernel
theorem dX8_tires_95 : decode cX8_tires 95 = .ok (.iaload, 1) := by decide +kernel
theorem dX8_tires_96 : decode cX8_tires 96 = .ok (.iastore, 1) := by decide +kernel
theorem dX8_tires_97 : decode cX8_tires 97 = .ok (.return_, 1) := by decide +kernel
theorem dX8_pulls_0 : decode cX8_pulls 0 = .ok (.iload_n 1, 1) := by decide +kernel
theorem dX8_pulls_1 : decode cX8_pulls 1 = .ok (.invokestatic 42, 3) := by decide +kernel
theorem dX8_pulls_4 : decode cX8_pulls 4 = .ok (.istore 4, 2) := by decide +kernel
theorem dX8_pulls_6 : decode cX8_pulls 6 = .ok (.aload_n 0, 1) := by decide +kernel
theorem dX8_pulls_7 : decode cX8_pulls 7 = .ok (.iload_n 1, 1) := by decide +kernel
theorem dX8_pulls_8 : decode cX8_pulls 8 = .ok (.iload_n 2, 1) := by decide +kernel
theorem dX8_pulls_9 : decode cX8_pulls 9 = .ok (.aload_n 0, 1) := by decide +kernel
theorem dX8_pulls_10 : decode cX8_pulls 10 = .ok (.getfield 7, 3) := by decide +kernel
theorem dX8_pulls_13 : decode cX8_pulls 13 = .ok (.iload_n 1, 1) := by decide +kernel
theorem dX8_pulls_14 : decode cX8_pulls 14 = .ok (.invokestatic 46, 3) := by decide +kernel
theorem dX8_pulls_17 : decode cX8_pulls 17 = .ok (.iaload, 1) := by decide +kernel
theorem dX8_pulls_18 : decode cX8_pulls 18 = .ok (.sipush 200, 3) := by decide +kernel
theorem dX8_pulls_21 : decode cX8_pulls 21 = .ok (.isub, 1) := by decide +kernel
theorem dX8_pulls_22 : decode cX8_pulls 22 = .ok (.imul, 1) := by decide +kernel
theorem dX8_pulls_23 : decode cX8_pulls 23 = .ok (.invokevirtual 81, 3) := by decide +kernel
theorem dX8_pulls_26 : decode cX8_pulls 26 = .ok (.ifCond .ne 15, 3) := by decide +kernel
theorem dX8_pulls_29 : decode cX8_pulls 29 = .ok (.aload_n 0, 1) := by decide +kernel
theorem dX8_pulls_30 : decode cX8_pulls 30 = .ok (.getfield 7, 3) := by decide +kernel
theorem dX8_pulls_33 : decode cX8_pulls 33 = .ok (.iload 4, 2) := by decide +kernel
theorem dX8_pulls_35 : decode cX8_pulls 35 = .ok (.iconst 5, 1) := by decide +kernel
theorem dX8_pulls_36 : decode cX8_pulls 36 = .ok (.iadd, 1) := by decide +kernel
theorem dX8_pulls_37 : decode cX8_pulls 37 = .ok (.iconst 0, 1) := by decide +kernel
theorem dX8_pulls_38 : decode cX8_pulls 38 = .ok (.iastore, 1) := by decide +kernel
theorem dX8_pulls_39 : decode cX8_pulls 39 = .ok (.iconst 0, 1) := by decide +kernel
theorem dX8_pulls_40 : decode cX8_pulls 40 = .ok (.ireturn, 1) := by decide +kernel
theorem dX8_pulls_41 : decode cX8_pulls 41 = .ok (.aload_n 0, 1) := by decide +kernel
theorem dX8_pulls_42 : decode cX8_pulls 42 = .ok (.getfield 7, 3) := by decide +kernel
theorem dX8_pulls_45 : decode cX8_pulls 45 = .ok (.iload 4, 2) := by decide +kernel
theorem dX8_pulls_47 : decode cX8_pulls 47 = .ok (.iconst 5, 1) := by decide +kernel
theorem dX8_pulls_48 : decode cX8_pulls 48 = .ok (.iadd, 1) := by decide +kernel
theorem dX8_pulls_49 : decode cX8_pulls 49 = .ok (.iaload, 1) := by decide +kernel
theorem dX8_pulls_50 : decode cX8_pulls 50 = .ok (.aload_n 0, 1) := by decide +kernel
theorem dX8_pulls_51 : decode cX8_pulls 51 = .ok (.getfield 7, 3) := by decide +kernel
theorem dX8_pulls_54 : decode cX8_pulls 54 = .ok (.iload 4, 2) := by decide +kernel
theorem dX8_pulls_56 : decode cX8_pulls 56 = .ok (.iconst 3, 1) := by decide +kernel
theorem dX8_pulls_57 : decode cX8_pulls 57 = .ok (.iadd, 1) := by decide +kernel
theorem dX8_pulls_58 : decode cX8_pulls 58 = .ok (.iaload, 1) := by decide +kernel
theorem dX8_pulls_59 : decode cX8_pulls 59 = .ok (.if_icmp .ge 18, 3) := by decide +kernel
theorem dX8_pulls_62 : decode cX8_pulls 62 = .ok (.aload_n 0, 1) := by decide +kernel
theorem dX8_pulls_63 : decode cX8_pulls 63 = .ok (.getfield 7, 3) := by decide +kernel
theorem dX8_pulls_66 : decode cX8_pulls 66 = .ok (.iload 4, 2) := by decide +kernel
theorem dX8_pulls_68 : decode cX8_pulls 68 = .ok (.iconst 5, 1) := by decide +kernel
theorem dX8_pulls_69 : decode cX8_pulls 69 = .ok (.iadd, 1) := by decide +kernel
theorem dX8_pulls_70 : decode cX8_pulls 70 = .ok (.dup2, 1) := by decide +kernel
theorem dX8_pulls_71 : decode cX8_pulls 71 = .ok (.iaload, 1) := by decide +kernel
theorem dX8_pulls_72 : decode cX8_pulls 72 = .ok (.iconst 1, 1) := by decide +kernel
theorem dX8_pulls_73 : decode cX8_pulls 73 = .ok (.iadd, 1) := by decide +kernel
theorem dX8_pulls_74 : decode cX8_pulls 74 = .ok (.iastore, 1) := by decide +kernel
theorem dX8_pulls_75 : decode cX8_pulls 75 = .ok (.iconst 0, 1) := by decide +kernel
theorem dX8_pulls_76 : decode cX8_pulls 76 = .ok (.ireturn, 1) := by decide +kernel
theorem dX8_pulls_77 : decode cX8_pulls 77 = .ok (.aload_n 0, 1) := by decide +kernel
theorem dX8_pulls_78 : decode cX8_pulls 78 = .ok (.getfield 7, 3) := by decide +kernel
theorem dX8_pulls_81 : decode cX8_pulls 81 = .ok (.iload 4, 2) := by decide +kernel
theorem dX8_pulls_83 : decode cX8_pulls 83 = .ok (.iconst 5, 1) := by decide +kernel
theorem dX8_pulls_84 : decode cX8_pulls 84 = .ok (.iadd, 1) := by decide +kernel
theorem dX8_pulls_85 : decode cX8_pulls 85 = .ok (.iconst 0, 1) := by decide +kernel
theorem dX8_pulls_86 : decode cX8_pulls 86 = .ok (.iastore, 1) := by decide +kernel
theorem dX8_pulls_87 : decode cX8_pulls 87 = .ok (.aload_n 0, 1) := by decide +kernel
theorem dX8_pulls_88 : decode cX8_pulls 88 = .ok (.getfield 7, 3) := by decide +kernel
theorem dX8_pulls_91 : decode cX8_pulls 91 = .ok (.iload 4, 2) := by decide +kernel
theorem dX8_pulls_93 : decode cX8_pulls 93 = .ok (.iconst 4, 1) := by decide +kernel
theorem dX8_pulls_94 : decode cX8_pulls 94 = .ok (.iadd, 1) := by decide +kernel
theorem dX8_pulls_95 : decode cX8_pulls 95 = .ok (.iconst 1, 1) := by decide +kernel
theorem dX8_pulls_96 : decode cX8_pulls 96 = .ok (.aload_n 0, 1) := by decide +kernel
theorem dX8_pulls_97 : decode cX8_pulls 97 = .ok (.getfield 7, 3) := by decide +kernel
theorem dX8_pulls_100 : decode cX8_pulls 100 = .ok (.iload 4, 2) := by decide +kernel
theorem dX8_pulls_102 : decode cX8_pulls 102 = .ok (.iconst 4, 1) := by decide +kernel
theorem dX8_pulls_103 : decode cX8_pulls 103 = .ok (.iadd, 1) := by decide +kernel
theorem dX8_pulls_104 : decode cX8_pulls 104 = .ok (.iaload, 1) := by decide +kernel
theorem dX8_pulls_105 : decode cX8_pulls 105 = .ok (.isub, 1) := by decide +kernel
theorem dX8_pulls_106 : decode cX8_pulls 106 = .ok (.iastore, 1) := by decide +kernel
theorem dX8_pulls_107 : decode cX8_pulls 107 = .ok (.aload_n 0, 1) := by decide +kernel
theorem dX8_pulls_108 : decode cX8_pulls 108 = .ok (.iload_n 1, 1) := by decide +kernel
theorem dX8_pulls_109 : decode cX8_pulls 109 = .ok (.invokevirtual 75, 3) := by decide +kernel
theorem dX8_pulls_112 : decode cX8_pulls 112 = .ok (.ifCond .eq 26, 3) := by decide +kernel
theorem dX8_pulls_115 : decode cX8_pulls 115 = .ok (.aload_n 0, 1) := by decide +kernel
theorem dX8_pulls_116 : decode cX8_pulls 116 = .ok (.getfield 7, 3) := by decide +kernel
theorem dX8_pulls_119 : decode cX8_pulls 119 = .ok (.iload 4, 2) := by decide +kernel
theorem dX8_pulls_121 : decode cX8_pulls 121 = .ok (.bipush 6, 2) := by decide +kernel
theorem dX8_pulls_123 : decode cX8_pulls 123 = .ok (.iadd, 1) := by decide +kernel
theorem dX8_pulls_124 : decode cX8_pulls 124 = .ok (.dup2, 1) := by decide +kernel
theorem dX8_pulls_125 : decode cX8_pulls 125 = .ok (.iaload, 1) := by decide +kernel
theorem dX8_pulls_126 : decode cX8_pulls 126 = .ok (.iconst 1, 1) := by decide +kernel
theorem dX8_pulls_127 : decode cX8_pulls 127 = .ok (.iadd, 1) := by decide +kernel
theorem dX8_pulls_128 : decode cX8_pulls 128 = .ok (.iastore, 1) := by decide +kernel
theorem dX8_pulls_129 : decode cX8_pulls 129 = .ok (.iload_n 3, 1) := by decide +kernel
theorem dX8_pulls_130 : decode cX8_pulls 130 = .ok (.ifCond .eq 8, 3) := by decide +kernel
theorem dX8_pulls_133 : decode cX8_pulls 133 = .ok (.aload_n 0, 1) := by decide +kernel
theorem dX8_pulls_134 : decode cX8_pulls 134 = .ok (.iload_n 1, 1) := by decide +kernel
theorem dX8_pulls_135 : decode cX8_pulls 135 = .ok (.invokevirtual 85, 3) := by decide +kernel
theorem dX8_pulls_138 : decode cX8_pulls 138 = .ok (.iconst 1, 1) := by decide +kernel
theorem dX8_pulls_139 : decode cX8_pulls 139 = .ok (.ireturn, 1) := by decide +kernel
theorem dX8_isOpen_0 : decode cX8_isOpen 0 = .ok (.aload_n 0, 1) := by decide +kernel
theorem dX8_isOpen_1 : decode cX8_isOpen 1 = .ok (.getfield 7, 3) := by decide +kernel
theorem dX8_isOpen_4 : decode cX8_isOpen 4 = .ok (.iload_n 1, 1) := by decide +kernel
theorem dX8_isOpen_5 : decode cX8_isOpen 5 = .ok (.invokestatic 46, 3) := by decide +kernel
theorem dX8_isOpen_8 : decode cX8_isOpen 8 = .ok (.iconst 3, 1) := by decide +kernel
theorem dX8_isOpen_9 : decode cX8_isOpen 9 = .ok (.iadd, 1) := by decide +kernel
theorem dX8_isOpen_10 : decode cX8_isOpen 10 = .ok (.iaload, 1) := by decide +kernel
theorem dX8_isOpen_11 : decode cX8_isOpen 11 = .ok (.iconst 1, 1) := by decide +kernel
theorem dX8_isOpen_12 : decode cX8_isOpen 12 = .ok (.if_icmp .ne 7, 3) := by decide +kernel
theorem dX8_isOpen_15 : decode cX8_isOpen 15 = .ok (.iconst 1, 1) := by decide +kernel
theorem dX8_isOpen_16 : decode cX8_isOpen 16 = .ok (.goto 4, 3) := by decide +kernel
theorem dX8_isOpen_19 : decode cX8_isOpen 19 = .ok (.iconst 0, 1) := by decide +kernel
theorem dX8_isOpen_20 : decode cX8_isOpen 20 = .ok (.ireturn, 1) := by decide +kernel
theorem dX8_warmer_0 : decode cX8_warmer 0 = .ok (.aload_n 0, 1) := by decide +kernel
theorem dX8_warmer_1 : decode cX8_warmer 1 = .ok (.getfield 7, 3) := by decide +kernel
theorem dX8_warmer_4 : decode cX8_warmer 4 = .ok (.iload_n 1, 1) := by decide +kernel
theorem dX8_warmer_5 : decode cX8_warmer 5 = .ok (.invokestatic 46, 3) := by decide +kernel
theorem dX8_warmer_8 : decode cX8_warmer 8 = .ok (.iaload, 1) := by decide +kernel
theorem dX8_warmer_9 : decode cX8_warmer 9 = .ok (.istore_n 2, 1) := by decide +kernel
theorem dX8_warmer_10 : decode cX8_warmer 10 = .ok (.iload_n 1, 1) := by decide +kernel
theorem dX8_warmer_11 : decode cX8_warmer 11 = .ok (.iconst 1, 1) := by decide +kernel
theorem dX8_warmer_12 : decode cX8_warmer 12 = .ok (.iadd, 1) := by decide +kernel
theorem dX8_warmer_13 : decode cX8_warmer 13 = .ok (.iconst 3, 1) := by decide +kernel
theorem dX8_warmer_14 : decode cX8_warmer 14 = .ok (.irem, 1) := by decide +kernel
theorem dX8_warmer_15 : decode cX8_warmer 15 = .ok (.istore_n 3, 1) := by decide +kernel
theorem dX8_warmer_16 : decode cX8_warmer 16 = .ok (.iload_n 1, 1) := by decide +kernel
theorem dX8_warmer_17 : decode cX8_warmer 17 = .ok (.iconst 2, 1) := by decide +kernel
theorem dX8_warmer_18 : decode cX8_warmer 18 = .ok (.iadd, 1) := by decide +kernel
theorem dX8_warmer_19 : decode cX8_warmer 19 = .ok (.iconst 3, 1) := by decide +kernel
theorem dX8_warmer_20 : decode cX8_warmer 20 = .ok (.irem, 1) := by decide +kernel
theorem dX8_warmer_21 : decode cX8_warmer 21 = .ok (.istore 4, 2) := by decide +kernel
theorem dX8_warmer_23 : decode cX8_warmer 23 = .ok (.iload_n 2, 1) := by decide +kernel
theorem dX8_warmer_24 : decode cX8_warmer 24 = .ok (.aload_n 0, 1) := by decide +kernel
theorem dX8_warmer_25 : decode cX8_warmer 25 = .ok (.iload_n 1, 1) := by decide +kernel
theorem dX8_warmer_26 : decode cX8_warmer 26 = .ok (.invokevirtual 89, 3) := by decide +kernel
theorem dX8_warmer_29 : decode cX8_warmer 29 = .ok (.ifCond .eq 17, 3) := by decide +kernel
theorem dX8_warmer_32 : decode cX8_warmer 32 = .ok (.aload_n 0, 1) := by decide +kernel
theorem dX8_warmer_33 : decode cX8_warmer 33 = .ok (.getfield 7, 3) := by decide +kernel
theorem dX8_warmer_36 : decode cX8_warmer 36 = .ok (.iload_n 1, 1) := by decide +kernel
theorem dX8_warmer_37 : decode cX8_warmer 37 = .ok (.invokestatic 46, 3) := by decide +kernel
theorem dX8_warmer_40 : decode cX8_warmer 40 = .ok (.iconst 1, 1) := by decide +kernel
theorem dX8_warmer_41 : decode cX8_warmer 41 = .ok (.iadd, 1) := by decide +kernel
theorem dX8_warmer_42 : decode cX8_warmer 42 = .ok (.iaload, 1) := by decide +kernel
theorem dX8_warmer_43 : decode cX8_warmer 43 = .ok (.goto 4, 3) := by decide +kernel
theorem dX8_warmer_46 : decode cX8_warmer 46 = .ok (.iconst 0, 1) := by decide +kernel
theorem dX8_warmer_47 : decode cX8_warmer 47 = .ok (.iadd, 1) := by decide +kernel
theorem dX8_warmer_48 : decode cX8_warmer 48 = .ok (.istore 5, 2) := by decide +kernel
theorem dX8_warmer_50 : decode cX8_warmer 50 = .ok (.iload 5, 2) := by decide +kernel
theorem dX8_warmer_52 : decode cX8_warmer 52 = .ok (.iload_n 2, 1) := by decide +kernel
theorem dX8_warmer_53 : decode cX8_warmer 53 = .ok (.aload_n 0, 1) := by decide +kernel
theorem dX8_warmer_54 : decode cX8_warmer 54 = .ok (.getfield 7, 3) := by decide +kernel
theorem dX8_warmer_57 : decode cX8_warmer 57 = .ok (.bipush 8, 2) := by decide +kernel
theorem dX8_warmer_59 : decode cX8_warmer 59 = .ok (.iaload, 1) := by decide +kernel
theorem dX8_warmer_60 : decode cX8_warmer 60 = .ok (.isub, 1) := by decide +kernel
theorem dX8_warmer_61 : decode cX8_warmer 61 = .ok (.aload_n 0, 1) := by decide +kernel
theorem dX8_warmer_62 : decode cX8_warmer 62 = .ok (.getfield 7, 3) := by decide +kernel
theorem dX8_warmer_65 : decode cX8_warmer 65 = .ok (.iload_n 1, 1) := by decide +kernel
theorem dX8_warmer_66 : decode cX8_warmer 66 = .ok (.invokestatic 46, 3) := by decide +kernel
theorem dX8_warmer_69 : decode cX8_warmer 69 = .ok (.iconst 2, 1) := by decide +kernel
theorem dX8_warmer_70 : decode cX8_warmer 70 = .ok (.iadd, 1) := by decide +kernel
theorem dX8_warmer_71 : decode cX8_warmer 71 = .ok (.iaload, 1) := by decide +kernel
theorem dX8_warmer_72 : decode cX8_warmer 72 = .ok (.idiv, 1) := by decide +kernel
theorem dX8_warmer_73 : decode cX8_warmer 73 = .ok (.isub, 1) := by decide +kernel
theorem dX8_warmer_74 : decode cX8_warmer 74 = .ok (.istore 5, 2) := by decide +kernel
theorem dX8_warmer_76 : decode cX8_warmer 76 = .ok (.iload 5, 2) := by decide +kernel
theorem dX8_warmer_78 : decode cX8_warmer 78 = .ok (.aload_n 0, 1) := by decide +kernel
theorem dX8_warmer_79 : decode cX8_warmer 79 = .ok (.iload_n 1, 1) := by decide +kernel
theorem dX8_warmer_80 : decode cX8_warmer 80 = .ok (.invokevirtual 92, 3) := by decide +kernel
theorem dX8_warmer_83 : decode cX8_warmer 83 = .ok (.ifCond .eq 20, 3) := by decide +kernel
theorem dX8_warmer_86 : decode cX8_warmer 86 = .ok (.iload_n 2, 1) := by decide +kernel
theorem dX8_warmer_87 : decode cX8_warmer 87 = .ok (.aload_n 0, 1) := by decide +kernel
theorem dX8_warmer_88 : decode cX8_warmer 88 = .ok (.getfield 7, 3) := by decide +kernel
theorem dX8_warmer_91 : decode cX8_warmer 91 = .ok (.iload_n 3, 1) := by decide +kernel
theorem dX8_warmer_92 : decode cX8_warmer 92 = .ok (.invokestatic 46, 3) := by decide +kernel
theorem dX8_warmer_95 : decode cX8_warmer 95 = .ok (.iaload, 1) := by decide +kernel
theorem dX8_warmer_96 : decode cX8_warmer 96 = .ok (.isub, 1) := by decide +kernel
theorem dX8_warmer_97 : decode cX8_warmer 97 = .ok (.bipush 10, 2) := by decide +kernel
theorem dX8_warmer_99 : decode cX8_warmer 99 = .ok (.idiv, 1) := by decide +kernel
theorem dX8_warmer_100 : decode cX8_warmer 100 = .ok (.goto 4, 3) := by decide +kernel
theorem dX8_warmer_103 : decode cX8_warmer 103 = .ok (.iconst 0, 1) := by decide +kernel
theorem dX8_warmer_104 : decode cX8_warmer 104 = .ok (.isub, 1) := by decide +kernel
theorem dX8_warmer_105 : decode cX8_warmer 105 = .ok (.istore 5, 2) := by decide +kernel
theorem dX8_warmer_107 : decode cX8_warmer 107 = .ok (.iload 5, 2) := by decide +kernel
theorem dX8_warmer_109 : decode cX8_warmer 109 = .ok (.aload_n 0, 1) := by decide +kernel
theorem dX8_warmer_110 : decode cX8_warmer 110 = .ok (.iload 4, 2) := by decide +kernel
theorem dX8_warmer_112 : decode cX8_warmer 112 = .ok (.invokevirtual 92, 3) := by decide +kernel
theorem dX8_warmer_115 : decode cX8_warmer 115 = .ok (.ifCond .eq 21, 3) := by decide +kernel
theorem dX8_warmer_118 : decode cX8_warmer 118 = .ok (.iload_n 2, 1) := by decide +kernel
theorem dX8_warmer_119 : decode cX8_warmer 119 = .ok (.aload_n 0, 1) := by decide +kernel
theorem dX8_warmer_120 : decode cX8_warmer 120 = .ok (.getfield 7, 3) := by decide +kernel
theorem dX8_warmer_123 : decode cX8_warmer 123 = .ok (.iload 4, 2) := by decide +kernel
theorem dX8_warmer_125 : decode cX8_warmer 125 = .ok (.invokestatic 46, 3) := by decide +kernel
theorem dX8_warmer_128 : decode cX8_warmer 128 = .ok (.iaload, 1) := by decide +kernel
theorem dX8_warmer_129 : decode cX8_warmer 129 = .ok (.isub, 1) := by decide +kernel
theorem dX8_warmer_130 : decode cX8_warmer 130 = .ok (.bipush 10, 2) := by decide +kernel
theorem dX8_warmer_132 : decode cX8_warmer 132 = .ok (.idiv, 1) := by decide +kernel
theorem dX8_warmer_133 : decode cX8_warmer 133 = .ok (.goto 4, 3) := by decide +kernel
theorem dX8_warmer_136 : decode cX8_warmer 136 = .ok (.iconst 0, 1) := by decide +kernel
theorem dX8_warmer_137 : decode cX8_warmer 137 = .ok (.isub, 1) := by decide +kernel
theorem dX8_warmer_138 : decode cX8_warmer 138 = .ok (.istore 5, 2) := by decide +kernel
theorem dX8_warmer_140 : decode cX8_warmer 140 = .ok (.iload 5, 2) := by decide +kernel
theorem dX8_warmer_142 : decode cX8_warmer 142 = .ok (.sipush (-500), 3) := by decide +kernel
theorem dX8_warmer_145 : decode cX8_warmer 145 = .ok (.if_icmp .ge 9, 3) := by decide +kernel
theorem dX8_warmer_148 : decode cX8_warmer 148 = .ok (.sipush (-500), 3) := by decide +kernel
theorem dX8_warmer_151 : decode cX8_warmer 151 = .ok (.goto 19, 3) := by decide +kernel
theorem dX8_warmer_154 : decode cX8_warmer 154 = .ok (.iload 5, 2) := by decide +kernel
theorem dX8_warmer_156 : decode cX8_warmer 156 = .ok (.sipush 1500, 3) := by decide +kernel
theorem dX8_warmer_159 : decode cX8_warmer 159 = .ok (.if_icmp .le 9, 3) := by decide +kernel
theorem dX8_warmer_162 : decode cX8_warmer 162 = .ok (.sipush 1500, 3) := by decide +kernel
theorem dX8_warmer_165 : decode cX8_warmer 165 = .ok (.goto 5, 3) := by decide +kernel
theorem dX8_warmer_168 : decode cX8_warmer 168 = .ok (.iload 5, 2) := by decide +kernel
theorem dX8_warmer_170 : decode cX8_warmer 170 = .ok (.ireturn, 1) := by decide +kernel
theorem dX8_laysBends_0 : decode cX8_laysBends 0 = .ok (.iconst 0, 1) := by decide +kernel
theorem dX8_laysBends_1 : decode cX8_laysBends 1 = .ok (.istore_n 1, 1) := by decide +kernel
theorem dX8_laysBends_2 : decode cX8_laysBends 2 = .ok (.iload_n 1, 1) := by decide +kernel
theorem dX8_laysBends_3 : decode cX8_laysBends 3 = .ok (.iconst 3, 1) := by decide +kernel
theorem dX8_laysBends_4 : decode cX8_laysBends 4 = .ok (.if_icmp .ge 20, 3) := by decide +kernel
theorem dX8_laysBends_7 : decode cX8_laysBends 7 = .ok (.aload_n 0, 1) := by decide +kernel
theorem dX8_laysBends_8 : decode cX8_laysBends 8 = .ok (.getfield 22, 3) := by decide +kernel
theorem dX8_laysBends_11 : decode cX8_laysBends 11 = .ok (.iload_n 1, 1) := by decide +kernel
theorem dX8_laysBends_12 : decode cX8_laysBends 12 = .ok (.aload_n 0, 1) := by decide +kernel
theorem dX8_laysBends_13 : decode cX8_laysBends 13 = .ok (.iload_n 1, 1) := by decide +kernel
theorem dX8_laysBends_14 : decode cX8_laysBends 14 = .ok (.invokevirtual 72, 3) := by decide +kernel
theorem dX8_laysBends_17 : decode cX8_laysBends 17 = .ok (.iastore, 1) := by decide +kernel
theorem dX8_laysBends_18 : decode cX8_laysBends 18 = .ok (.iinc 1 1, 3) := by decide +kernel
theorem dX8_laysBends_21 : decode cX8_laysBends 21 = .ok (.goto (-19), 3) := by decide +kernel
theorem dX8_laysBends_24 : decode cX8_laysBends 24 = .ok (.return_, 1) := by decide +kernel
theorem dX8_ticks_0 : decode cX8_ticks 0 = .ok (.aload_n 0, 1) := by decide +kernel
theorem dX8_ticks_1 : decode cX8_ticks 1 = .ok (.iconst 0, 1) := by decide +kernel
theorem dX8_ticks_2 : decode cX8_ticks 2 = .ok (.invokevirtual 95, 3) := by decide +kernel
theorem dX8_ticks_5 : decode cX8_ticks 5 = .ok (.istore_n 2, 1) := by decide +kernel
theorem dX8_ticks_6 : decode cX8_ticks 6 = .ok (.aload_n 0, 1) := by decide +kernel
theorem dX8_ticks_7 : decode cX8_ticks 7 = .ok (.iconst 1, 1) := by decide +kernel
theorem dX8_ticks_8 : decode cX8_ticks 8 = .ok (.invokevirtual 95, 3) := by decide +kernel
theorem dX8_ticks_11 : decode cX8_ticks 11 = .ok (.istore_n 3, 1) := by decide +kernel
theorem dX8_ticks_12 : decode cX8_ticks 12 = .ok (.aload_n 0, 1) := by decide +kernel
theorem dX8_ticks_13 : decode cX8_ticks 13 = .ok (.iconst 2, 1) := by decide +kernel
theorem dX8_ticks_14 : decode cX8_ticks 14 = .ok (.invokevirtual 95, 3) := by decide +kernel
theorem dX8_ticks_17 : decode cX8_ticks 17 = .ok (.istore 4, 2) := by decide +kernel
theorem dX8_ticks_19 : decode cX8_ticks 19 = .ok (.aload_n 0, 1) := by decide +kernel
theorem dX8_ticks_20 : decode cX8_ticks 20 = .ok (.getfield 7, 3) := by decide +kernel
theorem dX8_ticks_23 : decode cX8_ticks 23 = .ok (.bipush 9, 2) := by decide +kernel
theorem dX8_ticks_25 : decode cX8_ticks 25 = .ok (.iaload, 1) := by decide +kernel
theorem dX8_ticks_26 : decode cX8_ticks 26 = .ok (.ifCond .ne 7, 3) := by decide +kernel
theorem dX8_ticks_29 : decode cX8_ticks 29 = .ok (.iconst 1, 1) := by decide +kernel
theorem dX8_ticks_30 : decode cX8_ticks 30 = .ok (.goto 4, 3) := by decide +kernel
theorem dX8_ticks_33 : decode cX8_ticks 33 = .ok (.iconst 0, 1) := by decide +kernel
theorem dX8_ticks_34 : decode cX8_ticks 34 = .ok (.istore 5, 2) := by decide +kernel
theorem dX8_ticks_36 : decode cX8_ticks 36 = .ok (.iconst 0, 1) := by decide +kernel
theorem dX8_ticks_37 : decode cX8_ticks 37 = .ok (.istore 6, 2) := by decide +kernel
theorem dX8_ticks_39 : decode cX8_ticks 39 = .ok (.iload 6, 2) := by decide +kernel
theorem dX8_ticks_41 : decode cX8_ticks 41 = .ok (.iconst 3, 1) := by decide +kernel
theorem dX8_ticks_42 : decode cX8_ticks 42 = .ok (.if_icmp .ge 163, 3) := by decide +kernel
theorem dX8_ticks_45 : decode cX8_ticks 45 = .ok (.iload 6, 2) := by decide +kernel
theorem dX8_ticks_47 : decode cX8_ticks 47 = .ok (.invokestatic 46, 3) := by decide +kernel
theorem dX8_ticks_50 : decode cX8_ticks 50 = .ok (.istore 7, 2) := by decide +kernel
theorem dX8_ticks_52 : decode cX8_ticks 52 = .ok (.iload 6, 2) := by decide +kernel
theorem dX8_ticks_54 : decode cX8_ticks 54 = .ok (.ifCond .ne 7, 3) := by decide +kernel
theorem dX8_ticks_57 : decode cX8_ticks 57 = .ok (.iload_n 2, 1) := by decide +kernel
theorem dX8_ticks_58 : decode cX8_ticks 58 = .ok (.goto 15, 3) := by decide +kernel
theorem dX8_ticks_61 : decode cX8_ticks 61 = .ok (.iload 6, 2) := by decide +kernel
theorem dX8_ticks_63 : decode cX8_ticks 63 = .ok (.iconst 1, 1) := by decide +kernel
theorem dX8_ticks_64 : decode cX8_ticks 64 = .ok (.if_icmp .ne 7, 3) := by decide +kernel
theorem dX8_ticks_67 : decode cX8_ticks 67 = .ok (.iload_n 3, 1) := by decide +kernel
theorem dX8_ticks_68 : decode cX8_ticks 68 = .ok (.goto 5, 3) := by decide +kernel
theorem dX8_ticks_71 : decode cX8_ticks 71 = .ok (.iload 4, 2) := by decide +kernel
theorem dX8_ticks_73 : decode cX8_ticks 73 = .ok (.istore 8, 2) := by decide +kernel
theorem dX8_ticks_75 : decode cX8_ticks 75 = .ok (.aload_n 0, 1) := by decide +kernel
theorem dX8_ticks_76 : decode cX8_ticks 76 = .ok (.getfield 7, 3) := by decide +kernel
theorem dX8_ticks_79 : decode cX8_ticks 79 = .ok (.iload 7, 2) := by decide +kernel
theorem dX8_ticks_81 : decode cX8_ticks 81 = .ok (.iconst 4, 1) := by decide +kernel
theorem dX8_ticks_82 : decode cX8_ticks 82 = .ok (.iadd, 1) := by decide +kernel
theorem dX8_ticks_83 : decode cX8_ticks 83 = .ok (.dup2, 1) := by decide +kernel
theorem dX8_ticks_84 : decode cX8_ticks 84 = .ok (.iaload, 1) := by decide +kernel
theorem dX8_ticks_85 : decode cX8_ticks 85 = .ok (.aload_n 0, 1) := by decide +kernel
theorem dX8_ticks_86 : decode cX8_ticks 86 = .ok (.iload 6, 2) := by decide +kernel
theorem dX8_ticks_88 : decode cX8_ticks 88 = .ok (.invokevirtual 89, 3) := by decide +kernel
theorem dX8_ticks_91 : decode cX8_ticks 91 = .ok (.ifCond .eq 7, 3) := by decide +kernel
theorem dX8_ticks_94 : decode cX8_ticks 94 = .ok (.iconst 1, 1) := by decide +kernel
theorem dX8_ticks_95 : decode cX8_ticks 95 = .ok (.goto 4, 3) := by decide +kernel
theorem dX8_ticks_98 : decode cX8_ticks 98 = .ok (.iconst 0, 1) := by decide +kernel
theorem dX8_ticks_99 : decode cX8_ticks 99 = .ok (.iadd, 1) := by decide +kernel
theorem dX8_ticks_100 : decode cX8_ticks 100 = .ok (.iastore, 1) := by decide +kernel
theorem dX8_ticks_101 : decode cX8_ticks 101 = .ok (.aload_n 0, 1) := by decide +kernel
theorem dX8_ticks_102 : decode cX8_ticks 102 = .ok (.getfield 7, 3) := by decide +kernel
theorem dX8_ticks_105 : decode cX8_ticks 105 = .ok (.iload 7, 2) := by decide +kernel
theorem dX8_ticks_107 : decode cX8_ticks 107 = .ok (.iconst 0, 1) := by decide +kernel
theorem dX8_ticks_108 : decode cX8_ticks 108 = .ok (.iadd, 1) := by decide +kernel
theorem dX8_ticks_109 : decode cX8_ticks 109 = .ok (.iload 8, 2) := by decide +kernel
theorem dX8_ticks_111 : decode cX8_ticks 111 = .ok (.iastore, 1) := by decide +kernel
theorem dX8_ticks_112 : decode cX8_ticks 112 = .ok (.aload_n 0, 1) := by decide +kernel
theorem dX8_ticks_113 : decode cX8_ticks 113 = .ok (.getfield 7, 3) := by decide +kernel
theorem dX8_ticks_116 : decode cX8_ticks 116 = .ok (.iload 7, 2) := by decide +kernel
theorem dX8_ticks_118 : decode cX8_ticks 118 = .ok (.iconst 5, 1) := by decide +kernel
theorem dX8_ticks_119 : decode cX8_ticks 119 = .ok (.iadd, 1) := by decide +kernel
theorem dX8_ticks_120 : decode cX8_ticks 120 = .ok (.iload 5, 2) := by decide +kernel
theorem dX8_ticks_122 : decode cX8_ticks 122 = .ok (.ifCond .ne 17, 3) := by decide +kernel
theorem dX8_ticks_125 : decode cX8_ticks 125 = .ok (.iload 8, 2) := by decide +kernel
theorem dX8_ticks_127 : decode cX8_ticks 127 = .ok (.aload_n 0, 1) := by decide +kernel
theorem dX8_ticks_128 : decode cX8_ticks 128 = .ok (.getfield 7, 3) := by decide +kernel
theorem dX8_ticks_131 : decode cX8_ticks 131 = .ok (.iload 7, 2) := by decide +kernel
theorem dX8_ticks_133 : decode cX8_ticks 133 = .ok (.iconst 5, 1) := by decide +kernel
theorem dX8_ticks_134 : decode cX8_ticks 134 = .ok (.iadd, 1) := by decide +kernel
theorem dX8_ticks_135 : decode cX8_ticks 135 = .ok (.iaload, 1) := by decide +kernel
theorem dX8_ticks_136 : decode cX8_ticks 136 = .ok (.if_icmp .le 8, 3) := by decide +kernel
theorem dX8_ticks_139 : decode cX8_ticks 139 = .ok (.iload 8, 2) := by decide +kernel
theorem dX8_ticks_141 : decode cX8_ticks 141 = .ok (.goto 12, 3) := by decide +kernel
theorem dX8_ticks_144 : decode cX8_ticks 144 = .ok (.aload_n 0, 1) := by decide +kernel
theorem dX8_ticks_145 : decode cX8_ticks 145 = .ok (.getfield 7, 3) := by decide +kernel
theorem dX8_ticks_148 : decode cX8_ticks 148 = .ok (.iload 7, 2) := by decide +kernel
theorem dX8_ticks_150 : decode cX8_ticks 150 = .ok (.iconst 5, 1) := by decide +kernel
theorem dX8_ticks_151 : decode cX8_ticks 151 = .ok (.iadd, 1) := by decide +kernel
theorem dX8_ticks_152 : decode cX8_ticks 152 = .ok (.iaload, 1) := by decide +kernel
theorem dX8_ticks_153 : decode cX8_ticks 153 = .ok (.iastore, 1) := by decide +kernel
theorem dX8_ticks_154 : decode cX8_ticks 154 = .ok (.aload_n 0, 1) := by decide +kernel
theorem dX8_ticks_155 : decode cX8_ticks 155 = .ok (.getfield 7, 3) := by decide +kernel
theorem dX8_ticks_158 : decode cX8_ticks 158 = .ok (.iload 7, 2) := by decide +kernel
theorem dX8_ticks_160 : decode cX8_ticks 160 = .ok (.bipush 6, 2) := by decide +kernel
theorem dX8_ticks_162 : decode cX8_ticks 162 = .ok (.iadd, 1) := by decide +kernel
theorem dX8_ticks_163 : decode cX8_ticks 163 = .ok (.iload 5, 2) := by decide +kernel
theorem dX8_ticks_165 : decode cX8_ticks 165 = .ok (.ifCond .ne 18, 3) := by decide +kernel
theorem dX8_ticks_168 : decode cX8_ticks 168 = .ok (.iload 8, 2) := by decide +kernel
theorem dX8_ticks_170 : decode cX8_ticks 170 = .ok (.aload_n 0, 1) := by decide +kernel
theorem dX8_ticks_171 : decode cX8_ticks 171 = .ok (.getfield 7, 3) := by decide +kernel
theorem dX8_ticks_174 : decode cX8_ticks 174 = .ok (.iload 7, 2) := by decide +kernel
theorem dX8_ticks_176 : decode cX8_ticks 176 = .ok (.bipush 6, 2) := by decide +kernel
theorem dX8_ticks_178 : decode cX8_ticks 178 = .ok (.iadd, 1) := by decide +kernel
theorem dX8_ticks_179 : decode cX8_ticks 179 = .ok (.iaload, 1) := by decide +kernel
theorem dX8_ticks_180 : decode cX8_ticks 180 = .ok (.if_icmp .ge 8, 3) := by decide +kernel
theorem dX8_ticks_183 : decode cX8_ticks 183 = .ok (.iload 8, 2) := by decide +kernel
theorem dX8_ticks_185 : decode cX8_ticks 185 = .ok (.goto 13, 3) := by decide +kernel
theorem dX8_ticks_188 : decode cX8_ticks 188 = .ok (.aload_n 0, 1) := by decide +kernel
theorem dX8_ticks_189 : decode cX8_ticks 189 = .ok (.getfield 7, 3) := by decide +kernel
theorem dX8_ticks_192 : decode cX8_ticks 192 = .ok (.iload 7, 2) := by decide +kernel
theorem dX8_ticks_194 : decode cX8_ticks 194 = .ok (.bipush 6, 2) := by decide +kernel
theorem dX8_ticks_196 : decode cX8_ticks 196 = .ok (.iadd, 1) := by decide +kernel
theorem dX8_ticks_197 : decode cX8_ticks 197 = .ok (.iaload, 1) := by decide +kernel
theorem dX8_ticks_198 : decode cX8_ticks 198 = .ok (.iastore, 1) := by decide +kernel
theorem dX8_ticks_199 : decode cX8_ticks 199 = .ok (.iinc 6 1, 3) := by decide +kernel
theorem dX8_ticks_202 : decode cX8_ticks 202 = .ok (.goto (-163), 3) := by decide +kernel
theorem dX8_ticks_205 : decode cX8_ticks 205 = .ok (.aload_n 0, 1) := by decide +kernel
theorem dX8_ticks_206 : decode cX8_ticks 206 = .ok (.getfield 7, 3) := by decide +kernel
theorem dX8_ticks_209 : decode cX8_ticks 209 = .ok (.bipush 9, 2) := by decide +kernel
theorem dX8_ticks_211 : decode cX8_ticks 211 = .ok (.dup2, 1) := by decide +kernel
theorem dX8_ticks_212 : decode cX8_ticks 212 = .ok (.iaload, 1) := by decide +kernel
theorem dX8_ticks_213 : decode cX8_ticks 213 = .ok (.iconst 1, 1) := by decide +kernel
theorem dX8_ticks_214 : decode cX8_ticks 214 = .ok (.iadd, 1) := by decide +kernel
theorem dX8_ticks_215 : decode cX8_ticks 215 = .ok (.iastore, 1) := by decide +kernel
theorem dX8_ticks_216 : decode cX8_ticks 216 = .ok (.iconst 0, 1) := by decide +kernel
theorem dX8_ticks_217 : decode cX8_ticks 217 = .ok (.istore 6, 2) := by decide +kernel
theorem dX8_ticks_219 : decode cX8_ticks 219 = .ok (.iconst 0, 1) := by decide +kernel
theorem dX8_ticks_220 : decode cX8_ticks 220 = .ok (.istore 7, 2) := by decide +kernel
theorem dX8_ticks_222 : decode cX8_ticks 222 = .ok (.iload 7, 2) := by decide +kernel
theorem dX8_ticks_224 : decode cX8_ticks 224 = .ok (.iconst 3, 1) := by decide +kernel
theorem dX8_ticks_225 : decode cX8_ticks 225 = .ok (.if_icmp .ge 28, 3) := by decide +kernel
theorem dX8_ticks_228 : decode cX8_ticks 228 = .ok (.iload 6, 2) := by decide +kernel
theorem dX8_ticks_230 : decode cX8_ticks 230 = .ok (.aload_n 0, 1) := by decide +kernel
theorem dX8_ticks_231 : decode cX8_ticks 231 = .ok (.iload 7, 2) := by decide +kernel
theorem dX8_ticks_233 : decode cX8_ticks 233 = .ok (.aload_n 0, 1) := by decide +kernel
theorem dX8_ticks_234 : decode cX8_ticks 234 = .ok (.getfield 22, 3) := by decide +kernel
theorem dX8_ticks_237 : decode cX8_ticks 237 = .ok (.iload 7, 2) := by decide +kernel
theorem dX8_ticks_239 : decode cX8_ticks 239 = .ok (.iaload, 1) := by decide +kernel
theorem dX8_ticks_240 : decode cX8_ticks 240 = .ok (.iload_n 1, 1) := by decide +kernel
theorem dX8_ticks_241 : decode cX8_ticks 241 = .ok (.invokevirtual 98, 3) := by decide +kernel
theorem dX8_ticks_244 : decode cX8_ticks 244 = .ok (.iadd, 1) := by decide +kernel
theorem dX8_ticks_245 : decode cX8_ticks 245 = .ok (.istore 6, 2) := by decide +kernel
theorem dX8_ticks_247 : decode cX8_ticks 247 = .ok (.iinc 7 1, 3) := by decide +kernel
theorem dX8_ticks_250 : decode cX8_ticks 250 = .ok (.goto (-28), 3) := by decide +kernel
theorem dX8_ticks_253 : decode cX8_ticks 253 = .ok (.iload 6, 2) := by decide +kernel
theorem dX8_ticks_255 : decode cX8_ticks 255 = .ok (.ireturn, 1) := by decide +kernel
theorem dX8_goes_0 : decode cX8_goes 0 = .ok (.aload_n 0, 1) := by decide +kernel
theorem dX8_goes_1 : decode cX8_goes 1 = .ok (.invokevirtual 102, 3) := by decide +kernel
theorem dX8_goes_4 : decode cX8_goes 4 = .ok (.iconst 0, 1) := by decide +kernel
theorem dX8_goes_5 : decode cX8_goes 5 = .ok (.istore_n 2, 1) := by decide +kernel
theorem dX8_goes_6 : decode cX8_goes 6 = .ok (.iconst 0, 1) := by decide +kernel
theorem dX8_goes_7 : decode cX8_goes 7 = .ok (.istore_n 3, 1) := by decide +kernel
theorem dX8_goes_8 : decode cX8_goes 8 = .ok (.iload_n 3, 1) := by decide +kernel
theorem dX8_goes_9 : decode cX8_goes 9 = .ok (.iload_n 1, 1) := by decide +kernel
theorem dX8_goes_10 : decode cX8_goes 10 = .ok (.if_icmp .ge 17, 3) := by decide +kernel
theorem dX8_goes_13 : decode cX8_goes 13 = .ok (.iload_n 2, 1) := by decide +kernel
theorem dX8_goes_14 : decode cX8_goes 14 = .ok (.aload_n 0, 1) := by decide +kernel
theorem dX8_goes_15 : decode cX8_goes 15 = .ok (.iconst 1, 1) := by decide +kernel
theorem dX8_goes_16 : decode cX8_goes 16 = .ok (.invokevirtual 105, 3) := by decide +kernel
theorem dX8_goes_19 : decode cX8_goes 19 = .ok (.iadd, 1) := by decide +kernel
theorem dX8_goes_20 : decode cX8_goes 20 = .ok (.istore_n 2, 1) := by decide +kernel
theorem dX8_goes_21 : decode cX8_goes 21 = .ok (.iinc 3 1, 3) := by decide +kernel
theorem dX8_goes_24 : decode cX8_goes 24 = .ok (.goto (-16), 3) := by decide +kernel
theorem dX8_goes_27 : decode cX8_goes 27 = .ok (.iload_n 2, 1) := by decide +kernel
theorem dX8_goes_28 : decode cX8_goes 28 = .ok (.ireturn, 1) := by decide +kernel
theorem dX8_metal_0 : decode cX8_metal 0 = .ok (.aload_n 0, 1) := by decide +kernel
theorem dX8_metal_1 : decode cX8_metal 1 = .ok (.invokevirtual 109, 3) := by decide +kernel
theorem dX8_metal_4 : decode cX8_metal 4 = .ok (.aload_n 0, 1) := by decide +kernel
theorem dX8_metal_5 : decode cX8_metal 5 = .ok (.iload_n 1, 1) := by decide +kernel
theorem dX8_metal_6 : decode cX8_metal 6 = .ok (.iconst 0, 1) := by decide +kernel
theorem dX8_metal_7 : decode cX8_metal 7 = .ok (.iconst 5, 1) := by decide +kernel
theorem dX8_metal_8 : decode cX8_metal 8 = .ok (.invokestatic 49, 3) := by decide +kernel
theorem dX8_metal_11 : decode cX8_metal 11 = .ok (.ifCond .eq 24, 3) := by decide +kernel
theorem dX8_metal_14 : decode cX8_metal 14 = .ok (.iload_n 2, 1) := by decide +kernel
theorem dX8_metal_15 : decode cX8_metal 15 = .ok (.iconst 0, 1) := by decide +kernel
theorem dX8_metal_16 : decode cX8_metal 16 = .ok (.bipush 30, 2) := by decide +kernel
theorem dX8_metal_18 : decode cX8_metal 18 = .ok (.invokestatic 49, 3) := by decide +kernel
theorem dX8_metal_21 : decode cX8_metal 21 = .ok (.ifCond .eq 14, 3) := by decide +kernel
theorem dX8_metal_24 : decode cX8_metal 24 = .ok (.aload_n 0, 1) := by decide +kernel
theorem dX8_metal_25 : decode cX8_metal 25 = .ok (.iconst 0, 1) := by decide +kernel
theorem dX8_metal_26 : decode cX8_metal 26 = .ok (.iload_n 1, 1) := by decide +kernel
theorem dX8_metal_27 : decode cX8_metal 27 = .ok (.iadd, 1) := by decide +kernel
theorem dX8_metal_28 : decode cX8_metal 28 = .ok (.iload_n 2, 1) := by decide +kernel
theorem dX8_metal_29 : decode cX8_metal 29 = .ok (.invokevirtual 112, 3) := by decide +kernel
theorem dX8_metal_32 : decode cX8_metal 32 = .ok (.goto 5, 3) := by decide +kernel
theorem dX8_metal_35 : decode cX8_metal 35 = .ok (.ldc 53, 2) := by decide +kernel
theorem dX8_metal_37 : decode cX8_metal 37 = .ok (.invokevirtual 115, 3) := by decide +kernel
theorem dX8_metal_40 : decode cX8_metal 40 = .ok (.ireturn, 1) := by decide +kernel
theorem dX8_isMetal_0 : decode cX8_isMetal 0 = .ok (.iload_n 0, 1) := by decide +kernel
theorem dX8_isMetal_1 : decode cX8_isMetal 1 = .ok (.iconst 0, 1) := by decide +kernel
theorem dX8_isMetal_2 : decode cX8_isMetal 2 = .ok (.iconst 5, 1) := by decide +kernel
theorem dX8_isMetal_3 : decode cX8_isMetal 3 = .ok (.invokestatic 49, 3) := by decide +kernel
theorem dX8_isMetal_6 : decode cX8_isMetal 6 = .ok (.ireturn, 1) := by decide +kernel
theorem dX8_part_0 : decode cX8_part 0 = .ok (.aload_n 0, 1) := by decide +kernel
theorem dX8_part_1 : decode cX8_part 1 = .ok (.invokevirtual 109, 3) := by decide +kernel
theorem dX8_part_4 : decode cX8_part 4 = .ok (.iload_n 1, 1) := by decide +kernel
theorem dX8_part_5 : decode cX8_part 5 = .ok (.invokestatic 118, 3) := by decide +kernel
theorem dX8_part_8 : decode cX8_part 8 = .ok (.ifCond .eq 32, 3) := by decide +kernel
theorem dX8_part_11 : decode cX8_part 11 = .ok (.iload_n 2, 1) := by decide +kernel
theorem dX8_part_12 : decode cX8_part 12 = .ok (.iconst 1, 1) := by decide +kernel
theorem dX8_part_13 : decode cX8_part 13 = .ok (.bipush 9, 2) := by decide +kernel
theorem dX8_part_15 : decode cX8_part 15 = .ok (.invokestatic 49, 3) := by decide +kernel
theorem dX8_part_18 : decode cX8_part 18 = .ok (.ifCond .eq 22, 3) := by decide +kernel
theorem dX8_part_21 : decode cX8_part 21 = .ok (.iload_n 3, 1) := by decide +kernel
theorem dX8_part_22 : decode cX8_part 22 = .ok (.invokestatic 121, 3) := by decide +kernel
theorem dX8_part_25 : decode cX8_part 25 = .ok (.ifCond .eq 15, 3) := by decide +kernel
theorem dX8_part_28 : decode cX8_part 28 = .ok (.iload 4, 2) := by decide +kernel
theorem dX8_part_30 : decode cX8_part 30 = .ok (.invokestatic 121, 3) := by decide +kernel
theorem dX8_part_33 : decode cX8_part 33 = .ok (.ifCond .eq 7, 3) := by decide +kernel
theorem dX8_part_36 : decode cX8_part 36 = .ok (.iconst 1, 1) := by decide +kernel
theorem dX8_part_37 : decode cX8_part 37 = .ok (.goto 4, 3) := by decide +kernel
theorem dX8_part_40 : decode cX8_part 40 = .ok (.iconst 0, 1) := by decide +kernel
theorem dX8_part_41 : decode cX8_part 41 = .ok (.istore 5, 2) := by decide +kernel
theorem dX8_part_43 : decode cX8_part 43 = .ok (.aload_n 0, 1) := by decide +kernel
theorem dX8_part_44 : decode cX8_part 44 = .ok (.iload 5, 2) := by decide +kernel
theorem dX8_part_46 : decode cX8_part 46 = .ok (.ifCond .eq 15, 3) := by decide +kernel
theorem dX8_part_49 : decode cX8_part 49 = .ok (.aload_n 0, 1) := by decide +kernel
theorem dX8_part_50 : decode cX8_part 50 = .ok (.iload_n 1, 1) := by decide +kernel
theorem dX8_part_51 : decode cX8_part 51 = .ok (.iload_n 2, 1) := by decide +kernel
theorem dX8_part_52 : decode cX8_part 52 = .ok (.iload_n 3, 1) := by decide +kernel
theorem dX8_part_53 : decode cX8_part 53 = .ok (.iload 4, 2) := by decide +kernel
theorem dX8_part_55 : decode cX8_part 55 = .ok (.invokevirtual 124, 3) := by decide +kernel
theorem dX8_part_58 : decode cX8_part 58 = .ok (.goto 5, 3) := by decide +kernel
theorem dX8_part_61 : decode cX8_part 61 = .ok (.ldc 53, 2) := by decide +kernel
theorem dX8_part_63 : decode cX8_part 63 = .ok (.invokevirtual 115, 3) := by decide +kernel
theorem dX8_part_66 : decode cX8_part 66 = .ok (.ireturn, 1) := by decide +kernel
theorem dX8_cut_0 : decode cX8_cut 0 = .ok (.aload_n 0, 1) := by decide +kernel
theorem dX8_cut_1 : decode cX8_cut 1 = .ok (.invokevirtual 109, 3) := by decide +kernel
theorem dX8_cut_4 : decode cX8_cut 4 = .ok (.aload_n 0, 1) := by decide +kernel
theorem dX8_cut_5 : decode cX8_cut 5 = .ok (.iload_n 1, 1) := by decide +kernel
theorem dX8_cut_6 : decode cX8_cut 6 = .ok (.invokestatic 118, 3) := by decide +kernel
theorem dX8_cut_9 : decode cX8_cut 9 = .ok (.ifCond .eq 22, 3) := by decide +kernel
theorem dX8_cut_12 : decode cX8_cut 12 = .ok (.iload_n 2, 1) := by decide +kernel
theorem dX8_cut_13 : decode cX8_cut 13 = .ok (.iconst 1, 1) := by decide +kernel
theorem dX8_cut_14 : decode cX8_cut 14 = .ok (.bipush 8, 2) := by decide +kernel
theorem dX8_cut_16 : decode cX8_cut 16 = .ok (.invokestatic 49, 3) := by decide +kernel
theorem dX8_cut_19 : decode cX8_cut 19 = .ok (.ifCond .eq 12, 3) := by decide +kernel
theorem dX8_cut_22 : decode cX8_cut 22 = .ok (.aload_n 0, 1) := by decide +kernel
theorem dX8_cut_23 : decode cX8_cut 23 = .ok (.iload_n 1, 1) := by decide +kernel
theorem dX8_cut_24 : decode cX8_cut 24 = .ok (.iload_n 2, 1) := by decide +kernel
theorem dX8_cut_25 : decode cX8_cut 25 = .ok (.invokevirtual 128, 3) := by decide +kernel
theorem dX8_cut_28 : decode cX8_cut 28 = .ok (.goto 5, 3) := by decide +kernel
theorem dX8_cut_31 : decode cX8_cut 31 = .ok (.ldc 53, 2) := by decide +kernel
theorem dX8_cut_33 : decode cX8_cut 33 = .ok (.invokevirtual 115, 3) := by decide +kernel
theorem dX8_cut_36 : decode cX8_cut 36 = .ok (.ireturn, 1) := by decide +kernel
theorem dX8_bounded_0 : decode cX8_bounded 0 = .ok (.aload_n 0, 1) := by decide +kernel
theorem dX8_bounded_1 : decode cX8_bounded 1 = .ok (.getfield 7, 3) := by decide +kernel
theorem dX8_bounded_4 : decode cX8_bounded 4 = .ok (.iload_n 1, 1) := by decide +kernel
theorem dX8_bounded_5 : decode cX8_bounded 5 = .ok (.invokestatic 42, 3) := by decide +kernel
theorem dX8_bounded_8 : decode cX8_bounded 8 = .ok (.iconst 1, 1) := by decide +kernel
theorem dX8_bounded_9 : decode cX8_bounded 9 = .ok (.iadd, 1) := by decide +kernel
theorem dX8_bounded_10 : decode cX8_bounded 10 = .ok (.iload_n 2, 1) := by decide +kernel
theorem dX8_bounded_11 : decode cX8_bounded 11 = .ok (.iastore, 1) := by decide +kernel
theorem dX8_bounded_12 : decode cX8_bounded 12 = .ok (.aload_n 0, 1) := by decide +kernel
theorem dX8_bounded_13 : decode cX8_bounded 13 = .ok (.getfield 7, 3) := by decide +kernel
theorem dX8_bounded_16 : decode cX8_bounded 16 = .ok (.iload_n 1, 1) := by decide +kernel
theorem dX8_bounded_17 : decode cX8_bounded 17 = .ok (.invokestatic 42, 3) := by decide +kernel
theorem dX8_bounded_20 : decode cX8_bounded 20 = .ok (.iconst 2, 1) := by decide +kernel
theorem dX8_bounded_21 : decode cX8_bounded 21 = .ok (.iadd, 1) := by decide +kernel
theorem dX8_bounded_22 : decode cX8_bounded 22 = .ok (.iload_n 3, 1) := by decide +kernel
theorem dX8_bounded_23 : decode cX8_bounded 23 = .ok (.iastore, 1) := by decide +kernel
theorem dX8_bounded_24 : decode cX8_bounded 24 = .ok (.aload_n 0, 1) := by decide +kernel
theorem dX8_bounded_25 : decode cX8_bounded 25 = .ok (.getfield 7, 3) := by decide +kernel
theorem dX8_bounded_28 : decode cX8_bounded 28 = .ok (.iload_n 1, 1) := by decide +kernel
theorem dX8_bounded_29 : decode cX8_bounded 29 = .ok (.invokestatic 42, 3) := by decide +kernel
theorem dX8_bounded_32 : decode cX8_bounded 32 = .ok (.iconst 3, 1) := by decide +kernel
theorem dX8_bounded_33 : decode cX8_bounded 33 = .ok (.iadd, 1) := by decide +kernel
theorem dX8_bounded_34 : decode cX8_bounded 34 = .ok (.iload 4, 2) := by decide +kernel
theorem dX8_bounded_36 : decode cX8_bounded 36 = .ok (.iastore, 1) := by decide +kernel
theorem dX8_bounded_37 : decode cX8_bounded 37 = .ok (.aload_n 0, 1) := by decide +kernel
theorem dX8_bounded_38 : decode cX8_bounded 38 = .ok (.iload_n 1, 1) := by decide +kernel
theorem dX8_bounded_39 : decode cX8_bounded 39 = .ok (.aload_n 0, 1) := by decide +kernel
theorem dX8_bounded_40 : decode cX8_bounded 40 = .ok (.getfield 7, 3) := by decide +kernel
theorem dX8_bounded_43 : decode cX8_bounded 43 = .ok (.iload_n 1, 1) := by decide +kernel
theorem dX8_bounded_44 : decode cX8_bounded 44 = .ok (.invokestatic 46, 3) := by decide +kernel
theorem dX8_bounded_47 : decode cX8_bounded 47 = .ok (.iaload, 1) := by decide +kernel
theorem dX8_bounded_48 : decode cX8_bounded 48 = .ok (.invokevirtual 131, 3) := by decide +kernel
theorem dX8_bounded_51 : decode cX8_bounded 51 = .ok (.ireturn, 1) := by decide +kernel
theorem dX8_bounds_0 : decode cX8_bounds 0 = .ok (.aload_n 0, 1) := by decide +kernel
theorem dX8_bounds_1 : decode cX8_bounds 1 = .ok (.invokevirtual 109, 3) := by decide +kernel
theorem dX8_bounds_4 : decode cX8_bounds 4 = .ok (.iload_n 1, 1) := by decide +kernel
theorem dX8_bounds_5 : decode cX8_bounds 5 = .ok (.invokestatic 118, 3) := by decide +kernel
theorem dX8_bounds_8 : decode cX8_bounds 8 = .ok (.ifCond .eq 44, 3) := by decide +kernel
theorem dX8_bounds_11 : decode cX8_bounds 11 = .ok (.iload_n 2, 1) := by decide +kernel
theorem dX8_bounds_12 : decode cX8_bounds 12 = .ok (.ldc 134, 2) := by decide +kernel
theorem dX8_bounds_14 : decode cX8_bounds 14 = .ok (.ldc 135, 2) := by decide +kernel
theorem dX8_bounds_16 : decode cX8_bounds 16 = .ok (.invokestatic 49, 3) := by decide +kernel
theorem dX8_bounds_19 : decode cX8_bounds 19 = .ok (.ifCond .eq 33, 3) := by decide +kernel
theorem dX8_bounds_22 : decode cX8_bounds 22 = .ok (.iload_n 3, 1) := by decide +kernel
theorem dX8_bounds_23 : decode cX8_bounds 23 = .ok (.ldc 136, 2) := by decide +kernel
theorem dX8_bounds_25 : decode cX8_bounds 25 = .ok (.ldc 137, 2) := by decide +kernel
theorem dX8_bounds_27 : decode cX8_bounds 27 = .ok (.invokestatic 49, 3) := by decide +kernel
theorem dX8_bounds_30 : decode cX8_bounds 30 = .ok (.ifCond .eq 22, 3) := by decide +kernel
theorem dX8_bounds_33 : decode cX8_bounds 33 = .ok (.iload_n 2, 1) := by decide +kernel
theorem dX8_bounds_34 : decode cX8_bounds 34 = .ok (.iload_n 3, 1) := by decide +kernel
theorem dX8_bounds_35 : decode cX8_bounds 35 = .ok (.if_icmp .ge 17, 3) := by decide +kernel
theorem dX8_bounds_38 : decode cX8_bounds 38 = .ok (.iload 4, 2) := by decide +kernel
theorem dX8_bounds_40 : decode cX8_bounds 40 = .ok (.iconst 0, 1) := by decide +kernel
theorem dX8_bounds_41 : decode cX8_bounds 41 = .ok (.iconst 5, 1) := by decide +kernel
theorem dX8_bounds_42 : decode cX8_bounds 42 = .ok (.invokestatic 49, 3) := by decide +kernel
theorem dX8_bounds_45 : decode cX8_bounds 45 = .ok (.ifCond .eq 7, 3) := by decide +kernel
theorem dX8_bounds_48 : decode cX8_bounds 48 = .ok (.iconst 1, 1) := by decide +kernel
theorem dX8_bounds_49 : decode cX8_bounds 49 = .ok (.goto 4, 3) := by decide +kernel
theorem dX8_bounds_52 : decode cX8_bounds 52 = .ok (.iconst 0, 1) := by decide +kernel
theorem dX8_bounds_53 : decode cX8_bounds 53 = .ok (.istore 5, 2) := by decide +kernel
theorem dX8_bounds_55 : decode cX8_bounds 55 = .ok (.aload_n 0, 1) := by decide +kernel
theorem dX8_bounds_56 : decode cX8_bounds 56 = .ok (.iload 5, 2) := by decide +kernel
theorem dX8_bounds_58 : decode cX8_bounds 58 = .ok (.ifCond .eq 15, 3) := by decide +kernel
theorem dX8_bounds_61 : decode cX8_bounds 61 = .ok (.aload_n 0, 1) := by decide +kernel
theorem dX8_bounds_62 : decode cX8_bounds 62 = .ok (.iload_n 1, 1) := by decide +kernel
theorem dX8_bounds_63 : decode cX8_bounds 63 = .ok (.iload_n 2, 1) := by decide +kernel
theorem dX8_bounds_64 : decode cX8_bounds 64 = .ok (.iload_n 3, 1) := by decide +kernel
theorem dX8_bounds_65 : decode cX8_bounds 65 = .ok (.iload 4, 2) := by decide +kernel
theorem dX8_bounds_67 : decode cX8_bounds 67 = .ok (.invokevirtual 138, 3) := by decide +kernel
theorem dX8_bounds_70 : decode cX8_bounds 70 = .ok (.goto 5, 3) := by decide +kernel
theorem dX8_bounds_73 : decode cX8_bounds 73 = .ok (.ldc 53, 2) := by decide +kernel
theorem dX8_bounds_75 : decode cX8_bounds 75 = .ok (.invokevirtual 115, 3) := by decide +kernel
theorem dX8_bounds_78 : decode cX8_bounds 78 = .ok (.ireturn, 1) := by decide +kernel
theorem dX8_contact_0 : decode cX8_contact 0 = .ok (.aload_n 0, 1) := by decide +kernel
theorem dX8_contact_1 : decode cX8_contact 1 = .ok (.invokevirtual 109, 3) := by decide +kernel
theorem dX8_contact_4 : decode cX8_contact 4 = .ok (.iload_n 1, 1) := by decide +kernel
theorem dX8_contact_5 : decode cX8_contact 5 = .ok (.invokestatic 118, 3) := by decide +kernel
theorem dX8_contact_8 : decode cX8_contact 8 = .ok (.ifCond .eq 12, 3) := by decide +kernel
theorem dX8_contact_11 : decode cX8_contact 11 = .ok (.iload_n 2, 1) := by decide +kernel
theorem dX8_contact_12 : decode cX8_contact 12 = .ok (.iconst 0, 1) := by decide +kernel
theorem dX8_contact_13 : decode cX8_contact 13 = .ok (.iconst 1, 1) := by decide +kernel
theorem dX8_contact_14 : decode cX8_contact 14 = .ok (.invokestatic 49, 3) := by decide +kernel
theorem dX8_contact_17 : decode cX8_contact 17 = .ok (.ifCond .ne 6, 3) := by decide +kernel
theorem dX8_contact_20 : decode cX8_contact 20 = .ok (.ldc 53, 2) := by decide +kernel
theorem dX8_contact_22 : decode cX8_contact 22 = .ok (.ireturn, 1) := by decide +kernel
theorem dX8_contact_23 : decode cX8_contact 23 = .ok (.aload_n 0, 1) := by decide +kernel
theorem dX8_contact_24 : decode cX8_contact 24 = .ok (.getfield 7, 3) := by decide +kernel
theorem dX8_contact_27 : decode cX8_contact 27 = .ok (.iload_n 1, 1) := by decide +kernel
theorem dX8_contact_28 : decode cX8_contact 28 = .ok (.invokestatic 42, 3) := by decide +kernel
theorem dX8_contact_31 : decode cX8_contact 31 = .ok (.bipush 7, 2) := by decide +kernel
theorem dX8_contact_33 : decode cX8_contact 33 = .ok (.iadd, 1) := by decide +kernel
theorem dX8_contact_34 : decode cX8_contact 34 = .ok (.iload_n 2, 1) := by decide +kernel
theorem dX8_contact_35 : decode cX8_contact 35 = .ok (.iastore, 1) := by decide +kernel
theorem dX8_contact_36 : decode cX8_contact 36 = .ok (.aload_n 0, 1) := by decide +kernel
theorem dX8_contact_37 : decode cX8_contact 37 = .ok (.aload_n 0, 1) := by decide +kernel
theorem dX8_contact_38 : decode cX8_contact 38 = .ok (.iload_n 1, 1) := by decide +kernel
theorem dX8_contact_39 : decode cX8_contact 39 = .ok (.invokevirtual 89, 3) := by decide +kernel
theorem dX8_contact_42 : decode cX8_contact 42 = .ok (.ifCond .eq 7, 3) := by decide +kernel
theorem dX8_contact_45 : decode cX8_contact 45 = .ok (.iconst 1, 1) := by decide +kernel
theorem dX8_contact_46 : decode cX8_contact 46 = .ok (.goto 4, 3) := by decide +kernel
theorem dX8_contact_49 : decode cX8_contact 49 = .ok (.iconst 0, 1) := by decide +kernel
theorem dX8_contact_50 : decode cX8_contact 50 = .ok (.invokevirtual 115, 3) := by decide +kernel
theorem dX8_contact_53 : decode cX8_contact 53 = .ok (.ireturn, 1) := by decide +kernel
theorem dX8_heat_0 : decode cX8_heat 0 = .ok (.aload_n 0, 1) := by decide +kernel
theorem dX8_heat_1 : decode cX8_heat 1 = .ok (.invokevirtual 109, 3) := by decide +kernel
theorem dX8_heat_4 : decode cX8_heat 4 = .ok (.iload_n 1, 1) := by decide +kernel
theorem dX8_heat_5 : decode cX8_heat 5 = .ok (.invokestatic 118, 3) := by decide +kernel
theorem dX8_heat_8 : decode cX8_heat 8 = .ok (.ifCond .eq 23, 3) := by decide +kernel
theorem dX8_heat_11 : decode cX8_heat 11 = .ok (.iload_n 2, 1) := by decide +kernel
theorem dX8_heat_12 : decode cX8_heat 12 = .ok (.iconst 0, 1) := by decide +kernel
theorem dX8_heat_13 : decode cX8_heat 13 = .ok (.bipush 99, 2) := by decide +kernel
theorem dX8_heat_15 : decode cX8_heat 15 = .ok (.invokestatic 49, 3) := by decide +kernel
theorem dX8_heat_18 : decode cX8_heat 18 = .ok (.ifCond .eq 13, 3) := by decide +kernel
theorem dX8_heat_21 : decode cX8_heat 21 = .ok (.iload_n 3, 1) := by decide +kernel
theorem dX8_heat_22 : decode cX8_heat 22 = .ok (.iconst 1, 1) := by decide +kernel
theorem dX8_heat_23 : decode cX8_heat 23 = .ok (.bipush 99, 2) := by decide +kernel
theorem dX8_heat_25 : decode cX8_heat 25 = .ok (.invokestatic 49, 3) := by decide +kernel
theorem dX8_heat_28 : decode cX8_heat 28 = .ok (.ifCond .ne 6, 3) := by decide +kernel
theorem dX8_heat_31 : decode cX8_heat 31 = .ok (.ldc 53, 2) := by decide +kernel
theorem dX8_heat_33 : decode cX8_heat 33 = .ok (.ireturn, 1) := by decide +kernel
theorem dX8_heat_34 : decode cX8_heat 34 = .ok (.bipush 100, 2) := by decide +kernel
theorem dX8_heat_36 : decode cX8_heat 36 = .ok (.aload_n 0, 1) := by decide +kernel
theorem dX8_heat_37 : decode cX8_heat 37 = .ok (.iload_n 1, 1) := by decide +kernel
theorem dX8_heat_38 : decode cX8_heat 38 = .ok (.invokestatic 46, 3) := by decide +kernel
theorem dX8_heat_41 : decode cX8_heat 41 = .ok (.iconst 1, 1) := by decide +kernel
theorem dX8_heat_42 : decode cX8_heat 42 = .ok (.iadd, 1) := by decide +kernel
theorem dX8_heat_43 : decode cX8_heat 43 = .ok (.iload_n 2, 1) := by decide +kernel
theorem dX8_heat_44 : decode cX8_heat 44 = .ok (.invokevirtual 112, 3) := by decide +kernel
theorem dX8_heat_47 : decode cX8_heat 47 = .ok (.imul, 1) := by decide +kernel
theorem dX8_heat_48 : decode cX8_heat 48 = .ok (.istore 4, 2) := by decide +kernel
theorem dX8_heat_50 : decode cX8_heat 50 = .ok (.aload_n 0, 1) := by decide +kernel
theorem dX8_heat_51 : decode cX8_heat 51 = .ok (.iload 4, 2) := by decide +kernel
theorem dX8_heat_53 : decode cX8_heat 53 = .ok (.aload_n 0, 1) := by decide +kernel
theorem dX8_heat_54 : decode cX8_heat 54 = .ok (.iload_n 1, 1) := by decide +kernel
theorem dX8_heat_55 : decode cX8_heat 55 = .ok (.invokestatic 46, 3) := by decide +kernel
theorem dX8_heat_58 : decode cX8_heat 58 = .ok (.iconst 2, 1) := by decide +kernel
theorem dX8_heat_59 : decode cX8_heat 59 = .ok (.iadd, 1) := by decide +kernel
theorem dX8_heat_60 : decode cX8_heat 60 = .ok (.iload_n 3, 1) := by decide +kernel
theorem dX8_heat_61 : decode cX8_heat 61 = .ok (.invokevirtual 112, 3) := by decide +kernel
theorem dX8_heat_64 : decode cX8_heat 64 = .ok (.iadd, 1) := by decide +kernel
theorem dX8_heat_65 : decode cX8_heat 65 = .ok (.invokevirtual 115, 3) := by decide +kernel
theorem dX8_heat_68 : decode cX8_heat 68 = .ok (.ireturn, 1) := by decide +kernel
theorem dX8_isWarmth_0 : decode cX8_isWarmth 0 = .ok (.iload_n 0, 1) := by decide +kernel
theorem dX8_isWarmth_1 : decode cX8_isWarmth 1 = .ok (.sipush (-500), 3) := by decide +kernel
theorem dX8_isWarmth_4 : decode cX8_isWarmth 4 = .ok (.sipush 1500, 3) := by decide +kernel
theorem dX8_isWarmth_7 : decode cX8_isWarmth 7 = .ok (.invokestatic 49, 3) := by decide +kernel
theorem dX8_isWarmth_10 : decode cX8_isWarmth 10 = .ok (.ireturn, 1) := by decide +kernel
theorem dX8_outside_0 : decode cX8_outside 0 = .ok (.aload_n 0, 1) := by decide +kernel
theorem dX8_outside_1 : decode cX8_outside 1 = .ok (.invokevirtual 109, 3) := by decide +kernel
theorem dX8_outside_4 : decode cX8_outside 4 = .ok (.aload_n 0, 1) := by decide +kernel
theorem dX8_outside_5 : decode cX8_outside 5 = .ok (.iload_n 1, 1) := by decide +kernel
theorem dX8_outside_6 : decode cX8_outside 6 = .ok (.invokestatic 141, 3) := by decide +kernel
theorem dX8_outside_9 : decode cX8_outside 9 = .ok (.ifCond .eq 13, 3) := by decide +kernel
theorem dX8_outside_12 : decode cX8_outside 12 = .ok (.aload_n 0, 1) := by decide +kernel
theorem dX8_outside_13 : decode cX8_outside 13 = .ok (.bipush 8, 2) := by decide +kernel
theorem dX8_outside_15 : decode cX8_outside 15 = .ok (.iload_n 1, 1) := by decide +kernel
theorem dX8_outside_16 : decode cX8_outside 16 = .ok (.invokevirtual 112, 3) := by decide +kernel
theorem dX8_outside_19 : decode cX8_outside 19 = .ok (.goto 5, 3) := by decide +kernel
theorem dX8_outside_22 : decode cX8_outside 22 = .ok (.ldc 53, 2) := by decide +kernel
theorem dX8_outside_24 : decode cX8_outside 24 = .ok (.invokevirtual 115, 3) := by decide +kernel
theorem dX8_outside_27 : decode cX8_outside 27 = .ok (.ireturn, 1) := by decide +kernel
theorem dX8_warm_0 : decode cX8_warm 0 = .ok (.aload_n 0, 1) := by decide +kernel
theorem dX8_warm_1 : decode cX8_warm 1 = .ok (.invokevirtual 109, 3) := by decide +kernel
theorem dX8_warm_4 : decode cX8_warm 4 = .ok (.aload_n 0, 1) := by decide +kernel
theorem dX8_warm_5 : decode cX8_warm 5 = .ok (.iload_n 1, 1) := by decide +kernel
theorem dX8_warm_6 : decode cX8_warm 6 = .ok (.invokestatic 118, 3) := by decide +kernel
theorem dX8_warm_9 : decode cX8_warm 9 = .ok (.ifCond .eq 22, 3) := by decide +kernel
theorem dX8_warm_12 : decode cX8_warm 12 = .ok (.iload_n 2, 1) := by decide +kernel
theorem dX8_warm_13 : decode cX8_warm 13 = .ok (.invokestatic 141, 3) := by decide +kernel
theorem dX8_warm_16 : decode cX8_warm 16 = .ok (.ifCond .eq 15, 3) := by decide +kernel
theorem dX8_warm_19 : decode cX8_warm 19 = .ok (.aload_n 0, 1) := by decide +kernel
theorem dX8_warm_20 : decode cX8_warm 20 = .ok (.iload_n 1, 1) := by decide +kernel
theorem dX8_warm_21 : decode cX8_warm 21 = .ok (.invokestatic 46, 3) := by decide +kernel
theorem dX8_warm_24 : decode cX8_warm 24 = .ok (.iload_n 2, 1) := by decide +kernel
theorem dX8_warm_25 : decode cX8_warm 25 = .ok (.invokevirtual 112, 3) := by decide +kernel
theorem dX8_warm_28 : decode cX8_warm 28 = .ok (.goto 5, 3) := by decide +kernel
theorem dX8_warm_31 : decode cX8_warm 31 = .ok (.ldc 53, 2) := by decide +kernel
theorem dX8_warm_33 : decode cX8_warm 33 = .ok (.invokevirtual 115, 3) := by decide +kernel
theorem dX8_warm_36 : decode cX8_warm 36 = .ok (.ireturn, 1) := by decide +kernel
theorem dX8_opening_0 : decode cX8_opening 0 = .ok (.aload_n 0, 1) := by decide +kernel
theorem dX8_opening_1 : decode cX8_opening 1 = .ok (.invokevirtual 109, 3) := by decide +kernel
theorem dX8_opening_4 : decode cX8_opening 4 = .ok (.iload_n 1, 1) := by decide +kernel
theorem dX8_opening_5 : decode cX8_opening 5 = .ok (.invokestatic 118, 3) := by decide +kernel
theorem dX8_opening_8 : decode cX8_opening 8 = .ok (.ifCond .eq 12, 3) := by decide +kernel
theorem dX8_opening_11 : decode cX8_opening 11 = .ok (.iload_n 2, 1) := by decide +kernel
theorem dX8_opening_12 : decode cX8_opening 12 = .ok (.iconst 0, 1) := by decide +kernel
theorem dX8_opening_13 : decode cX8_opening 13 = .ok (.iconst 1, 1) := by decide +kernel
theorem dX8_opening_14 : decode cX8_opening 14 = .ok (.invokestatic 49, 3) := by decide +kernel
theorem dX8_opening_17 : decode cX8_opening 17 = .ok (.ifCond .ne 6, 3) := by decide +kernel
theorem dX8_opening_20 : decode cX8_opening 20 = .ok (.ldc 53, 2) := by decide +kernel
theorem dX8_opening_22 : decode cX8_opening 22 = .ok (.ireturn, 1) := by decide +kernel
theorem dX8_opening_23 : decode cX8_opening 23 = .ok (.aload_n 0, 1) := by decide +kernel
theorem dX8_opening_24 : decode cX8_opening 24 = .ok (.getfield 7, 3) := by decide +kernel
theorem dX8_opening_27 : decode cX8_opening 27 = .ok (.iload_n 1, 1) := by decide +kernel
theorem dX8_opening_28 : decode cX8_opening 28 = .ok (.invokestatic 46, 3) := by decide +kernel
theorem dX8_opening_31 : decode cX8_opening 31 = .ok (.iconst 3, 1) := by decide +kernel
theorem dX8_opening_32 : decode cX8_opening 32 = .ok (.iadd, 1) := by decide +kernel
theorem dX8_opening_33 : decode cX8_opening 33 = .ok (.iload_n 2, 1) := by decide +kernel
theorem dX8_opening_34 : decode cX8_opening 34 = .ok (.iastore, 1) := by decide +kernel
theorem dX8_opening_35 : decode cX8_opening 35 = .ok (.aload_n 0, 1) := by decide +kernel
theorem dX8_opening_36 : decode cX8_opening 36 = .ok (.aload_n 0, 1) := by decide +kernel
theorem dX8_opening_37 : decode cX8_opening 37 = .ok (.getfield 7, 3) := by decide +kernel
theorem dX8_opening_40 : decode cX8_opening 40 = .ok (.iconst 0, 1) := by decide +kernel
theorem dX8_opening_41 : decode cX8_opening 41 = .ok (.invokestatic 46, 3) := by decide +kernel
theorem dX8_opening_44 : decode cX8_opening 44 = .ok (.iconst 3, 1) := by decide +kernel
theorem dX8_opening_45 : decode cX8_opening 45 = .ok (.iadd, 1) := by decide +kernel
theorem dX8_opening_46 : decode cX8_opening 46 = .ok (.iaload, 1) := by decide +kernel
theorem dX8_opening_47 : decode cX8_opening 47 = .ok (.aload_n 0, 1) := by decide +kernel
theorem dX8_opening_48 : decode cX8_opening 48 = .ok (.getfield 7, 3) := by decide +kernel
theorem dX8_opening_51 : decode cX8_opening 51 = .ok (.iconst 1, 1) := by decide +kernel
theorem dX8_opening_52 : decode cX8_opening 52 = .ok (.invokestatic 46, 3) := by decide +kernel
theorem dX8_opening_55 : decode cX8_opening 55 = .ok (.iconst 3, 1) := by decide +kernel
theorem dX8_opening_56 : decode cX8_opening 56 = .ok (.iadd, 1) := by decide +kernel
theorem dX8_opening_57 : decode cX8_opening 57 = .ok (.iaload, 1) := by decide +kernel
theorem dX8_opening_58 : decode cX8_opening 58 = .ok (.iadd, 1) := by decide +kernel
theorem dX8_opening_59 : decode cX8_opening 59 = .ok (.aload_n 0, 1) := by decide +kernel
theorem dX8_opening_60 : decode cX8_opening 60 = .ok (.getfield 7, 3) := by decide +kernel
theorem dX8_opening_63 : decode cX8_opening 63 = .ok (.iconst 2, 1) := by decide +kernel
theorem dX8_opening_64 : decode cX8_opening 64 = .ok (.invokestatic 46, 3) := by decide +kernel
theorem dX8_opening_67 : decode cX8_opening 67 = .ok (.iconst 3, 1) := by decide +kernel
theorem dX8_opening_68 : decode cX8_opening 68 = .ok (.iadd, 1) := by decide +kernel
theorem dX8_opening_69 : decode cX8_opening 69 = .ok (.iaload, 1) := by decide +kernel
theorem dX8_opening_70 : decode cX8_opening 70 = .ok (.iadd, 1) := by decide +kernel
theorem dX8_opening_71 : decode cX8_opening 71 = .ok (.invokevirtual 115, 3) := by decide +kernel
theorem dX8_opening_74 : decode cX8_opening 74 = .ok (.ireturn, 1) := by decide +kernel
theorem dX8_set_0 : decode cX8_set 0 = .ok (.aload_n 0, 1) := by decide +kernel
theorem dX8_set_1 : decode cX8_set 1 = .ok (.invokevirtual 109, 3) := by decide +kernel
theorem dX8_set_4 : decode cX8_set 4 = .ok (.iload_n 1, 1) := by decide +kernel
theorem dX8_set_5 : decode cX8_set 5 = .ok (.ifCond .ne 13, 3) := by decide +kernel
theorem dX8_set_8 : decode cX8_set 8 = .ok (.iload_n 2, 1) := by decide +kernel
theorem dX8_set_9 : decode cX8_set 9 = .ok (.iconst 0, 1) := by decide +kernel
theorem dX8_set_10 : decode cX8_set 10 = .ok (.bipush 99, 2) := by decide +kernel
theorem dX8_set_12 : decode cX8_set 12 = .ok (.invokestatic 49, 3) := by decide +kernel
theorem dX8_set_15 : decode cX8_set 15 = .ok (.ifCond .ne 19, 3) := by decide +kernel
theorem dX8_set_18 : decode cX8_set 18 = .ok (.iload_n 1, 1) := by decide +kernel
theorem dX8_set_19 : decode cX8_set 19 = .ok (.iconst 1, 1) := by decide +kernel
theorem dX8_set_20 : decode cX8_set 20 = .ok (.if_icmp .ne 18, 3) := by decide +kernel
theorem dX8_set_23 : decode cX8_set 23 = .ok (.iload_n 2, 1) := by decide +kernel
theorem dX8_set_24 : decode cX8_set 24 = .ok (.iconst 1, 1) := by decide +kernel
theorem dX8_set_25 : decode cX8_set 25 = .ok (.sipush 999, 3) := by decide +kernel
theorem dX8_set_28 : decode cX8_set 28 = .ok (.invokestatic 49, 3) := by decide +kernel
theorem dX8_set_31 : decode cX8_set 31 = .ok (.ifCond .eq 7, 3) := by decide +kernel
theorem dX8_set_34 : decode cX8_set 34 = .ok (.iconst 1, 1) := by decide +kernel
theorem dX8_set_35 : decode cX8_set 35 = .ok (.goto 4, 3) := by decide +kernel
theorem dX8_set_38 : decode cX8_set 38 = .ok (.iconst 0, 1) := by decide +kernel
theorem dX8_set_39 : decode cX8_set 39 = .ok (.istore_n 3, 1) := by decide +kernel
theorem dX8_set_40 : decode cX8_set 40 = .ok (.aload_n 0, 1) := by decide +kernel
theorem dX8_set_41 : decode cX8_set 41 = .ok (.iload_n 3, 1) := by decide +kernel
theorem dX8_set_42 : decode cX8_set 42 = .ok (.ifCond .eq 15, 3) := by decide +kernel
theorem dX8_set_45 : decode cX8_set 45 = .ok (.aload_n 0, 1) := by decide +kernel
theorem dX8_set_46 : decode cX8_set 46 = .ok (.bipush 6, 2) := by decide +kernel
theorem dX8_set_48 : decode cX8_set 48 = .ok (.iload_n 1, 1) := by decide +kernel
theorem dX8_set_49 : decode cX8_set 49 = .ok (.iadd, 1) := by decide +kernel
theorem dX8_set_50 : decode cX8_set 50 = .ok (.iload_n 2, 1) := by decide +kernel
theorem dX8_set_51 : decode cX8_set 51 = .ok (.invokevirtual 112, 3) := by decide +kernel
theorem dX8_set_54 : decode cX8_set 54 = .ok (.goto 5, 3) := by decide +kernel
theorem dX8_set_57 : decode cX8_set 57 = .ok (.ldc 53, 2) := by decide +kernel
theorem dX8_set_59 : decode cX8_set 59 = .ok (.invokevirtual 115, 3) := by decide +kernel
theorem dX8_set_62 : decode cX8_set 62 = .ok (.ireturn, 1) := by decide +kernel
theorem dX8_tick_0 : decode cX8_tick 0 = .ok (.aload_n 0, 1) := by decide +kernel
theorem dX8_tick_1 : decode cX8_tick 1 = .ok (.invokevirtual 109, 3) := by decide +kernel
theorem dX8_tick_4 : decode cX8_tick 4 = .ok (.aload_n 0, 1) := by decide +kernel
theorem dX8_tick_5 : decode cX8_tick 5 = .ok (.iload_n 1, 1) := by decide +kernel
theorem dX8_tick_6 : decode cX8_tick 6 = .ok (.iconst 1, 1) := by decide +kernel
theorem dX8_tick_7 : decode cX8_tick 7 = .ok (.sipush 200, 3) := by decide +kernel
theorem dX8_tick_10 : decode cX8_tick 10 = .ok (.invokestatic 49, 3) := by decide +kernel
theorem dX8_tick_13 : decode cX8_tick 13 = .ok (.ifCond .eq 11, 3) := by decide +kernel
theorem dX8_tick_16 : decode cX8_tick 16 = .ok (.aload_n 0, 1) := by decide +kernel
theorem dX8_tick_17 : decode cX8_tick 17 = .ok (.iload_n 1, 1) := by decide +kernel
theorem dX8_tick_18 : decode cX8_tick 18 = .ok (.invokevirtual 144, 3) := by decide +kernel
theorem dX8_tick_21 : decode cX8_tick 21 = .ok (.goto 5, 3) := by decide +kernel
theorem dX8_tick_24 : decode cX8_tick 24 = .ok (.ldc 53, 2) := by decide +kernel
theorem dX8_tick_26 : decode cX8_tick 26 = .ok (.invokevirtual 115, 3) := by decide +kernel
theorem dX8_tick_29 : decode cX8_tick 29 = .ok (.ireturn, 1) := by decide +kernel
theorem dX8_stripOf_0 : decode cX8_stripOf 0 = .ok (.iload_n 1, 1) := by decide +kernel
theorem dX8_stripOf_1 : decode cX8_stripOf 1 = .ok (.invokestatic 118, 3) := by decide +kernel
theorem dX8_stripOf_4 : decode cX8_stripOf 4 = .ok (.ifCond .eq 13, 3) := by decide +kernel
theorem dX8_stripOf_7 : decode cX8_stripOf 7 = .ok (.iload_n 2, 1) := by decide +kernel
theorem dX8_stripOf_8 : decode cX8_stripOf 8 = .ok (.iconst 0, 1) := by decide +kernel
theorem dX8_stripOf_9 : decode cX8_stripOf 9 = .ok (.bipush 11, 2) := by decide +kernel
theorem dX8_stripOf_11 : decode cX8_stripOf 11 = .ok (.invokestatic 49, 3) := by decide +kernel
theorem dX8_stripOf_14 : decode cX8_stripOf 14 = .ok (.ifCond .ne 6, 3) := by decide +kernel
theorem dX8_stripOf_17 : decode cX8_stripOf 17 = .ok (.ldc 53, 2) := by decide +kernel
theorem dX8_stripOf_19 : decode cX8_stripOf 19 = .ok (.ireturn, 1) := by decide +kernel
theorem dX8_stripOf_20 : decode cX8_stripOf 20 = .ok (.iload_n 2, 1) := by decide +kernel
theorem dX8_stripOf_21 : decode cX8_stripOf 21 = .ok (.tableswitch 110 0 11 #[63, 69, 75, 81, 110, 110, 110, 110, 110, 110, 110, 96], 63) := by decide +kernel
theorem dX8_stripOf_84 : decode cX8_stripOf 84 = .ok (.aload_n 0, 1) := by decide +kernel
theorem dX8_stripOf_85 : decode cX8_stripOf 85 = .ok (.iload_n 1, 1) := by decide +kernel
theorem dX8_stripOf_86 : decode cX8_stripOf 86 = .ok (.invokevirtual 65, 3) := by decide +kernel
theorem dX8_stripOf_89 : decode cX8_stripOf 89 = .ok (.ireturn, 1) := by decide +kernel
theorem dX8_stripOf_90 : decode cX8_stripOf 90 = .ok (.aload_n 0, 1) := by decide +kernel
theorem dX8_stripOf_91 : decode cX8_stripOf 91 = .ok (.iload_n 1, 1) := by decide +kernel
theorem dX8_stripOf_92 : decode cX8_stripOf 92 = .ok (.invokevirtual 147, 3) := by decide +kernel
theorem dX8_stripOf_95 : decode cX8_stripOf 95 = .ok (.ireturn, 1) := by decide +kernel
theorem dX8_stripOf_96 : decode cX8_stripOf 96 = .ok (.aload_n 0, 1) := by decide +kernel
theorem dX8_stripOf_97 : decode cX8_stripOf 97 = .ok (.iload_n 1, 1) := by decide +kernel
theorem dX8_stripOf_98 : decode cX8_stripOf 98 = .ok (.invokevirtual 72, 3) := by decide +kernel
theorem dX8_stripOf_101 : decode cX8_stripOf 101 = .ok (.ireturn, 1) := by decide +kernel
theorem dX8_stripOf_102 : decode cX8_stripOf 102 = .ok (.aload_n 0, 1) := by decide +kernel
theorem dX8_stripOf_103 : decode cX8_stripOf 103 = .ok (.iload_n 1, 1) := by decide +kernel
theorem dX8_stripOf_104 : decode cX8_stripOf 104 = .ok (.aload_n 0, 1) := by decide +kernel
theorem dX8_stripOf_105 : decode cX8_stripOf 105 = .ok (.getfield 7, 3) := by decide +kernel
theorem dX8_stripOf_108 : decode cX8_stripOf 108 = .ok (.iload_n 1, 1) := by decide +kernel
theorem dX8_stripOf_109 : decode cX8_stripOf 109 = .ok (.invokestatic 46, 3) := by decide +kernel
theorem dX8_stripOf_112 : decode cX8_stripOf 112 = .ok (.iaload, 1) := by decide +kernel
theorem dX8_stripOf_113 : decode cX8_stripOf 113 = .ok (.invokevirtual 131, 3) := by decide +kernel
theorem dX8_stripOf_116 : decode cX8_stripOf 116 = .ok (.ireturn, 1) := by decide +kernel
theorem dX8_stripOf_117 : decode cX8_stripOf 117 = .ok (.aload_n 0, 1) := by decide +kernel
theorem dX8_stripOf_118 : decode cX8_stripOf 118 = .ok (.iload_n 1, 1) := by decide +kernel
theorem dX8_stripOf_119 : decode cX8_stripOf 119 = .ok (.invokevirtual 89, 3) := by decide +kernel
theorem dX8_stripOf_122 : decode cX8_stripOf 122 = .ok (.ifCond .eq 7, 3) := by decide +kernel
theorem dX8_stripOf_125 : decode cX8_stripOf 125 = .ok (.iconst 1, 1) := by decide +kernel
theorem dX8_stripOf_126 : decode cX8_stripOf 126 = .ok (.goto 4, 3) := by decide +kernel
theorem dX8_stripOf_129 : decode cX8_stripOf 129 = .ok (.iconst 0, 1) := by decide +kernel
theorem dX8_stripOf_130 : decode cX8_stripOf 130 = .ok (.ireturn, 1) := by decide +kernel
theorem dX8_stripOf_131 : decode cX8_stripOf 131 = .ok (.aload_n 0, 1) := by decide +kernel
theorem dX8_stripOf_132 : decode cX8_stripOf 132 = .ok (.getfield 7, 3) := by decide +kernel
theorem dX8_stripOf_135 : decode cX8_stripOf 135 = .ok (.iload_n 1, 1) := by decide +kernel
theorem dX8_stripOf_136 : decode cX8_stripOf 136 = .ok (.invokestatic 42, 3) := by decide +kernel
theorem dX8_stripOf_139 : decode cX8_stripOf 139 = .ok (.iload_n 2, 1) := by decide +kernel
theorem dX8_stripOf_140 : decode cX8_stripOf 140 = .ok (.iadd, 1) := by decide +kernel
theorem dX8_stripOf_141 : decode cX8_stripOf 141 = .ok (.iconst 3, 1) := by decide +kernel
theorem dX8_stripOf_142 : decode cX8_stripOf 142 = .ok (.isub, 1) := by decide +kernel
theorem dX8_stripOf_143 : decode cX8_stripOf 143 = .ok (.iaload, 1) := by decide +kernel
theorem dX8_stripOf_144 : decode cX8_stripOf 144 = .ok (.ireturn, 1) := by decide +kernel
theorem dX8_partOf_0 : decode cX8_partOf 0 = .ok (.iload_n 1, 1) := by decide +kernel
theorem dX8_partOf_1 : decode cX8_partOf 1 = .ok (.invokestatic 118, 3) := by decide +kernel
theorem dX8_partOf_4 : decode cX8_partOf 4 = .ok (.ifCond .eq 16, 3) := by decide +kernel
theorem dX8_partOf_7 : decode cX8_partOf 7 = .ok (.iload_n 3, 1) := by decide +kernel
theorem dX8_partOf_8 : decode cX8_partOf 8 = .ok (.iconst 0, 1) := by decide +kernel
theorem dX8_partOf_9 : decode cX8_partOf 9 = .ok (.iconst 3, 1) := by decide +kernel
theorem dX8_partOf_10 : decode cX8_partOf 10 = .ok (.invokestatic 49, 3) := by decide +kernel
theorem dX8_partOf_13 : decode cX8_partOf 13 = .ok (.ifCond .eq 7, 3) := by decide +kernel
theorem dX8_partOf_16 : decode cX8_partOf 16 = .ok (.iload_n 2, 1) := by decide +kernel
theorem dX8_partOf_17 : decode cX8_partOf 17 = .ok (.ifCond .ge 6, 3) := by decide +kernel
theorem dX8_partOf_20 : decode cX8_partOf 20 = .ok (.ldc 53, 2) := by decide +kernel
theorem dX8_partOf_22 : decode cX8_partOf 22 = .ok (.ireturn, 1) := by decide +kernel
theorem dX8_partOf_23 : decode cX8_partOf 23 = .ok (.iload_n 2, 1) := by decide +kernel
theorem dX8_partOf_24 : decode cX8_partOf 24 = .ok (.aload_n 0, 1) := by decide +kernel
theorem dX8_partOf_25 : decode cX8_partOf 25 = .ok (.iload_n 1, 1) := by decide +kernel
theorem dX8_partOf_26 : decode cX8_partOf 26 = .ok (.invokevirtual 65, 3) := by decide +kernel
theorem dX8_partOf_29 : decode cX8_partOf 29 = .ok (.if_icmp .lt 6, 3) := by decide +kernel
theorem dX8_partOf_32 : decode cX8_partOf 32 = .ok (.ldc 150, 2) := by decide +kernel
theorem dX8_partOf_34 : decode cX8_partOf 34 = .ok (.ireturn, 1) := by decide +kernel
theorem dX8_partOf_35 : decode cX8_partOf 35 = .ok (.iload_n 3, 1) := by decide +kernel
theorem dX8_partOf_36 : decode cX8_partOf 36 = .ok (.iconst 3, 1) := by decide +kernel
theorem dX8_partOf_37 : decode cX8_partOf 37 = .ok (.if_icmp .ne 12, 3) := by decide +kernel
theorem dX8_partOf_40 : decode cX8_partOf 40 = .ok (.aload_n 0, 1) := by decide +kernel
theorem dX8_partOf_41 : decode cX8_partOf 41 = .ok (.iload_n 1, 1) := by decide +kernel
theorem dX8_partOf_42 : decode cX8_partOf 42 = .ok (.iload_n 2, 1) := by decide +kernel
theorem dX8_partOf_43 : decode cX8_partOf 43 = .ok (.invokevirtual 68, 3) := by decide +kernel
theorem dX8_partOf_46 : decode cX8_partOf 46 = .ok (.goto 10, 3) := by decide +kernel
theorem dX8_partOf_49 : decode cX8_partOf 49 = .ok (.aload_n 0, 1) := by decide +kernel
theorem dX8_partOf_50 : decode cX8_partOf 50 = .ok (.iload_n 1, 1) := by decide +kernel
theorem dX8_partOf_51 : decode cX8_partOf 51 = .ok (.iload_n 2, 1) := by decide +kernel
theorem dX8_partOf_52 : decode cX8_partOf 52 = .ok (.iload_n 3, 1) := by decide +kernel
theorem dX8_partOf_53 : decode cX8_partOf 53 = .ok (.invokevirtual 61, 3) := by decide +kernel
theorem dX8_partOf_56 : decode cX8_partOf 56 = .ok (.ireturn, 1) := by decide +kernel
theorem dX8_roomOf_0 : decode cX8_roomOf 0 = .ok (.iload_n 1, 1) := by decide +kernel
theorem dX8_roomOf_1 : decode cX8_roomOf 1 = .ok (.invokestatic 118, 3) := by decide +kernel
theorem dX8_roomOf_4 : decode cX8_roomOf 4 = .ok (.ifCond .eq 13, 3) := by decide +kernel
theorem dX8_roomOf_7 : decode cX8_roomOf 7 = .ok (.iload_n 2, 1) := by decide +kernel
theorem dX8_roomOf_8 : decode cX8_roomOf 8 = .ok (.iconst 0, 1) := by decide +kernel
theorem dX8_roomOf_9 : decode cX8_roomOf 9 = .ok (.bipush 6, 2) := by decide +kernel
theorem dX8_roomOf_11 : decode cX8_roomOf 11 = .ok (.invokestatic 49, 3) := by decide +kernel
theorem dX8_roomOf_14 : decode cX8_roomOf 14 = .ok (.ifCond .ne 6, 3) := by decide +kernel
theorem dX8_roomOf_17 : decode cX8_roomOf 17 = .ok (.ldc 53, 2) := by decide +kernel
theorem dX8_roomOf_19 : decode cX8_roomOf 19 = .ok (.ireturn, 1) := by decide +kernel
theorem dX8_roomOf_20 : decode cX8_roomOf 20 = .ok (.iload_n 2, 1) := by decide +kernel
theorem dX8_roomOf_21 : decode cX8_roomOf 21 = .ok (.iconst 4, 1) := by decide +kernel
theorem dX8_roomOf_22 : decode cX8_roomOf 22 = .ok (.if_icmp .le 18, 3) := by decide +kernel
theorem dX8_roomOf_25 : decode cX8_roomOf 25 = .ok (.aload_n 0, 1) := by decide +kernel
theorem dX8_roomOf_26 : decode cX8_roomOf 26 = .ok (.getfield 7, 3) := by decide +kernel
theorem dX8_roomOf_29 : decode cX8_roomOf 29 = .ok (.bipush 9, 2) := by decide +kernel
theorem dX8_roomOf_31 : decode cX8_roomOf 31 = .ok (.iaload, 1) := by decide +kernel
theorem dX8_roomOf_32 : decode cX8_roomOf 32 = .ok (.ifCond .ne 8, 3) := by decide +kernel
theorem dX8_roomOf_35 : decode cX8_roomOf 35 = .ok (.ldc 150, 2) := by decide +kernel
theorem dX8_roomOf_37 : decode cX8_roomOf 37 = .ok (.goto 14, 3) := by decide +kernel
theorem dX8_roomOf_40 : decode cX8_roomOf 40 = .ok (.aload_n 0, 1) := by decide +kernel
theorem dX8_roomOf_41 : decode cX8_roomOf 41 = .ok (.getfield 7, 3) := by decide +kernel
theorem dX8_roomOf_44 : decode cX8_roomOf 44 = .ok (.iload_n 1, 1) := by decide +kernel
theorem dX8_roomOf_45 : decode cX8_roomOf 45 = .ok (.invokestatic 46, 3) := by decide +kernel
theorem dX8_roomOf_48 : decode cX8_roomOf 48 = .ok (.iload_n 2, 1) := by decide +kernel
theorem dX8_roomOf_49 : decode cX8_roomOf 49 = .ok (.iadd, 1) := by decide +kernel
theorem dX8_roomOf_50 : decode cX8_roomOf 50 = .ok (.iaload, 1) := by decide +kernel
theorem dX8_roomOf_51 : decode cX8_roomOf 51 = .ok (.ireturn, 1) := by decide +kernel
theorem dX8_count_0 : decode cX8_count 0 = .ok (.iload_n 1, 1) := by decide +kernel
theorem dX8_count_1 : decode cX8_count 1 = .ok (.tableswitch 120 0 6 #[43, 51, 90, 98, 103, 108, 108], 43) := by decide +kernel
theorem dX8_count_44 : decode cX8_count 44 = .ok (.aload_n 0, 1) := by decide +kernel
theorem dX8_count_45 : decode cX8_count 45 = .ok (.getfield 7, 3) := by decide +kernel
theorem dX8_count_48 : decode cX8_count 48 = .ok (.bipush 9, 2) := by decide +kernel
theorem dX8_count_50 : decode cX8_count 50 = .ok (.iaload, 1) := by decide +kernel
theorem dX8_count_51 : decode cX8_count 51 = .ok (.ireturn, 1) := by decide +kernel
theorem dX8_count_52 : decode cX8_count 52 = .ok (.aload_n 0, 1) := by decide +kernel
theorem dX8_count_53 : decode cX8_count 53 = .ok (.getfield 7, 3) := by decide +kernel
theorem dX8_count_56 : decode cX8_count 56 = .ok (.iconst 0, 1) := by decide +kernel
theorem dX8_count_57 : decode cX8_count 57 = .ok (.invokestatic 42, 3) := by decide +kernel
theorem dX8_count_60 : decode cX8_count 60 = .ok (.bipush 6, 2) := by decide +kernel
theorem dX8_count_62 : decode cX8_count 62 = .ok (.iadd, 1) := by decide +kernel
theorem dX8_count_63 : decode cX8_count 63 = .ok (.iaload, 1) := by decide +kernel
theorem dX8_count_64 : decode cX8_count 64 = .ok (.aload_n 0, 1) := by decide +kernel
theorem dX8_count_65 : decode cX8_count 65 = .ok (.getfield 7, 3) := by decide +kernel
theorem dX8_count_68 : decode cX8_count 68 = .ok (.iconst 1, 1) := by decide +kernel
theorem dX8_count_69 : decode cX8_count 69 = .ok (.invokestatic 42, 3) := by decide +kernel
theorem dX8_count_72 : decode cX8_count 72 = .ok (.bipush 6, 2) := by decide +kernel
theorem dX8_count_74 : decode cX8_count 74 = .ok (.iadd, 1) := by decide +kernel
theorem dX8_count_75 : decode cX8_count 75 = .ok (.iaload, 1) := by decide +kernel
theorem dX8_count_76 : decode cX8_count 76 = .ok (.iadd, 1) := by decide +kernel
theorem dX8_count_77 : decode cX8_count 77 = .ok (.aload_n 0, 1) := by decide +kernel
theorem dX8_count_78 : decode cX8_count 78 = .ok (.getfield 7, 3) := by decide +kernel
theorem dX8_count_81 : decode cX8_count 81 = .ok (.iconst 2, 1) := by decide +kernel
theorem dX8_count_82 : decode cX8_count 82 = .ok (.invokestatic 42, 3) := by decide +kernel
theorem dX8_count_85 : decode cX8_count 85 = .ok (.bipush 6, 2) := by decide +kernel
theorem dX8_count_87 : decode cX8_count 87 = .ok (.iadd, 1) := by decide +kernel
theorem dX8_count_88 : decode cX8_count 88 = .ok (.iaload, 1) := by decide +kernel
theorem dX8_count_89 : decode cX8_count 89 = .ok (.iadd, 1) := by decide +kernel
theorem dX8_count_90 : decode cX8_count 90 = .ok (.ireturn, 1) := by decide +kernel
theorem dX8_count_91 : decode cX8_count 91 = .ok (.aload_n 0, 1) := by decide +kernel
theorem dX8_count_92 : decode cX8_count 92 = .ok (.getfield 7, 3) := by decide +kernel
theorem dX8_count_95 : decode cX8_count 95 = .ok (.bipush 8, 2) := by decide +kernel
theorem dX8_count_97 : decode cX8_count 97 = .ok (.iaload, 1) := by decide +kernel
theorem dX8_count_98 : decode cX8_count 98 = .ok (.ireturn, 1) := by decide +kernel
theorem dX8_count_99 : decode cX8_count 99 = .ok (.aload_n 0, 1) := by decide +kernel
theorem dX8_count_100 : decode cX8_count 100 = .ok (.getfield 57, 3) := by decide +kernel
theorem dX8_count_103 : decode cX8_count 103 = .ok (.ireturn, 1) := by decide +kernel
theorem dX8_count_104 : decode cX8_count 104 = .ok (.aload_n 0, 1) := by decide +kernel
theorem dX8_count_105 : decode cX8_count 105 = .ok (.getfield 151, 3) := by decide +kernel
theorem dX8_count_108 : decode cX8_count 108 = .ok (.ireturn, 1) := by decide +kernel
theorem dX8_count_109 : decode cX8_count 109 = .ok (.aload_n 0, 1) := by decide +kernel
theorem dX8_count_110 : decode cX8_count 110 = .ok (.getfield 7, 3) := by decide +kernel
theorem dX8_count_113 : decode cX8_count 113 = .ok (.bipush 6, 2) := by decide +kernel
theorem dX8_count_115 : decode cX8_count 115 = .ok (.iload_n 1, 1) := by decide +kernel
theorem dX8_count_116 : decode cX8_count 116 = .ok (.iadd, 1) := by decide +kernel
theorem dX8_count_117 : decode cX8_count 117 = .ok (.iconst 5, 1) := by decide +kernel
theorem dX8_count_118 : decode cX8_count 118 = .ok (.isub, 1) := by decide +kernel
theorem dX8_count_119 : decode cX8_count 119 = .ok (.iaload, 1) := by decide +kernel
theorem dX8_count_120 : decode cX8_count 120 = .ok (.ireturn, 1) := by decide +kernel
theorem dX8_count_121 : decode cX8_count 121 = .ok (.iload_n 1, 1) := by decide +kernel
theorem dX8_count_122 : decode cX8_count 122 = .ok (.bipush 10, 2) := by decide +kernel
theorem dX8_count_124 : decode cX8_count 124 = .ok (.bipush 15, 2) := by decide +kernel
theorem dX8_count_126 : decode cX8_count 126 = .ok (.invokestatic 49, 3) := by decide +kernel
theorem dX8_count_129 : decode cX8_count 129 = .ok (.ifCond .eq 17, 3) := by decide +kernel
theorem dX8_count_132 : decode cX8_count 132 = .ok (.aload_n 0, 1) := by decide +kernel
theorem dX8_count_133 : decode cX8_count 133 = .ok (.getfield 7, 3) := by decide +kernel
theorem dX8_count_136 : decode cX8_count 136 = .ok (.iconst 0, 1) := by decide +kernel
theorem dX8_count_137 : decode cX8_count 137 = .ok (.iload_n 1, 1) := by decide +kernel
theorem dX8_count_138 : decode cX8_count 138 = .ok (.iadd, 1) := by decide +kernel
theorem dX8_count_139 : decode cX8_count 139 = .ok (.bipush 10, 2) := by decide +kernel
theorem dX8_count_141 : decode cX8_count 141 = .ok (.isub, 1) := by decide +kernel
theorem dX8_count_142 : decode cX8_count 142 = .ok (.iaload, 1) := by decide +kernel
theorem dX8_count_143 : decode cX8_count 143 = .ok (.goto 5, 3) := by decide +kernel
theorem dX8_count_146 : decode cX8_count 146 = .ok (.ldc 53, 2) := by decide +kernel
theorem dX8_count_148 : decode cX8_count 148 = .ok (.ireturn, 1) := by decide +kernel
theorem dX8_bend_0 : decode cX8_bend 0 = .ok (.iload_n 1, 1) := by decide +kernel
theorem dX8_bend_1 : decode cX8_bend 1 = .ok (.invokestatic 118, 3) := by decide +kernel
theorem dX8_bend_4 : decode cX8_bend 4 = .ok (.ifCond .eq 19, 3) := by decide +kernel
theorem dX8_bend_7 : decode cX8_bend 7 = .ok (.iload_n 2, 1) := by decide +kernel
theorem dX8_bend_8 : decode cX8_bend 8 = .ok (.invokestatic 141, 3) := by decide +kernel
theorem dX8_bend_11 : decode cX8_bend 11 = .ok (.ifCond .eq 12, 3) := by decide +kernel
theorem dX8_bend_14 : decode cX8_bend 14 = .ok (.aload_n 0, 1) := by decide +kernel
theorem dX8_bend_15 : decode cX8_bend 15 = .ok (.iload_n 1, 1) := by decide +kernel
theorem dX8_bend_16 : decode cX8_bend 16 = .ok (.iload_n 2, 1) := by decide +kernel
theorem dX8_bend_17 : decode cX8_bend 17 = .ok (.invokevirtual 131, 3) := by decide +kernel
theorem dX8_bend_20 : decode cX8_bend 20 = .ok (.goto 5, 3) := by decide +kernel
theorem dX8_bend_23 : decode cX8_bend 23 = .ok (.ldc 53, 2) := by decide +kernel
theorem dX8_bend_25 : decode cX8_bend 25 = .ok (.ireturn, 1) := by decide +kernel
theorem dX8_tripsAt_0 : decode cX8_tripsAt 0 = .ok (.iload_n 1, 1) := by decide +kernel
theorem dX8_tripsAt_1 : decode cX8_tripsAt 1 = .ok (.invokestatic 118, 3) := by decide +kernel
theorem dX8_tripsAt_4 : decode cX8_tripsAt 4 = .ok (.ifCond .eq 12, 3) := by decide +kernel
theorem dX8_tripsAt_7 : decode cX8_tripsAt 7 = .ok (.iload_n 2, 1) := by decide +kernel
theorem dX8_tripsAt_8 : decode cX8_tripsAt 8 = .ok (.iconst 0, 1) := by decide +kernel
theorem dX8_tripsAt_9 : decode cX8_tripsAt 9 = .ok (.iconst 1, 1) := by decide +kernel
theorem dX8_tripsAt_10 : decode cX8_tripsAt 10 = .ok (.invokestatic 49, 3) := by decide +kernel
theorem dX8_tripsAt_13 : decode cX8_tripsAt 13 = .ok (.ifCond .ne 6, 3) := by decide +kernel
theorem dX8_tripsAt_16 : decode cX8_tripsAt 16 = .ok (.ldc 53, 2) := by decide +kernel
theorem dX8_tripsAt_18 : decode cX8_tripsAt 18 = .ok (.ireturn, 1) := by decide +kernel
theorem dX8_tripsAt_19 : decode cX8_tripsAt 19 = .ok (.aload_n 0, 1) := by decide +kernel
theorem dX8_tripsAt_20 : decode cX8_tripsAt 20 = .ok (.iload_n 1, 1) := by decide +kernel
theorem dX8_tripsAt_21 : decode cX8_tripsAt 21 = .ok (.invokevirtual 72, 3) := by decide +kernel
theorem dX8_tripsAt_24 : decode cX8_tripsAt 24 = .ok (.istore_n 3, 1) := by decide +kernel
theorem dX8_tripsAt_25 : decode cX8_tripsAt 25 = .ok (.iconst 0, 1) := by decide +kernel
theorem dX8_tripsAt_26 : decode cX8_tripsAt 26 = .ok (.istore 4, 2) := by decide +kernel
theorem dX8_tripsAt_28 : decode cX8_tripsAt 28 = .ok (.iload 4, 2) := by decide +kernel
theorem dX8_tripsAt_30 : decode cX8_tripsAt 30 = .ok (.sipush 2000, 3) := by decide +kernel
theorem dX8_tripsAt_33 : decode cX8_tripsAt 33 = .ok (.if_icmp .gt 82, 3) := by decide +kernel
theorem dX8_tripsAt_36 : decode cX8_tripsAt 36 = .ok (.iload_n 2, 1) := by decide +kernel
theorem dX8_tripsAt_37 : decode cX8_tripsAt 37 = .ok (.ifCond .ne 12, 3) := by decide +kernel
theorem dX8_tripsAt_40 : decode cX8_tripsAt 40 = .ok (.sipush (-500), 3) := by decide +kernel
theorem dX8_tripsAt_43 : decode cX8_tripsAt 43 = .ok (.iload 4, 2) := by decide +kernel
theorem dX8_tripsAt_45 : decode cX8_tripsAt 45 = .ok (.iadd, 1) := by decide +kernel
theorem dX8_tripsAt_46 : decode cX8_tripsAt 46 = .ok (.goto 9, 3) := by decide +kernel
theorem dX8_tripsAt_49 : decode cX8_tripsAt 49 = .ok (.sipush 1500, 3) := by decide +kernel
theorem dX8_tripsAt_52 : decode cX8_tripsAt 52 = .ok (.iload 4, 2) := by decide +kernel
theorem dX8_tripsAt_54 : decode cX8_tripsAt 54 = .ok (.isub, 1) := by decide +kernel
theorem dX8_tripsAt_55 : decode cX8_tripsAt 55 = .ok (.istore 5, 2) := by decide +kernel
theorem dX8_tripsAt_57 : decode cX8_tripsAt 57 = .ok (.iload_n 3, 1) := by decide +kernel
theorem dX8_tripsAt_58 : decode cX8_tripsAt 58 = .ok (.iload 5, 2) := by decide +kernel
theorem dX8_tripsAt_60 : decode cX8_tripsAt 60 = .ok (.sipush 200, 3) := by decide +kernel
theorem dX8_tripsAt_63 : decode cX8_tripsAt 63 = .ok (.isub, 1) := by decide +kernel
theorem dX8_tripsAt_64 : decode cX8_tripsAt 64 = .ok (.imul, 1) := by decide +kernel
theorem dX8_tripsAt_65 : decode cX8_tripsAt 65 = .ok (.istore 6, 2) := by decide +kernel
theorem dX8_tripsAt_67 : decode cX8_tripsAt 67 = .ok (.iload_n 2, 1) := by decide +kernel
theorem dX8_tripsAt_68 : decode cX8_tripsAt 68 = .ok (.ifCond .ne 22, 3) := by decide +kernel
theorem dX8_tripsAt_71 : decode cX8_tripsAt 71 = .ok (.iload 6, 2) := by decide +kernel
theorem dX8_tripsAt_73 : decode cX8_tripsAt 73 = .ok (.aload_n 0, 1) := by decide +kernel
theorem dX8_tripsAt_74 : decode cX8_tripsAt 74 = .ok (.getfield 7, 3) := by decide +kernel
theorem dX8_tripsAt_77 : decode cX8_tripsAt 77 = .ok (.iload_n 1, 1) := by decide +kernel
theorem dX8_tripsAt_78 : decode cX8_tripsAt 78 = .ok (.invokestatic 42, 3) := by decide +kernel
theorem dX8_tripsAt_81 : decode cX8_tripsAt 81 = .ok (.iconst 2, 1) := by decide +kernel
theorem dX8_tripsAt_82 : decode cX8_tripsAt 82 = .ok (.iadd, 1) := by decide +kernel
theorem dX8_tripsAt_83 : decode cX8_tripsAt 83 = .ok (.iaload, 1) := by decide +kernel
theorem dX8_tripsAt_84 : decode cX8_tripsAt 84 = .ok (.if_icmp .lt 25, 3) := by decide +kernel
theorem dX8_tripsAt_87 : decode cX8_tripsAt 87 = .ok (.goto 19, 3) := by decide +kernel
theorem dX8_tripsAt_90 : decode cX8_tripsAt 90 = .ok (.iload 6, 2) := by decide +kernel
theorem dX8_tripsAt_92 : decode cX8_tripsAt 92 = .ok (.aload_n 0, 1) := by decide +kernel
theorem dX8_tripsAt_93 : decode cX8_tripsAt 93 = .ok (.getfield 7, 3) := by decide +kernel
theorem dX8_tripsAt_96 : decode cX8_tripsAt 96 = .ok (.iload_n 1, 1) := by decide +kernel
theorem dX8_tripsAt_97 : decode cX8_tripsAt 97 = .ok (.invokestatic 42, 3) := by decide +kernel
theorem dX8_tripsAt_100 : decode cX8_tripsAt 100 = .ok (.iconst 1, 1) := by decide +kernel
theorem dX8_tripsAt_101 : decode cX8_tripsAt 101 = .ok (.iadd, 1) := by decide +kernel
theorem dX8_tripsAt_102 : decode cX8_tripsAt 102 = .ok (.iaload, 1) := by decide +kernel
theorem dX8_tripsAt_103 : decode cX8_tripsAt 103 = .ok (.if_icmp .gt 6, 3) := by decide +kernel
theorem dX8_tripsAt_106 : decode cX8_tripsAt 106 = .ok (.iload 5, 2) := by decide +kernel
theorem dX8_tripsAt_108 : decode cX8_tripsAt 108 = .ok (.ireturn, 1) := by decide +kernel
theorem dX8_tripsAt_109 : decode cX8_tripsAt 109 = .ok (.iinc 4 1, 3) := by decide +kernel
theorem dX8_tripsAt_112 : decode cX8_tripsAt 112 = .ok (.goto (-84), 3) := by decide +kernel
theorem dX8_tripsAt_115 : decode cX8_tripsAt 115 = .ok (.ldc 150, 2) := by decide +kernel
theorem dX8_tripsAt_117 : decode cX8_tripsAt 117 = .ok (.ireturn, 1) := by decide +kernel
theorem dX8_sign_0 : decode cX8_sign 0 = .ok (.lconst 0, 1) := by decide +kernel
theorem dX8_sign_1 : decode cX8_sign 1 = .ok (.lstore_n 1, 1) := by decide +kernel
theorem dX8_sign_2 : decode cX8_sign 2 = .ok (.iconst 0, 1) := by decide +kernel
theorem dX8_sign_3 : decode cX8_sign 3 = .ok (.istore_n 3, 1) := by decide +kernel
theorem dX8_sign_4 : decode cX8_sign 4 = .ok (.iload_n 3, 1) := by decide +kernel
theorem dX8_sign_5 : decode cX8_sign 5 = .ok (.iconst 3, 1) := by decide +kernel
theorem dX8_sign_6 : decode cX8_sign 6 = .ok (.if_icmp .ge 68, 3) := by decide +kernel
theorem dX8_sign_9 : decode cX8_sign 9 = .ok (.lload_n 1, 1) := by decide +kernel
theorem dX8_sign_10 : decode cX8_sign 10 = .ok (.ldc2_w 154, 3) := by decide +kernel
theorem dX8_sign_13 : decode cX8_sign 13 = .ok (.lmul, 1) := by decide +kernel
theorem dX8_sign_14 : decode cX8_sign 14 = .ok (.aload_n 0, 1) := by decide +kernel
theorem dX8_sign_15 : decode cX8_sign 15 = .ok (.getfield 7, 3) := by decide +kernel
theorem dX8_sign_18 : decode cX8_sign 18 = .ok (.iload_n 3, 1) := by decide +kernel
theorem dX8_sign_19 : decode cX8_sign 19 = .ok (.invokestatic 46, 3) := by decide +kernel
theorem dX8_sign_22 : decode cX8_sign 22 = .ok (.iaload, 1) := by decide +kernel
theorem dX8_sign_23 : decode cX8_sign 23 = .ok (.i2l, 1) := by decide +kernel
theorem dX8_sign_24 : decode cX8_sign 24 = .ok (.ladd, 1) := by decide +kernel
theorem dX8_sign_25 : decode cX8_sign 25 = .ok (.ldc2_w 156, 3) := by decide +kernel
theorem dX8_sign_28 : decode cX8_sign 28 = .ok (.lsub, 1) := by decide +kernel
theorem dX8_sign_29 : decode cX8_sign 29 = .ok (.lstore_n 1, 1) := by decide +kernel
theorem dX8_sign_30 : decode cX8_sign 30 = .ok (.ldc2_w 158, 3) := by decide +kernel
theorem dX8_sign_33 : decode cX8_sign 33 = .ok (.lload_n 1, 1) := by decide +kernel
theorem dX8_sign_34 : decode cX8_sign 34 = .ok (.lmul, 1) := by decide +kernel
theorem dX8_sign_35 : decode cX8_sign 35 = .ok (.aload_n 0, 1) := by decide +kernel
theorem dX8_sign_36 : decode cX8_sign 36 = .ok (.getfield 7, 3) := by decide +kernel
theorem dX8_sign_39 : decode cX8_sign 39 = .ok (.iload_n 3, 1) := by decide +kernel
theorem dX8_sign_40 : decode cX8_sign 40 = .ok (.invokestatic 42, 3) := by decide +kernel
theorem dX8_sign_43 : decode cX8_sign 43 = .ok (.iconst 4, 1) := by decide +kernel
theorem dX8_sign_44 : decode cX8_sign 44 = .ok (.iadd, 1) := by decide +kernel
theorem dX8_sign_45 : decode cX8_sign 45 = .ok (.iaload, 1) := by decide +kernel
theorem dX8_sign_46 : decode cX8_sign 46 = .ok (.i2l, 1) := by decide +kernel
theorem dX8_sign_47 : decode cX8_sign 47 = .ok (.ladd, 1) := by decide +kernel
theorem dX8_sign_48 : decode cX8_sign 48 = .ok (.lstore_n 1, 1) := by decide +kernel
theorem dX8_sign_49 : decode cX8_sign 49 = .ok (.ldc2_w 160, 3) := by decide +kernel
theorem dX8_sign_52 : decode cX8_sign 52 = .ok (.lload_n 1, 1) := by decide +kernel
theorem dX8_sign_53 : decode cX8_sign 53 = .ok (.lmul, 1) := by decide +kernel
theorem dX8_sign_54 : decode cX8_sign 54 = .ok (.aload_n 0, 1) := by decide +kernel
theorem dX8_sign_55 : decode cX8_sign 55 = .ok (.getfield 7, 3) := by decide +kernel
theorem dX8_sign_58 : decode cX8_sign 58 = .ok (.iload_n 3, 1) := by decide +kernel
theorem dX8_sign_59 : decode cX8_sign 59 = .ok (.invokestatic 42, 3) := by decide +kernel
theorem dX8_sign_62 : decode cX8_sign 62 = .ok (.iconst 5, 1) := by decide +kernel
theorem dX8_sign_63 : decode cX8_sign 63 = .ok (.iadd, 1) := by decide +kernel
theorem dX8_sign_64 : decode cX8_sign 64 = .ok (.iaload, 1) := by decide +kernel
theorem dX8_sign_65 : decode cX8_sign 65 = .ok (.i2l, 1) := by decide +kernel
theorem dX8_sign_66 : decode cX8_sign 66 = .ok (.ladd, 1) := by decide +kernel
theorem dX8_sign_67 : decode cX8_sign 67 = .ok (.lstore_n 1, 1) := by decide +kernel
theorem dX8_sign_68 : decode cX8_sign 68 = .ok (.iinc 3 1, 3) := by decide +kernel
theorem dX8_sign_71 : decode cX8_sign 71 = .ok (.goto (-67), 3) := by decide +kernel
theorem dX8_sign_74 : decode cX8_sign 74 = .ok (.lload_n 1, 1) := by decide +kernel
theorem dX8_sign_75 : decode cX8_sign 75 = .ok (.lreturn, 1) := by decide +kernel
theorem dX8_snapsOfAll_0 : decode cX8_snapsOfAll 0 = .ok (.aload_n 0, 1) := by decide +kernel
theorem dX8_snapsOfAll_1 : decode cX8_snapsOfAll 1 = .ok (.getfield 7, 3) := by decide +kernel
theorem dX8_snapsOfAll_4 : decode cX8_snapsOfAll 4 = .ok (.iconst 0, 1) := by decide +kernel
theorem dX8_snapsOfAll_5 : decode cX8_snapsOfAll 5 = .ok (.invokestatic 42, 3) := by decide +kernel
theorem dX8_snapsOfAll_8 : decode cX8_snapsOfAll 8 = .ok (.bipush 6, 2) := by decide +kernel
theorem dX8_snapsOfAll_10 : decode cX8_snapsOfAll 10 = .ok (.iadd, 1) := by decide +kernel
theorem dX8_snapsOfAll_11 : decode cX8_snapsOfAll 11 = .ok (.iaload, 1) := by decide +kernel
theorem dX8_snapsOfAll_12 : decode cX8_snapsOfAll 12 = .ok (.aload_n 0, 1) := by decide +kernel
theorem dX8_snapsOfAll_13 : decode cX8_snapsOfAll 13 = .ok (.getfield 7, 3) := by decide +kernel
theorem dX8_snapsOfAll_16 : decode cX8_snapsOfAll 16 = .ok (.iconst 1, 1) := by decide +kernel
theorem dX8_snapsOfAll_17 : decode cX8_snapsOfAll 17 = .ok (.invokestatic 42, 3) := by decide +kernel
theorem dX8_snapsOfAll_20 : decode cX8_snapsOfAll 20 = .ok (.bipush 6, 2) := by decide +kernel
theorem dX8_snapsOfAll_22 : decode cX8_snapsOfAll 22 = .ok (.iadd, 1) := by decide +kernel
theorem dX8_snapsOfAll_23 : decode cX8_snapsOfAll 23 = .ok (.iaload, 1) := by decide +kernel
theorem dX8_snapsOfAll_24 : decode cX8_snapsOfAll 24 = .ok (.iadd, 1) := by decide +kernel
theorem dX8_snapsOfAll_25 : decode cX8_snapsOfAll 25 = .ok (.aload_n 0, 1) := by decide +kernel
theorem dX8_snapsOfAll_26 : decode cX8_snapsOfAll 26 = .ok (.getfield 7, 3) := by decide +kernel
theorem dX8_snapsOfAll_29 : decode cX8_snapsOfAll 29 = .ok (.iconst 2, 1) := by decide +kernel
theorem dX8_snapsOfAll_30 : decode cX8_snapsOfAll 30 = .ok (.invokestatic 42, 3) := by decide +kernel
theorem dX8_snapsOfAll_33 : decode cX8_snapsOfAll 33 = .ok (.bipush 6, 2) := by decide +kernel
theorem dX8_snapsOfAll_35 : decode cX8_snapsOfAll 35 = .ok (.iadd, 1) := by decide +kernel
theorem dX8_snapsOfAll_36 : decode cX8_snapsOfAll 36 = .ok (.iaload, 1) := by decide +kernel
theorem dX8_snapsOfAll_37 : decode cX8_snapsOfAll 37 = .ok (.iadd, 1) := by decide +kernel
theorem dX8_snapsOfAll_38 : decode cX8_snapsOfAll 38 = .ok (.ireturn, 1) := by decide +kernel
theorem dX8_keeps_0 : decode cX8_keeps 0 = .ok (.aload_n 0, 1) := by decide +kernel
theorem dX8_keeps_1 : decode cX8_keeps 1 = .ok (.invokevirtual 109, 3) := by decide +kernel
theorem dX8_keeps_4 : decode cX8_keeps 4 = .ok (.aload_n 0, 1) := by decide +kernel
theorem dX8_keeps_5 : decode cX8_keeps 5 = .ok (.invokevirtual 102, 3) := by decide +kernel
theorem dX8_keeps_8 : decode cX8_keeps 8 = .ok (.iconst 0, 1) := by decide +kernel
theorem dX8_keeps_9 : decode cX8_keeps 9 = .ok (.istore_n 1, 1) := by decide +kernel
theorem dX8_keeps_10 : decode cX8_keeps 10 = .ok (.iload_n 1, 1) := by decide +kernel
theorem dX8_keeps_11 : decode cX8_keeps 11 = .ok (.sipush 1500, 3) := by decide +kernel
theorem dX8_keeps_14 : decode cX8_keeps 14 = .ok (.if_icmp .gt 35, 3) := by decide +kernel
theorem dX8_keeps_17 : decode cX8_keeps 17 = .ok (.aload_n 0, 1) := by decide +kernel
theorem dX8_keeps_18 : decode cX8_keeps 18 = .ok (.getfield 25, 3) := by decide +kernel
theorem dX8_keeps_21 : decode cX8_keeps 21 = .ok (.iload_n 1, 1) := by decide +kernel
theorem dX8_keeps_22 : decode cX8_keeps 22 = .ok (.aload_n 0, 1) := by decide +kernel
theorem dX8_keeps_23 : decode cX8_keeps 23 = .ok (.invokevirtual 162, 3) := by decide +kernel
theorem dX8_keeps_26 : decode cX8_keeps 26 = .ok (.lastore, 1) := by decide +kernel
theorem dX8_keeps_27 : decode cX8_keeps 27 = .ok (.aload_n 0, 1) := by decide +kernel
theorem dX8_keeps_28 : decode cX8_keeps 28 = .ok (.getfield 29, 3) := by decide +kernel
theorem dX8_keeps_31 : decode cX8_keeps 31 = .ok (.iload_n 1, 1) := by decide +kernel
theorem dX8_keeps_32 : decode cX8_keeps 32 = .ok (.aload_n 0, 1) := by decide +kernel
theorem dX8_keeps_33 : decode cX8_keeps 33 = .ok (.invokevirtual 166, 3) := by decide +kernel
theorem dX8_keeps_36 : decode cX8_keeps 36 = .ok (.iastore, 1) := by decide +kernel
theorem dX8_keeps_37 : decode cX8_keeps 37 = .ok (.aload_n 0, 1) := by decide +kernel
theorem dX8_keeps_38 : decode cX8_keeps 38 = .ok (.iconst 0, 1) := by decide +kernel
theorem dX8_keeps_39 : decode cX8_keeps 39 = .ok (.invokevirtual 105, 3) := by decide +kernel
theorem dX8_keeps_42 : decode cX8_keeps 42 = .ok (.istore_n 2, 1) := by decide +kernel
theorem dX8_keeps_43 : decode cX8_keeps 43 = .ok (.iinc 1 1, 3) := by decide +kernel
theorem dX8_keeps_46 : decode cX8_keeps 46 = .ok (.goto (-36), 3) := by decide +kernel
theorem dX8_keeps_49 : decode cX8_keeps 49 = .ok (.aload_n 0, 1) := by decide +kernel
theorem dX8_keeps_50 : decode cX8_keeps 50 = .ok (.invokevirtual 54, 3) := by decide +kernel
theorem dX8_keeps_53 : decode cX8_keeps 53 = .ok (.return_, 1) := by decide +kernel
theorem dX8_loop_0 : decode cX8_loop 0 = .ok (.iload_n 1, 1) := by decide +kernel
theorem dX8_loop_1 : decode cX8_loop 1 = .ok (.iconst 0, 1) := by decide +kernel
theorem dX8_loop_2 : decode cX8_loop 2 = .ok (.iconst 2, 1) := by decide +kernel
theorem dX8_loop_3 : decode cX8_loop 3 = .ok (.invokestatic 49, 3) := by decide +kernel
theorem dX8_loop_6 : decode cX8_loop 6 = .ok (.ifCond .ne 6, 3) := by decide +kernel
theorem dX8_loop_9 : decode cX8_loop 9 = .ok (.ldc 53, 2) := by decide +kernel
theorem dX8_loop_11 : decode cX8_loop 11 = .ok (.ireturn, 1) := by decide +kernel
theorem dX8_loop_12 : decode cX8_loop 12 = .ok (.aload_n 0, 1) := by decide +kernel
theorem dX8_loop_13 : decode cX8_loop 13 = .ok (.invokevirtual 170, 3) := by decide +kernel
theorem dX8_loop_16 : decode cX8_loop 16 = .ok (.iconst 1, 1) := by decide +kernel
theorem dX8_loop_17 : decode cX8_loop 17 = .ok (.istore_n 2, 1) := by decide +kernel
theorem dX8_loop_18 : decode cX8_loop 18 = .ok (.iload_n 2, 1) := by decide +kernel
theorem dX8_loop_19 : decode cX8_loop 19 = .ok (.sipush 1500, 3) := by decide +kernel
theorem dX8_loop_22 : decode cX8_loop 22 = .ok (.if_icmp .gt 31, 3) := by decide +kernel
theorem dX8_loop_25 : decode cX8_loop 25 = .ok (.aload_n 0, 1) := by decide +kernel
theorem dX8_loop_26 : decode cX8_loop 26 = .ok (.getfield 25, 3) := by decide +kernel
theorem dX8_loop_29 : decode cX8_loop 29 = .ok (.sipush 1500, 3) := by decide +kernel
theorem dX8_loop_32 : decode cX8_loop 32 = .ok (.iload_n 2, 1) := by decide +kernel
theorem dX8_loop_33 : decode cX8_loop 33 = .ok (.isub, 1) := by decide +kernel
theorem dX8_loop_34 : decode cX8_loop 34 = .ok (.laload, 1) := by decide +kernel
theorem dX8_loop_35 : decode cX8_loop 35 = .ok (.aload_n 0, 1) := by decide +kernel
theorem dX8_loop_36 : decode cX8_loop 36 = .ok (.getfield 25, 3) := by decide +kernel
theorem dX8_loop_39 : decode cX8_loop 39 = .ok (.sipush 1500, 3) := by decide +kernel
theorem dX8_loop_42 : decode cX8_loop 42 = .ok (.laload, 1) := by decide +kernel
theorem dX8_loop_43 : decode cX8_loop 43 = .ok (.lcmp, 1) := by decide +kernel
theorem dX8_loop_44 : decode cX8_loop 44 = .ok (.ifCond .eq 9, 3) := by decide +kernel
theorem dX8_loop_47 : decode cX8_loop 47 = .ok (.iinc 2 1, 3) := by decide +kernel
theorem dX8_loop_50 : decode cX8_loop 50 = .ok (.goto (-32), 3) := by decide +kernel
theorem dX8_loop_53 : decode cX8_loop 53 = .ok (.iload_n 2, 1) := by decide +kernel
theorem dX8_loop_54 : decode cX8_loop 54 = .ok (.sipush 1500, 3) := by decide +kernel
theorem dX8_loop_57 : decode cX8_loop 57 = .ok (.if_icmp .le 6, 3) := by decide +kernel
theorem dX8_loop_60 : decode cX8_loop 60 = .ok (.ldc 150, 2) := by decide +kernel
theorem dX8_loop_62 : decode cX8_loop 62 = .ok (.ireturn, 1) := by decide +kernel
theorem dX8_loop_63 : decode cX8_loop 63 = .ok (.iconst 0, 1) := by decide +kernel
theorem dX8_loop_64 : decode cX8_loop 64 = .ok (.istore_n 3, 1) := by decide +kernel
theorem dX8_loop_65 : decode cX8_loop 65 = .ok (.aload_n 0, 1) := by decide +kernel
theorem dX8_loop_66 : decode cX8_loop 66 = .ok (.getfield 25, 3) := by decide +kernel
theorem dX8_loop_69 : decode cX8_loop 69 = .ok (.iload_n 3, 1) := by decide +kernel
theorem dX8_loop_70 : decode cX8_loop 70 = .ok (.laload, 1) := by decide +kernel
theorem dX8_loop_71 : decode cX8_loop 71 = .ok (.aload_n 0, 1) := by decide +kernel
theorem dX8_loop_72 : decode cX8_loop 72 = .ok (.getfield 25, 3) := by decide +kernel
theorem dX8_loop_75 : decode cX8_loop 75 = .ok (.iload_n 3, 1) := by decide +kernel
theorem dX8_loop_76 : decode cX8_loop 76 = .ok (.iload_n 2, 1) := by decide +kernel
theorem dX8_loop_77 : decode cX8_loop 77 = .ok (.iadd, 1) := by decide +kernel
theorem dX8_loop_78 : decode cX8_loop 78 = .ok (.laload, 1) := by decide +kernel
theorem dX8_loop_79 : decode cX8_loop 79 = .ok (.lcmp, 1) := by decide +kernel
theorem dX8_loop_80 : decode cX8_loop 80 = .ok (.ifCond .eq 9, 3) := by decide +kernel
theorem dX8_loop_83 : decode cX8_loop 83 = .ok (.iinc 3 1, 3) := by decide +kernel
theorem dX8_loop_86 : decode cX8_loop 86 = .ok (.goto (-21), 3) := by decide +kernel
theorem dX8_loop_89 : decode cX8_loop 89 = .ok (.iload_n 1, 1) := by decide +kernel
theorem dX8_loop_90 : decode cX8_loop 90 = .ok (.ifCond .ne 7, 3) := by decide +kernel
theorem dX8_loop_93 : decode cX8_loop 93 = .ok (.iload_n 3, 1) := by decide +kernel
theorem dX8_loop_94 : decode cX8_loop 94 = .ok (.goto 27, 3) := by decide +kernel
theorem dX8_loop_97 : decode cX8_loop 97 = .ok (.iload_n 1, 1) := by decide +kernel
theorem dX8_loop_98 : decode cX8_loop 98 = .ok (.iconst 1, 1) := by decide +kernel
theorem dX8_loop_99 : decode cX8_loop 99 = .ok (.if_icmp .ne 7, 3) := by decide +kernel
theorem dX8_loop_102 : decode cX8_loop 102 = .ok (.iload_n 2, 1) := by decide +kernel
theorem dX8_loop_103 : decode cX8_loop 103 = .ok (.goto 18, 3) := by decide +kernel
theorem dX8_loop_106 : decode cX8_loop 106 = .ok (.aload_n 0, 1) := by decide +kernel
theorem dX8_loop_107 : decode cX8_loop 107 = .ok (.getfield 29, 3) := by decide +kernel
theorem dX8_loop_110 : decode cX8_loop 110 = .ok (.iload_n 3, 1) := by decide +kernel
theorem dX8_loop_111 : decode cX8_loop 111 = .ok (.iload_n 2, 1) := by decide +kernel
theorem dX8_loop_112 : decode cX8_loop 112 = .ok (.iadd, 1) := by decide +kernel
theorem dX8_loop_113 : decode cX8_loop 113 = .ok (.iaload, 1) := by decide +kernel
theorem dX8_loop_114 : decode cX8_loop 114 = .ok (.aload_n 0, 1) := by decide +kernel
theorem dX8_loop_115 : decode cX8_loop 115 = .ok (.getfield 29, 3) := by decide +kernel
theorem dX8_loop_118 : decode cX8_loop 118 = .ok (.iload_n 3, 1) := by decide +kernel
theorem dX8_loop_119 : decode cX8_loop 119 = .ok (.iaload, 1) := by decide +kernel
theorem dX8_loop_120 : decode cX8_loop 120 = .ok (.isub, 1) := by decide +kernel
theorem dX8_loop_121 : decode cX8_loop 121 = .ok (.ireturn, 1) := by decide +kernel
theorem dX8_isSingle_0 : decode cX8_isSingle 0 = .ok (.iload_n 1, 1) := by decide +kernel
theorem dX8_isSingle_1 : decode cX8_isSingle 1 = .ok (.iconst 1, 1) := by decide +kernel
theorem dX8_isSingle_2 : decode cX8_isSingle 2 = .ok (.bipush 9, 2) := by decide +kernel
theorem dX8_isSingle_4 : decode cX8_isSingle 4 = .ok (.invokestatic 49, 3) := by decide +kernel
theorem dX8_isSingle_7 : decode cX8_isSingle 7 = .ok (.ifCond .eq 40, 3) := by decide +kernel
theorem dX8_isSingle_10 : decode cX8_isSingle 10 = .ok (.iload_n 2, 1) := by decide +kernel
theorem dX8_isSingle_11 : decode cX8_isSingle 11 = .ok (.iload_n 1, 1) := by decide +kernel
theorem dX8_isSingle_12 : decode cX8_isSingle 12 = .ok (.irem, 1) := by decide +kernel
theorem dX8_isSingle_13 : decode cX8_isSingle 13 = .ok (.ifCond .ne 34, 3) := by decide +kernel
theorem dX8_isSingle_16 : decode cX8_isSingle 16 = .ok (.iload_n 2, 1) := by decide +kernel
theorem dX8_isSingle_17 : decode cX8_isSingle 17 = .ok (.iload_n 1, 1) := by decide +kernel
theorem dX8_isSingle_18 : decode cX8_isSingle 18 = .ok (.idiv, 1) := by decide +kernel
theorem dX8_isSingle_19 : decode cX8_isSingle 19 = .ok (.bipush (-30), 2) := by decide +kernel
theorem dX8_isSingle_21 : decode cX8_isSingle 21 = .ok (.bipush 30, 2) := by decide +kernel
theorem dX8_isSingle_23 : decode cX8_isSingle 23 = .ok (.invokestatic 49, 3) := by decide +kernel
theorem dX8_isSingle_26 : decode cX8_isSingle 26 = .ok (.ifCond .eq 21, 3) := by decide +kernel
theorem dX8_isSingle_29 : decode cX8_isSingle 29 = .ok (.aload_n 0, 1) := by decide +kernel
theorem dX8_isSingle_30 : decode cX8_isSingle 30 = .ok (.getfield 32, 3) := by decide +kernel
theorem dX8_isSingle_33 : decode cX8_isSingle 33 = .ok (.iload_n 2, 1) := by decide +kernel
theorem dX8_isSingle_34 : decode cX8_isSingle 34 = .ok (.iload_n 1, 1) := by decide +kernel
theorem dX8_isSingle_35 : decode cX8_isSingle 35 = .ok (.idiv, 1) := by decide +kernel
theorem dX8_isSingle_36 : decode cX8_isSingle 36 = .ok (.bipush 30, 2) := by decide +kernel
theorem dX8_isSingle_38 : decode cX8_isSingle 38 = .ok (.iadd, 1) := by decide +kernel
theorem dX8_isSingle_39 : decode cX8_isSingle 39 = .ok (.baload, 1) := by decide +kernel
theorem dX8_isSingle_40 : decode cX8_isSingle 40 = .ok (.ifCond .eq 7, 3) := by decide +kernel
theorem dX8_isSingle_43 : decode cX8_isSingle 43 = .ok (.iconst 1, 1) := by decide +kernel
theorem dX8_isSingle_44 : decode cX8_isSingle 44 = .ok (.goto 4, 3) := by decide +kernel
theorem dX8_isSingle_47 : decode cX8_isSingle 47 = .ok (.iconst 0, 1) := by decide +kernel
theorem dX8_isSingle_48 : decode cX8_isSingle 48 = .ok (.ireturn, 1) := by decide +kernel
theorem dX8_isDouble_0 : decode cX8_isDouble 0 = .ok (.iload_n 1, 1) := by decide +kernel
theorem dX8_isDouble_1 : decode cX8_isDouble 1 = .ok (.iconst 2, 1) := by decide +kernel
theorem dX8_isDouble_2 : decode cX8_isDouble 2 = .ok (.bipush 18, 2) := by decide +kernel
theorem dX8_isDouble_4 : decode cX8_isDouble 4 = .ok (.invokestatic 49, 3) := by decide +kernel
theorem dX8_isDouble_7 : decode cX8_isDouble 7 = .ok (.ifCond .eq 41, 3) := by decide +kernel
theorem dX8_isDouble_10 : decode cX8_isDouble 10 = .ok (.iload_n 2, 1) := by decide +kernel
theorem dX8_isDouble_11 : decode cX8_isDouble 11 = .ok (.sipush (-540), 3) := by decide +kernel
theorem dX8_isDouble_14 : decode cX8_isDouble 14 = .ok (.sipush 540, 3) := by decide +kernel
theorem dX8_isDouble_17 : decode cX8_isDouble 17 = .ok (.invokestatic 49, 3) := by decide +kernel
theorem dX8_isDouble_20 : decode cX8_isDouble 20 = .ok (.ifCond .eq 28, 3) := by decide +kernel
theorem dX8_isDouble_23 : decode cX8_isDouble 23 = .ok (.aload_n 0, 1) := by decide +kernel
theorem dX8_isDouble_24 : decode cX8_isDouble 24 = .ok (.getfield 36, 3) := by decide +kernel
theorem dX8_isDouble_27 : decode cX8_isDouble 27 = .ok (.sipush 1081, 3) := by decide +kernel
theorem dX8_isDouble_30 : decode cX8_isDouble 30 = .ok (.iload_n 1, 1) := by decide +kernel
theorem dX8_isDouble_31 : decode cX8_isDouble 31 = .ok (.iconst 2, 1) := by decide +kernel
theorem dX8_isDouble_32 : decode cX8_isDouble 32 = .ok (.isub, 1) := by decide +kernel
theorem dX8_isDouble_33 : decode cX8_isDouble 33 = .ok (.imul, 1) := by decide +kernel
theorem dX8_isDouble_34 : decode cX8_isDouble 34 = .ok (.iload_n 2, 1) := by decide +kernel
theorem dX8_isDouble_35 : decode cX8_isDouble 35 = .ok (.iadd, 1) := by decide +kernel
theorem dX8_isDouble_36 : decode cX8_isDouble 36 = .ok (.sipush 540, 3) := by decide +kernel
theorem dX8_isDouble_39 : decode cX8_isDouble 39 = .ok (.iadd, 1) := by decide +kernel
theorem dX8_isDouble_40 : decode cX8_isDouble 40 = .ok (.baload, 1) := by decide +kernel
theorem dX8_isDouble_41 : decode cX8_isDouble 41 = .ok (.ifCond .eq 7, 3) := by decide +kernel
theorem dX8_isDouble_44 : decode cX8_isDouble 44 = .ok (.iconst 1, 1) := by decide +kernel
theorem dX8_isDouble_45 : decode cX8_isDouble 45 = .ok (.goto 4, 3) := by decide +kernel
theorem dX8_isDouble_48 : decode cX8_isDouble 48 = .ok (.iconst 0, 1) := by decide +kernel
theorem dX8_isDouble_49 : decode cX8_isDouble 49 = .ok (.ireturn, 1) := by decide +kernel
theorem dX8_laysPairs_0 : decode cX8_laysPairs 0 = .ok (.iconst 0, 1) := by decide +kernel
theorem dX8_laysPairs_1 : decode cX8_laysPairs 1 = .ok (.istore_n 1, 1) := by decide +kernel
theorem dX8_laysPairs_2 : decode cX8_laysPairs 2 = .ok (.iload_n 1, 1) := by decide +kernel
theorem dX8_laysPairs_3 : decode cX8_laysPairs 3 = .ok (.bipush 61, 2) := by decide +kernel
theorem dX8_laysPairs_5 : decode cX8_laysPairs 5 = .ok (.if_icmp .ge 16, 3) := by decide +kernel
theorem dX8_laysPairs_8 : decode cX8_laysPairs 8 = .ok (.aload_n 0, 1) := by decide +kernel
theorem dX8_laysPairs_9 : decode cX8_laysPairs 9 = .ok (.getfield 32, 3) := by decide +kernel
theorem dX8_laysPairs_12 : decode cX8_laysPairs 12 = .ok (.iload_n 1, 1) := by decide +kernel
theorem dX8_laysPairs_13 : decode cX8_laysPairs 13 = .ok (.iconst 0, 1) := by decide +kernel
theorem dX8_laysPairs_14 : decode cX8_laysPairs 14 = .ok (.bastore, 1) := by decide +kernel
theorem dX8_laysPairs_15 : decode cX8_laysPairs 15 = .ok (.iinc 1 1, 3) := by decide +kernel
theorem dX8_laysPairs_18 : decode cX8_laysPairs 18 = .ok (.goto (-16), 3) := by decide +kernel
theorem dX8_laysPairs_21 : decode cX8_laysPairs 21 = .ok (.iconst 0, 1) := by decide +kernel
theorem dX8_laysPairs_22 : decode cX8_laysPairs 22 = .ok (.istore_n 1, 1) := by decide +kernel
theorem dX8_laysPairs_23 : decode cX8_laysPairs 23 = .ok (.iload_n 1, 1) := by decide +kernel
theorem dX8_laysPairs_24 : decode cX8_laysPairs 24 = .ok (.bipush 36, 2) := by decide +kernel
theorem dX8_laysPairs_26 : decode cX8_laysPairs 26 = .ok (.if_icmp .ge 41, 3) := by decide +kernel
theorem dX8_laysPairs_29 : decode cX8_laysPairs 29 = .ok (.aload_n 0, 1) := by decide +kernel
theorem dX8_laysPairs_30 : decode cX8_laysPairs 30 = .ok (.getfield 32, 3) := by decide +kernel
theorem dX8_laysPairs_33 : decode cX8_laysPairs 33 = .ok (.aload_n 0, 1) := by decide +kernel
theorem dX8_laysPairs_34 : decode cX8_laysPairs 34 = .ok (.getfield 7, 3) := by decide +kernel
theorem dX8_laysPairs_37 : decode cX8_laysPairs 37 = .ok (.iconst 0, 1) := by decide +kernel
theorem dX8_laysPairs_38 : decode cX8_laysPairs 38 = .ok (.iload_n 1, 1) := by decide +kernel
theorem dX8_laysPairs_39 : decode cX8_laysPairs 39 = .ok (.bipush 6, 2) := by decide +kernel
theorem dX8_laysPairs_41 : decode cX8_laysPairs 41 = .ok (.idiv, 1) := by decide +kernel
theorem dX8_laysPairs_42 : decode cX8_laysPairs 42 = .ok (.iadd, 1) := by decide +kernel
theorem dX8_laysPairs_43 : decode cX8_laysPairs 43 = .ok (.iaload, 1) := by decide +kernel
theorem dX8_laysPairs_44 : decode cX8_laysPairs 44 = .ok (.aload_n 0, 1) := by decide +kernel
theorem dX8_laysPairs_45 : decode cX8_laysPairs 45 = .ok (.getfield 7, 3) := by decide +kernel
theorem dX8_laysPairs_48 : decode cX8_laysPairs 48 = .ok (.iconst 0, 1) := by decide +kernel
theorem dX8_laysPairs_49 : decode cX8_laysPairs 49 = .ok (.iload_n 1, 1) := by decide +kernel
theorem dX8_laysPairs_50 : decode cX8_laysPairs 50 = .ok (.bipush 6, 2) := by decide +kernel
theorem dX8_laysPairs_52 : decode cX8_laysPairs 52 = .ok (.irem, 1) := by decide +kernel
theorem dX8_laysPairs_53 : decode cX8_laysPairs 53 = .ok (.iadd, 1) := by decide +kernel
theorem dX8_laysPairs_54 : decode cX8_laysPairs 54 = .ok (.iaload, 1) := by decide +kernel
theorem dX8_laysPairs_55 : decode cX8_laysPairs 55 = .ok (.isub, 1) := by decide +kernel
theorem dX8_laysPairs_56 : decode cX8_laysPairs 56 = .ok (.bipush 30, 2) := by decide +kernel
theorem dX8_laysPairs_58 : decode cX8_laysPairs 58 = .ok (.iadd, 1) := by decide +kernel
theorem dX8_laysPairs_59 : decode cX8_laysPairs 59 = .ok (.iconst 1, 1) := by decide +kernel
theorem dX8_laysPairs_60 : decode cX8_laysPairs 60 = .ok (.bastore, 1) := by decide +kernel
theorem dX8_laysPairs_61 : decode cX8_laysPairs 61 = .ok (.iinc 1 1, 3) := by decide +kernel
theorem dX8_laysPairs_64 : decode cX8_laysPairs 64 = .ok (.goto (-41), 3) := by decide +kernel
theorem dX8_laysPairs_67 : decode cX8_laysPairs 67 = .ok (.iconst 0, 1) := by decide +kernel
