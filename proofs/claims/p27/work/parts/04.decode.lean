/-! decode rows -/
theorem dX5_addPart_6 : decode cX5_addPart 6 = .ok (.if_icmp .ge 43, 3) := by decide +kernel
theorem dX5_addPart_9 : decode cX5_addPart 9 = .ok (.aload_n 0, 1) := by decide +kernel
theorem dX5_addPart_10 : decode cX5_addPart 10 = .ok (.getfield 9, 3) := by decide +kernel
theorem dX5_addPart_13 : decode cX5_addPart 13 = .ok (.aload_n 0, 1) := by decide +kernel
theorem dX5_addPart_14 : decode cX5_addPart 14 = .ok (.getfield 34, 3) := by decide +kernel
theorem dX5_addPart_17 : decode cX5_addPart 17 = .ok (.iload_n 1, 1) := by decide +kernel
theorem dX5_addPart_18 : decode cX5_addPart 18 = .ok (.iastore, 1) := by decide +kernel
theorem dX5_addPart_19 : decode cX5_addPart 19 = .ok (.aload_n 0, 1) := by decide +kernel
theorem dX5_addPart_20 : decode cX5_addPart 20 = .ok (.getfield 15, 3) := by decide +kernel
theorem dX5_addPart_23 : decode cX5_addPart 23 = .ok (.aload_n 0, 1) := by decide +kernel
theorem dX5_addPart_24 : decode cX5_addPart 24 = .ok (.getfield 34, 3) := by decide +kernel
theorem dX5_addPart_27 : decode cX5_addPart 27 = .ok (.iload_n 2, 1) := by decide +kernel
theorem dX5_addPart_28 : decode cX5_addPart 28 = .ok (.iastore, 1) := by decide +kernel
theorem dX5_addPart_29 : decode cX5_addPart 29 = .ok (.aload_n 0, 1) := by decide +kernel
theorem dX5_addPart_30 : decode cX5_addPart 30 = .ok (.getfield 18, 3) := by decide +kernel
theorem dX5_addPart_33 : decode cX5_addPart 33 = .ok (.aload_n 0, 1) := by decide +kernel
theorem dX5_addPart_34 : decode cX5_addPart 34 = .ok (.getfield 34, 3) := by decide +kernel
theorem dX5_addPart_37 : decode cX5_addPart 37 = .ok (.iload_n 3, 1) := by decide +kernel
theorem dX5_addPart_38 : decode cX5_addPart 38 = .ok (.iastore, 1) := by decide +kernel
theorem dX5_addPart_39 : decode cX5_addPart 39 = .ok (.aload_n 0, 1) := by decide +kernel
theorem dX5_addPart_40 : decode cX5_addPart 40 = .ok (.dup, 1) := by decide +kernel
theorem dX5_addPart_41 : decode cX5_addPart 41 = .ok (.getfield 34, 3) := by decide +kernel
theorem dX5_addPart_44 : decode cX5_addPart 44 = .ok (.iconst 1, 1) := by decide +kernel
theorem dX5_addPart_45 : decode cX5_addPart 45 = .ok (.iadd, 1) := by decide +kernel
theorem dX5_addPart_46 : decode cX5_addPart 46 = .ok (.putfield 34, 3) := by decide +kernel
theorem dX5_addPart_49 : decode cX5_addPart 49 = .ok (.return_, 1) := by decide +kernel
theorem dX5_wholeLength_0 : decode cX5_wholeLength 0 = .ok (.iconst 0, 1) := by decide +kernel
theorem dX5_wholeLength_1 : decode cX5_wholeLength 1 = .ok (.istore_n 1, 1) := by decide +kernel
theorem dX5_wholeLength_2 : decode cX5_wholeLength 2 = .ok (.iconst 0, 1) := by decide +kernel
theorem dX5_wholeLength_3 : decode cX5_wholeLength 3 = .ok (.istore_n 2, 1) := by decide +kernel
theorem dX5_wholeLength_4 : decode cX5_wholeLength 4 = .ok (.iload_n 2, 1) := by decide +kernel
theorem dX5_wholeLength_5 : decode cX5_wholeLength 5 = .ok (.aload_n 0, 1) := by decide +kernel
theorem dX5_wholeLength_6 : decode cX5_wholeLength 6 = .ok (.getfield 34, 3) := by decide +kernel
theorem dX5_wholeLength_9 : decode cX5_wholeLength 9 = .ok (.if_icmp .ge 18, 3) := by decide +kernel
theorem dX5_wholeLength_12 : decode cX5_wholeLength 12 = .ok (.iload_n 1, 1) := by decide +kernel
theorem dX5_wholeLength_13 : decode cX5_wholeLength 13 = .ok (.aload_n 0, 1) := by decide +kernel
theorem dX5_wholeLength_14 : decode cX5_wholeLength 14 = .ok (.getfield 9, 3) := by decide +kernel
theorem dX5_wholeLength_17 : decode cX5_wholeLength 17 = .ok (.iload_n 2, 1) := by decide +kernel
theorem dX5_wholeLength_18 : decode cX5_wholeLength 18 = .ok (.iaload, 1) := by decide +kernel
theorem dX5_wholeLength_19 : decode cX5_wholeLength 19 = .ok (.iadd, 1) := by decide +kernel
theorem dX5_wholeLength_20 : decode cX5_wholeLength 20 = .ok (.istore_n 1, 1) := by decide +kernel
theorem dX5_wholeLength_21 : decode cX5_wholeLength 21 = .ok (.iinc 2 1, 3) := by decide +kernel
theorem dX5_wholeLength_24 : decode cX5_wholeLength 24 = .ok (.goto (-20), 3) := by decide +kernel
theorem dX5_wholeLength_27 : decode cX5_wholeLength 27 = .ok (.iload_n 1, 1) := by decide +kernel
theorem dX5_wholeLength_28 : decode cX5_wholeLength 28 = .ok (.ireturn, 1) := by decide +kernel
theorem dX5_partRate_0 : decode cX5_partRate 0 = .ok (.aload_n 0, 1) := by decide +kernel
theorem dX5_partRate_1 : decode cX5_partRate 1 = .ok (.getfield 9, 3) := by decide +kernel
theorem dX5_partRate_4 : decode cX5_partRate 4 = .ok (.iload_n 1, 1) := by decide +kernel
theorem dX5_partRate_5 : decode cX5_partRate 5 = .ok (.iaload, 1) := by decide +kernel
theorem dX5_partRate_6 : decode cX5_partRate 6 = .ok (.aload_n 2, 1) := by decide +kernel
theorem dX5_partRate_7 : decode cX5_partRate 7 = .ok (.aload_n 0, 1) := by decide +kernel
theorem dX5_partRate_8 : decode cX5_partRate 8 = .ok (.getfield 15, 3) := by decide +kernel
theorem dX5_partRate_11 : decode cX5_partRate 11 = .ok (.iload_n 1, 1) := by decide +kernel
theorem dX5_partRate_12 : decode cX5_partRate 12 = .ok (.iaload, 1) := by decide +kernel
theorem dX5_partRate_13 : decode cX5_partRate 13 = .ok (.iaload, 1) := by decide +kernel
theorem dX5_partRate_14 : decode cX5_partRate 14 = .ok (.aload_n 2, 1) := by decide +kernel
theorem dX5_partRate_15 : decode cX5_partRate 15 = .ok (.aload_n 0, 1) := by decide +kernel
theorem dX5_partRate_16 : decode cX5_partRate 16 = .ok (.getfield 18, 3) := by decide +kernel
theorem dX5_partRate_19 : decode cX5_partRate 19 = .ok (.iload_n 1, 1) := by decide +kernel
theorem dX5_partRate_20 : decode cX5_partRate 20 = .ok (.iaload, 1) := by decide +kernel
theorem dX5_partRate_21 : decode cX5_partRate 21 = .ok (.iaload, 1) := by decide +kernel
theorem dX5_partRate_22 : decode cX5_partRate 22 = .ok (.isub, 1) := by decide +kernel
theorem dX5_partRate_23 : decode cX5_partRate 23 = .ok (.imul, 1) := by decide +kernel
theorem dX5_partRate_24 : decode cX5_partRate 24 = .ok (.ireturn, 1) := by decide +kernel
theorem dX5_rate_0 : decode cX5_rate 0 = .ok (.iconst 0, 1) := by decide +kernel
theorem dX5_rate_1 : decode cX5_rate 1 = .ok (.istore_n 2, 1) := by decide +kernel
theorem dX5_rate_2 : decode cX5_rate 2 = .ok (.iconst 0, 1) := by decide +kernel
theorem dX5_rate_3 : decode cX5_rate 3 = .ok (.istore_n 3, 1) := by decide +kernel
theorem dX5_rate_4 : decode cX5_rate 4 = .ok (.iload_n 3, 1) := by decide +kernel
theorem dX5_rate_5 : decode cX5_rate 5 = .ok (.aload_n 0, 1) := by decide +kernel
theorem dX5_rate_6 : decode cX5_rate 6 = .ok (.getfield 34, 3) := by decide +kernel
theorem dX5_rate_9 : decode cX5_rate 9 = .ok (.if_icmp .ge 18, 3) := by decide +kernel
theorem dX5_rate_12 : decode cX5_rate 12 = .ok (.iload_n 2, 1) := by decide +kernel
theorem dX5_rate_13 : decode cX5_rate 13 = .ok (.aload_n 0, 1) := by decide +kernel
theorem dX5_rate_14 : decode cX5_rate 14 = .ok (.iload_n 3, 1) := by decide +kernel
theorem dX5_rate_15 : decode cX5_rate 15 = .ok (.aload_n 1, 1) := by decide +kernel
theorem dX5_rate_16 : decode cX5_rate 16 = .ok (.invokevirtual 53, 3) := by decide +kernel
theorem dX5_rate_19 : decode cX5_rate 19 = .ok (.iadd, 1) := by decide +kernel
theorem dX5_rate_20 : decode cX5_rate 20 = .ok (.istore_n 2, 1) := by decide +kernel
theorem dX5_rate_21 : decode cX5_rate 21 = .ok (.iinc 3 1, 3) := by decide +kernel
theorem dX5_rate_24 : decode cX5_rate 24 = .ok (.goto (-20), 3) := by decide +kernel
theorem dX5_rate_27 : decode cX5_rate 27 = .ok (.iload_n 2, 1) := by decide +kernel
theorem dX5_rate_28 : decode cX5_rate 28 = .ok (.ireturn, 1) := by decide +kernel
theorem dX5_isClosed_0 : decode cX5_isClosed 0 = .ok (.aload_n 0, 1) := by decide +kernel
theorem dX5_isClosed_1 : decode cX5_isClosed 1 = .ok (.getfield 49, 3) := by decide +kernel
theorem dX5_isClosed_4 : decode cX5_isClosed 4 = .ok (.aload_n 0, 1) := by decide +kernel
theorem dX5_isClosed_5 : decode cX5_isClosed 5 = .ok (.getfield 46, 3) := by decide +kernel
theorem dX5_isClosed_8 : decode cX5_isClosed 8 = .ok (.iconst 1, 1) := by decide +kernel
theorem dX5_isClosed_9 : decode cX5_isClosed 9 = .ok (.if_icmp .ne 7, 3) := by decide +kernel
theorem dX5_isClosed_12 : decode cX5_isClosed 12 = .ok (.iconst 1, 1) := by decide +kernel
theorem dX5_isClosed_13 : decode cX5_isClosed 13 = .ok (.goto 4, 3) := by decide +kernel
theorem dX5_isClosed_16 : decode cX5_isClosed 16 = .ok (.iconst 0, 1) := by decide +kernel
theorem dX5_isClosed_17 : decode cX5_isClosed 17 = .ok (.if_icmp .ne 7, 3) := by decide +kernel
theorem dX5_isClosed_20 : decode cX5_isClosed 20 = .ok (.iconst 1, 1) := by decide +kernel
theorem dX5_isClosed_21 : decode cX5_isClosed 21 = .ok (.goto 4, 3) := by decide +kernel
theorem dX5_isClosed_24 : decode cX5_isClosed 24 = .ok (.iconst 0, 1) := by decide +kernel
theorem dX5_isClosed_25 : decode cX5_isClosed 25 = .ok (.ireturn, 1) := by decide +kernel
theorem dX5_isPulledBy_0 : decode cX5_isPulledBy 0 = .ok (.aload_n 0, 1) := by decide +kernel
theorem dX5_isPulledBy_1 : decode cX5_isPulledBy 1 = .ok (.getfield 49, 3) := by decide +kernel
theorem dX5_isPulledBy_4 : decode cX5_isPulledBy 4 = .ok (.ifCond .eq 19, 3) := by decide +kernel
theorem dX5_isPulledBy_7 : decode cX5_isPulledBy 7 = .ok (.iload_n 1, 1) := by decide +kernel
theorem dX5_isPulledBy_8 : decode cX5_isPulledBy 8 = .ok (.aload_n 0, 1) := by decide +kernel
theorem dX5_isPulledBy_9 : decode cX5_isPulledBy 9 = .ok (.getfield 21, 3) := by decide +kernel
theorem dX5_isPulledBy_12 : decode cX5_isPulledBy 12 = .ok (.if_icmp .gt 7, 3) := by decide +kernel
theorem dX5_isPulledBy_15 : decode cX5_isPulledBy 15 = .ok (.iconst 1, 1) := by decide +kernel
theorem dX5_isPulledBy_16 : decode cX5_isPulledBy 16 = .ok (.goto 20, 3) := by decide +kernel
theorem dX5_isPulledBy_19 : decode cX5_isPulledBy 19 = .ok (.iconst 0, 1) := by decide +kernel
theorem dX5_isPulledBy_20 : decode cX5_isPulledBy 20 = .ok (.goto 16, 3) := by decide +kernel
theorem dX5_isPulledBy_23 : decode cX5_isPulledBy 23 = .ok (.iload_n 1, 1) := by decide +kernel
theorem dX5_isPulledBy_24 : decode cX5_isPulledBy 24 = .ok (.aload_n 0, 1) := by decide +kernel
theorem dX5_isPulledBy_25 : decode cX5_isPulledBy 25 = .ok (.getfield 25, 3) := by decide +kernel
theorem dX5_isPulledBy_28 : decode cX5_isPulledBy 28 = .ok (.if_icmp .lt 7, 3) := by decide +kernel
theorem dX5_isPulledBy_31 : decode cX5_isPulledBy 31 = .ok (.iconst 1, 1) := by decide +kernel
theorem dX5_isPulledBy_32 : decode cX5_isPulledBy 32 = .ok (.goto 4, 3) := by decide +kernel
theorem dX5_isPulledBy_35 : decode cX5_isPulledBy 35 = .ok (.iconst 0, 1) := by decide +kernel
theorem dX5_isPulledBy_36 : decode cX5_isPulledBy 36 = .ok (.ireturn, 1) := by decide +kernel
theorem dX5_changesBy_0 : decode cX5_changesBy 0 = .ok (.aload_n 0, 1) := by decide +kernel
theorem dX5_changesBy_1 : decode cX5_changesBy 1 = .ok (.iload_n 1, 1) := by decide +kernel
theorem dX5_changesBy_2 : decode cX5_changesBy 2 = .ok (.invokevirtual 57, 3) := by decide +kernel
theorem dX5_changesBy_5 : decode cX5_changesBy 5 = .ok (.ifCond .ne 10, 3) := by decide +kernel
theorem dX5_changesBy_8 : decode cX5_changesBy 8 = .ok (.aload_n 0, 1) := by decide +kernel
theorem dX5_changesBy_9 : decode cX5_changesBy 9 = .ok (.iconst 0, 1) := by decide +kernel
theorem dX5_changesBy_10 : decode cX5_changesBy 10 = .ok (.putfield 40, 3) := by decide +kernel
theorem dX5_changesBy_13 : decode cX5_changesBy 13 = .ok (.iconst 0, 1) := by decide +kernel
theorem dX5_changesBy_14 : decode cX5_changesBy 14 = .ok (.ireturn, 1) := by decide +kernel
theorem dX5_changesBy_15 : decode cX5_changesBy 15 = .ok (.aload_n 0, 1) := by decide +kernel
theorem dX5_changesBy_16 : decode cX5_changesBy 16 = .ok (.getfield 40, 3) := by decide +kernel
theorem dX5_changesBy_19 : decode cX5_changesBy 19 = .ok (.aload_n 0, 1) := by decide +kernel
theorem dX5_changesBy_20 : decode cX5_changesBy 20 = .ok (.getfield 37, 3) := by decide +kernel
theorem dX5_changesBy_23 : decode cX5_changesBy 23 = .ok (.if_icmp .ge 15, 3) := by decide +kernel
theorem dX5_changesBy_26 : decode cX5_changesBy 26 = .ok (.aload_n 0, 1) := by decide +kernel
theorem dX5_changesBy_27 : decode cX5_changesBy 27 = .ok (.dup, 1) := by decide +kernel
theorem dX5_changesBy_28 : decode cX5_changesBy 28 = .ok (.getfield 40, 3) := by decide +kernel
theorem dX5_changesBy_31 : decode cX5_changesBy 31 = .ok (.iconst 1, 1) := by decide +kernel
theorem dX5_changesBy_32 : decode cX5_changesBy 32 = .ok (.iadd, 1) := by decide +kernel
theorem dX5_changesBy_33 : decode cX5_changesBy 33 = .ok (.putfield 40, 3) := by decide +kernel
theorem dX5_changesBy_36 : decode cX5_changesBy 36 = .ok (.iconst 0, 1) := by decide +kernel
theorem dX5_changesBy_37 : decode cX5_changesBy 37 = .ok (.ireturn, 1) := by decide +kernel
theorem dX5_changesBy_38 : decode cX5_changesBy 38 = .ok (.aload_n 0, 1) := by decide +kernel
theorem dX5_changesBy_39 : decode cX5_changesBy 39 = .ok (.iconst 0, 1) := by decide +kernel
theorem dX5_changesBy_40 : decode cX5_changesBy 40 = .ok (.putfield 40, 3) := by decide +kernel
theorem dX5_changesBy_43 : decode cX5_changesBy 43 = .ok (.aload_n 0, 1) := by decide +kernel
theorem dX5_changesBy_44 : decode cX5_changesBy 44 = .ok (.aload_n 0, 1) := by decide +kernel
theorem dX5_changesBy_45 : decode cX5_changesBy 45 = .ok (.getfield 49, 3) := by decide +kernel
theorem dX5_changesBy_48 : decode cX5_changesBy 48 = .ok (.ifCond .ne 7, 3) := by decide +kernel
theorem dX5_changesBy_51 : decode cX5_changesBy 51 = .ok (.iconst 1, 1) := by decide +kernel
theorem dX5_changesBy_52 : decode cX5_changesBy 52 = .ok (.goto 4, 3) := by decide +kernel
theorem dX5_changesBy_55 : decode cX5_changesBy 55 = .ok (.iconst 0, 1) := by decide +kernel
theorem dX5_changesBy_56 : decode cX5_changesBy 56 = .ok (.putfield 49, 3) := by decide +kernel
theorem dX5_changesBy_59 : decode cX5_changesBy 59 = .ok (.iconst 1, 1) := by decide +kernel
theorem dX5_changesBy_60 : decode cX5_changesBy 60 = .ok (.ireturn, 1) := by decide +kernel
theorem dX5_getTired_0 : decode cX5_getTired 0 = .ok (.iload_n 1, 1) := by decide +kernel
theorem dX5_getTired_1 : decode cX5_getTired 1 = .ok (.ifCond .le 35, 3) := by decide +kernel
theorem dX5_getTired_4 : decode cX5_getTired 4 = .ok (.aload_n 0, 1) := by decide +kernel
theorem dX5_getTired_5 : decode cX5_getTired 5 = .ok (.getfield 43, 3) := by decide +kernel
theorem dX5_getTired_8 : decode cX5_getTired 8 = .ok (.iload_n 1, 1) := by decide +kernel
theorem dX5_getTired_9 : decode cX5_getTired 9 = .ok (.irem, 1) := by decide +kernel
theorem dX5_getTired_10 : decode cX5_getTired 10 = .ok (.ifCond .ne 26, 3) := by decide +kernel
theorem dX5_getTired_13 : decode cX5_getTired 13 = .ok (.aload_n 0, 1) := by decide +kernel
theorem dX5_getTired_14 : decode cX5_getTired 14 = .ok (.getfield 25, 3) := by decide +kernel
theorem dX5_getTired_17 : decode cX5_getTired 17 = .ok (.iload_n 2, 1) := by decide +kernel
theorem dX5_getTired_18 : decode cX5_getTired 18 = .ok (.isub, 1) := by decide +kernel
theorem dX5_getTired_19 : decode cX5_getTired 19 = .ok (.aload_n 0, 1) := by decide +kernel
theorem dX5_getTired_20 : decode cX5_getTired 20 = .ok (.getfield 21, 3) := by decide +kernel
theorem dX5_getTired_23 : decode cX5_getTired 23 = .ok (.if_icmp .le 13, 3) := by decide +kernel
theorem dX5_getTired_26 : decode cX5_getTired 26 = .ok (.aload_n 0, 1) := by decide +kernel
theorem dX5_getTired_27 : decode cX5_getTired 27 = .ok (.dup, 1) := by decide +kernel
theorem dX5_getTired_28 : decode cX5_getTired 28 = .ok (.getfield 25, 3) := by decide +kernel
theorem dX5_getTired_31 : decode cX5_getTired 31 = .ok (.iload_n 2, 1) := by decide +kernel
theorem dX5_getTired_32 : decode cX5_getTired 32 = .ok (.isub, 1) := by decide +kernel
theorem dX5_getTired_33 : decode cX5_getTired 33 = .ok (.putfield 25, 3) := by decide +kernel
theorem dX5_getTired_36 : decode cX5_getTired 36 = .ok (.return_, 1) := by decide +kernel
theorem dX6_init_0 : decode cX6_init 0 = .ok (.aload_n 0, 1) := by decide +kernel
theorem dX6_init_1 : decode cX6_init 1 = .ok (.invokespecial 5, 3) := by decide +kernel
theorem dX6_init_4 : decode cX6_init 4 = .ok (.aload_n 0, 1) := by decide +kernel
theorem dX6_init_5 : decode cX6_init 5 = .ok (.bipush 60, 2) := by decide +kernel
theorem dX6_init_7 : decode cX6_init 7 = .ok (.newarray .char, 2) := by decide +kernel
theorem dX6_init_9 : decode cX6_init 9 = .ok (.putfield 11, 3) := by decide +kernel
theorem dX6_init_12 : decode cX6_init 12 = .ok (.return_, 1) := by decide +kernel
theorem dX6_append_0 : decode cX6_append 0 = .ok (.aload_n 0, 1) := by decide +kernel
theorem dX6_append_1 : decode cX6_append 1 = .ok (.getfield 15, 3) := by decide +kernel
theorem dX6_append_4 : decode cX6_append 4 = .ok (.bipush 60, 2) := by decide +kernel
theorem dX6_append_6 : decode cX6_append 6 = .ok (.if_icmp .ge 23, 3) := by decide +kernel
theorem dX6_append_9 : decode cX6_append 9 = .ok (.aload_n 0, 1) := by decide +kernel
theorem dX6_append_10 : decode cX6_append 10 = .ok (.getfield 11, 3) := by decide +kernel
theorem dX6_append_13 : decode cX6_append 13 = .ok (.aload_n 0, 1) := by decide +kernel
theorem dX6_append_14 : decode cX6_append 14 = .ok (.getfield 15, 3) := by decide +kernel
theorem dX6_append_17 : decode cX6_append 17 = .ok (.iload_n 1, 1) := by decide +kernel
theorem dX6_append_18 : decode cX6_append 18 = .ok (.castore, 1) := by decide +kernel
theorem dX6_append_19 : decode cX6_append 19 = .ok (.aload_n 0, 1) := by decide +kernel
theorem dX6_append_20 : decode cX6_append 20 = .ok (.dup, 1) := by decide +kernel
theorem dX6_append_21 : decode cX6_append 21 = .ok (.getfield 15, 3) := by decide +kernel
theorem dX6_append_24 : decode cX6_append 24 = .ok (.iconst 1, 1) := by decide +kernel
theorem dX6_append_25 : decode cX6_append 25 = .ok (.iadd, 1) := by decide +kernel
theorem dX6_append_26 : decode cX6_append 26 = .ok (.putfield 15, 3) := by decide +kernel
theorem dX6_append_29 : decode cX6_append 29 = .ok (.return_, 1) := by decide +kernel
theorem dX6_faultyPlace_0 : decode cX6_faultyPlace 0 = .ok (.aload_n 0, 1) := by decide +kernel
theorem dX6_faultyPlace_1 : decode cX6_faultyPlace 1 = .ok (.getfield 15, 3) := by decide +kernel
theorem dX6_faultyPlace_4 : decode cX6_faultyPlace 4 = .ok (.bipush 32, 2) := by decide +kernel
theorem dX6_faultyPlace_6 : decode cX6_faultyPlace 6 = .ok (.invokestatic 19, 3) := by decide +kernel
theorem dX6_faultyPlace_9 : decode cX6_faultyPlace 9 = .ok (.istore_n 1, 1) := by decide +kernel
theorem dX6_faultyPlace_10 : decode cX6_faultyPlace 10 = .ok (.iconst 0, 1) := by decide +kernel
theorem dX6_faultyPlace_11 : decode cX6_faultyPlace 11 = .ok (.istore_n 2, 1) := by decide +kernel
theorem dX6_faultyPlace_12 : decode cX6_faultyPlace 12 = .ok (.iload_n 2, 1) := by decide +kernel
theorem dX6_faultyPlace_13 : decode cX6_faultyPlace 13 = .ok (.iload_n 1, 1) := by decide +kernel
theorem dX6_faultyPlace_14 : decode cX6_faultyPlace 14 = .ok (.if_icmp .ge 19, 3) := by decide +kernel
theorem dX6_faultyPlace_17 : decode cX6_faultyPlace 17 = .ok (.aload_n 0, 1) := by decide +kernel
theorem dX6_faultyPlace_18 : decode cX6_faultyPlace 18 = .ok (.iload_n 2, 1) := by decide +kernel
theorem dX6_faultyPlace_19 : decode cX6_faultyPlace 19 = .ok (.invokevirtual 25, 3) := by decide +kernel
theorem dX6_faultyPlace_22 : decode cX6_faultyPlace 22 = .ok (.ifCond .ne 5, 3) := by decide +kernel
theorem dX6_faultyPlace_25 : decode cX6_faultyPlace 25 = .ok (.iload_n 2, 1) := by decide +kernel
theorem dX6_faultyPlace_26 : decode cX6_faultyPlace 26 = .ok (.ireturn, 1) := by decide +kernel
theorem dX6_faultyPlace_27 : decode cX6_faultyPlace 27 = .ok (.iinc 2 1, 3) := by decide +kernel
theorem dX6_faultyPlace_30 : decode cX6_faultyPlace 30 = .ok (.goto (-18), 3) := by decide +kernel
theorem dX6_faultyPlace_33 : decode cX6_faultyPlace 33 = .ok (.aload_n 0, 1) := by decide +kernel
theorem dX6_faultyPlace_34 : decode cX6_faultyPlace 34 = .ok (.getfield 15, 3) := by decide +kernel
theorem dX6_faultyPlace_37 : decode cX6_faultyPlace 37 = .ok (.bipush 32, 2) := by decide +kernel
theorem dX6_faultyPlace_39 : decode cX6_faultyPlace 39 = .ok (.if_icmp .le 6, 3) := by decide +kernel
theorem dX6_faultyPlace_42 : decode cX6_faultyPlace 42 = .ok (.bipush 32, 2) := by decide +kernel
theorem dX6_faultyPlace_44 : decode cX6_faultyPlace 44 = .ok (.ireturn, 1) := by decide +kernel
theorem dX6_faultyPlace_45 : decode cX6_faultyPlace 45 = .ok (.aload_n 0, 1) := by decide +kernel
theorem dX6_faultyPlace_46 : decode cX6_faultyPlace 46 = .ok (.getfield 15, 3) := by decide +kernel
theorem dX6_faultyPlace_49 : decode cX6_faultyPlace 49 = .ok (.ifCond .eq 13, 3) := by decide +kernel
theorem dX6_faultyPlace_52 : decode cX6_faultyPlace 52 = .ok (.aload_n 0, 1) := by decide +kernel
theorem dX6_faultyPlace_53 : decode cX6_faultyPlace 53 = .ok (.getfield 15, 3) := by decide +kernel
theorem dX6_faultyPlace_56 : decode cX6_faultyPlace 56 = .ok (.iconst 4, 1) := by decide +kernel
theorem dX6_faultyPlace_57 : decode cX6_faultyPlace 57 = .ok (.irem, 1) := by decide +kernel
theorem dX6_faultyPlace_58 : decode cX6_faultyPlace 58 = .ok (.iconst 3, 1) := by decide +kernel
theorem dX6_faultyPlace_59 : decode cX6_faultyPlace 59 = .ok (.if_icmp .ne 7, 3) := by decide +kernel
theorem dX6_faultyPlace_62 : decode cX6_faultyPlace 62 = .ok (.iconst (-1), 1) := by decide +kernel
theorem dX6_faultyPlace_63 : decode cX6_faultyPlace 63 = .ok (.goto 7, 3) := by decide +kernel
theorem dX6_faultyPlace_66 : decode cX6_faultyPlace 66 = .ok (.aload_n 0, 1) := by decide +kernel
theorem dX6_faultyPlace_67 : decode cX6_faultyPlace 67 = .ok (.getfield 15, 3) := by decide +kernel
theorem dX6_faultyPlace_70 : decode cX6_faultyPlace 70 = .ok (.ireturn, 1) := by decide +kernel
theorem dX6_reasonAt_0 : decode cX6_reasonAt 0 = .ok (.iload_n 1, 1) := by decide +kernel
theorem dX6_reasonAt_1 : decode cX6_reasonAt 1 = .ok (.bipush 32, 2) := by decide +kernel
theorem dX6_reasonAt_3 : decode cX6_reasonAt 3 = .ok (.if_icmp .ne 16, 3) := by decide +kernel
theorem dX6_reasonAt_6 : decode cX6_reasonAt 6 = .ok (.aload_n 0, 1) := by decide +kernel
theorem dX6_reasonAt_7 : decode cX6_reasonAt 7 = .ok (.getfield 15, 3) := by decide +kernel
theorem dX6_reasonAt_10 : decode cX6_reasonAt 10 = .ok (.bipush 32, 2) := by decide +kernel
theorem dX6_reasonAt_12 : decode cX6_reasonAt 12 = .ok (.if_icmp .le 7, 3) := by decide +kernel
theorem dX6_reasonAt_15 : decode cX6_reasonAt 15 = .ok (.iconst 2, 1) := by decide +kernel
theorem dX6_reasonAt_16 : decode cX6_reasonAt 16 = .ok (.goto 4, 3) := by decide +kernel
theorem dX6_reasonAt_19 : decode cX6_reasonAt 19 = .ok (.iconst 1, 1) := by decide +kernel
theorem dX6_reasonAt_20 : decode cX6_reasonAt 20 = .ok (.ireturn, 1) := by decide +kernel
theorem dX6_canStandAt_0 : decode cX6_canStandAt 0 = .ok (.aload_n 0, 1) := by decide +kernel
theorem dX6_canStandAt_1 : decode cX6_canStandAt 1 = .ok (.getfield 11, 3) := by decide +kernel
theorem dX6_canStandAt_4 : decode cX6_canStandAt 4 = .ok (.iload_n 1, 1) := by decide +kernel
theorem dX6_canStandAt_5 : decode cX6_canStandAt 5 = .ok (.caload, 1) := by decide +kernel
theorem dX6_canStandAt_6 : decode cX6_canStandAt 6 = .ok (.istore_n 2, 1) := by decide +kernel
theorem dX6_canStandAt_7 : decode cX6_canStandAt 7 = .ok (.iload_n 1, 1) := by decide +kernel
theorem dX6_canStandAt_8 : decode cX6_canStandAt 8 = .ok (.iconst 4, 1) := by decide +kernel
theorem dX6_canStandAt_9 : decode cX6_canStandAt 9 = .ok (.irem, 1) := by decide +kernel
theorem dX6_canStandAt_10 : decode cX6_canStandAt 10 = .ok (.lookupswitch 47 #[(0, 26), (3, 35)], 26) := by decide +kernel
theorem dX6_canStandAt_36 : decode cX6_canStandAt 36 = .ok (.iload_n 2, 1) := by decide +kernel
theorem dX6_canStandAt_37 : decode cX6_canStandAt 37 = .ok (.bipush 49, 2) := by decide +kernel
theorem dX6_canStandAt_39 : decode cX6_canStandAt 39 = .ok (.bipush 57, 2) := by decide +kernel
theorem dX6_canStandAt_41 : decode cX6_canStandAt 41 = .ok (.invokestatic 29, 3) := by decide +kernel
theorem dX6_canStandAt_44 : decode cX6_canStandAt 44 = .ok (.ireturn, 1) := by decide +kernel
theorem dX6_canStandAt_45 : decode cX6_canStandAt 45 = .ok (.iload_n 2, 1) := by decide +kernel
theorem dX6_canStandAt_46 : decode cX6_canStandAt 46 = .ok (.bipush 44, 2) := by decide +kernel
theorem dX6_canStandAt_48 : decode cX6_canStandAt 48 = .ok (.if_icmp .ne 7, 3) := by decide +kernel
theorem dX6_canStandAt_51 : decode cX6_canStandAt 51 = .ok (.iconst 1, 1) := by decide +kernel
theorem dX6_canStandAt_52 : decode cX6_canStandAt 52 = .ok (.goto 4, 3) := by decide +kernel
theorem dX6_canStandAt_55 : decode cX6_canStandAt 55 = .ok (.iconst 0, 1) := by decide +kernel
theorem dX6_canStandAt_56 : decode cX6_canStandAt 56 = .ok (.ireturn, 1) := by decide +kernel
theorem dX6_canStandAt_57 : decode cX6_canStandAt 57 = .ok (.iload_n 2, 1) := by decide +kernel
theorem dX6_canStandAt_58 : decode cX6_canStandAt 58 = .ok (.bipush 97, 2) := by decide +kernel
theorem dX6_canStandAt_60 : decode cX6_canStandAt 60 = .ok (.bipush 102, 2) := by decide +kernel
theorem dX6_canStandAt_62 : decode cX6_canStandAt 62 = .ok (.invokestatic 29, 3) := by decide +kernel
theorem dX6_canStandAt_65 : decode cX6_canStandAt 65 = .ok (.ireturn, 1) := by decide +kernel
theorem dX6_parts_0 : decode cX6_parts 0 = .ok (.aload_n 0, 1) := by decide +kernel
theorem dX6_parts_1 : decode cX6_parts 1 = .ok (.getfield 15, 3) := by decide +kernel
theorem dX6_parts_4 : decode cX6_parts 4 = .ok (.iconst 1, 1) := by decide +kernel
theorem dX6_parts_5 : decode cX6_parts 5 = .ok (.iadd, 1) := by decide +kernel
theorem dX6_parts_6 : decode cX6_parts 6 = .ok (.iconst 4, 1) := by decide +kernel
theorem dX6_parts_7 : decode cX6_parts 7 = .ok (.idiv, 1) := by decide +kernel
theorem dX6_parts_8 : decode cX6_parts 8 = .ok (.ireturn, 1) := by decide +kernel
theorem dX6_lengthOfPart_0 : decode cX6_lengthOfPart 0 = .ok (.aload_n 0, 1) := by decide +kernel
theorem dX6_lengthOfPart_1 : decode cX6_lengthOfPart 1 = .ok (.getfield 11, 3) := by decide +kernel
theorem dX6_lengthOfPart_4 : decode cX6_lengthOfPart 4 = .ok (.iload_n 1, 1) := by decide +kernel
theorem dX6_lengthOfPart_5 : decode cX6_lengthOfPart 5 = .ok (.iconst 4, 1) := by decide +kernel
theorem dX6_lengthOfPart_6 : decode cX6_lengthOfPart 6 = .ok (.imul, 1) := by decide +kernel
theorem dX6_lengthOfPart_7 : decode cX6_lengthOfPart 7 = .ok (.caload, 1) := by decide +kernel
theorem dX6_lengthOfPart_8 : decode cX6_lengthOfPart 8 = .ok (.bipush 48, 2) := by decide +kernel
theorem dX6_lengthOfPart_10 : decode cX6_lengthOfPart 10 = .ok (.isub, 1) := by decide +kernel
theorem dX6_lengthOfPart_11 : decode cX6_lengthOfPart 11 = .ok (.ireturn, 1) := by decide +kernel
theorem dX6_upperOfPart_0 : decode cX6_upperOfPart 0 = .ok (.aload_n 0, 1) := by decide +kernel
theorem dX6_upperOfPart_1 : decode cX6_upperOfPart 1 = .ok (.getfield 11, 3) := by decide +kernel
theorem dX6_upperOfPart_4 : decode cX6_upperOfPart 4 = .ok (.iload_n 1, 1) := by decide +kernel
theorem dX6_upperOfPart_5 : decode cX6_upperOfPart 5 = .ok (.iconst 4, 1) := by decide +kernel
theorem dX6_upperOfPart_6 : decode cX6_upperOfPart 6 = .ok (.imul, 1) := by decide +kernel
theorem dX6_upperOfPart_7 : decode cX6_upperOfPart 7 = .ok (.iconst 1, 1) := by decide +kernel
theorem dX6_upperOfPart_8 : decode cX6_upperOfPart 8 = .ok (.iadd, 1) := by decide +kernel
theorem dX6_upperOfPart_9 : decode cX6_upperOfPart 9 = .ok (.caload, 1) := by decide +kernel
theorem dX6_upperOfPart_10 : decode cX6_upperOfPart 10 = .ok (.bipush 97, 2) := by decide +kernel
theorem dX6_upperOfPart_12 : decode cX6_upperOfPart 12 = .ok (.isub, 1) := by decide +kernel
theorem dX6_upperOfPart_13 : decode cX6_upperOfPart 13 = .ok (.ireturn, 1) := by decide +kernel
theorem dX6_lowerOfPart_0 : decode cX6_lowerOfPart 0 = .ok (.aload_n 0, 1) := by decide +kernel
theorem dX6_lowerOfPart_1 : decode cX6_lowerOfPart 1 = .ok (.getfield 11, 3) := by decide +kernel
theorem dX6_lowerOfPart_4 : decode cX6_lowerOfPart 4 = .ok (.iload_n 1, 1) := by decide +kernel
theorem dX6_lowerOfPart_5 : decode cX6_lowerOfPart 5 = .ok (.iconst 4, 1) := by decide +kernel
theorem dX6_lowerOfPart_6 : decode cX6_lowerOfPart 6 = .ok (.imul, 1) := by decide +kernel
theorem dX6_lowerOfPart_7 : decode cX6_lowerOfPart 7 = .ok (.iconst 2, 1) := by decide +kernel
theorem dX6_lowerOfPart_8 : decode cX6_lowerOfPart 8 = .ok (.iadd, 1) := by decide +kernel
theorem dX6_lowerOfPart_9 : decode cX6_lowerOfPart 9 = .ok (.caload, 1) := by decide +kernel
theorem dX6_lowerOfPart_10 : decode cX6_lowerOfPart 10 = .ok (.bipush 97, 2) := by decide +kernel
theorem dX6_lowerOfPart_12 : decode cX6_lowerOfPart 12 = .ok (.isub, 1) := by decide +kernel
theorem dX6_lowerOfPart_13 : decode cX6_lowerOfPart 13 = .ok (.ireturn, 1) := by decide +kernel
theorem dX7_init_0 : decode cX7_init 0 = .ok (.aload_n 0, 1) := by decide +kernel
theorem dX7_init_1 : decode cX7_init 1 = .ok (.invokespecial 1, 3) := by decide +kernel
theorem dX7_init_4 : decode cX7_init 4 = .ok (.aload_n 0, 1) := by decide +kernel
theorem dX7_init_5 : decode cX7_init 5 = .ok (.new 7, 3) := by decide +kernel
theorem dX7_init_8 : decode cX7_init 8 = .ok (.dup, 1) := by decide +kernel
theorem dX7_init_9 : decode cX7_init 9 = .ok (.invokespecial 9, 3) := by decide +kernel
theorem dX7_init_12 : decode cX7_init 12 = .ok (.putfield 10, 3) := by decide +kernel
theorem dX7_init_15 : decode cX7_init 15 = .ok (.aload_n 0, 1) := by decide +kernel
theorem dX7_init_16 : decode cX7_init 16 = .ok (.new 16, 3) := by decide +kernel
theorem dX7_init_19 : decode cX7_init 19 = .ok (.dup, 1) := by decide +kernel
theorem dX7_init_20 : decode cX7_init 20 = .ok (.invokespecial 18, 3) := by decide +kernel
theorem dX7_init_23 : decode cX7_init 23 = .ok (.putfield 19, 3) := by decide +kernel
theorem dX7_init_26 : decode cX7_init 26 = .ok (.aload_n 0, 1) := by decide +kernel
theorem dX7_init_27 : decode cX7_init 27 = .ok (.new 23, 3) := by decide +kernel
theorem dX7_init_30 : decode cX7_init 30 = .ok (.dup, 1) := by decide +kernel
theorem dX7_init_31 : decode cX7_init 31 = .ok (.invokespecial 25, 3) := by decide +kernel
theorem dX7_init_34 : decode cX7_init 34 = .ok (.putfield 26, 3) := by decide +kernel
theorem dX7_init_37 : decode cX7_init 37 = .ok (.aload_n 0, 1) := by decide +kernel
theorem dX7_init_38 : decode cX7_init 38 = .ok (.new 30, 3) := by decide +kernel
theorem dX7_init_41 : decode cX7_init 41 = .ok (.dup, 1) := by decide +kernel
theorem dX7_init_42 : decode cX7_init 42 = .ok (.invokespecial 32, 3) := by decide +kernel
theorem dX7_init_45 : decode cX7_init 45 = .ok (.putfield 33, 3) := by decide +kernel
theorem dX7_init_48 : decode cX7_init 48 = .ok (.aload_n 0, 1) := by decide +kernel
theorem dX7_init_49 : decode cX7_init 49 = .ok (.new 37, 3) := by decide +kernel
theorem dX7_init_52 : decode cX7_init 52 = .ok (.dup, 1) := by decide +kernel
theorem dX7_init_53 : decode cX7_init 53 = .ok (.invokespecial 39, 3) := by decide +kernel
theorem dX7_init_56 : decode cX7_init 56 = .ok (.putfield 40, 3) := by decide +kernel
theorem dX7_init_59 : decode cX7_init 59 = .ok (.aload_n 0, 1) := by decide +kernel
theorem dX7_init_60 : decode cX7_init 60 = .ok (.iconst 0, 1) := by decide +kernel
theorem dX7_init_61 : decode cX7_init 61 = .ok (.putfield 44, 3) := by decide +kernel
theorem dX7_init_64 : decode cX7_init 64 = .ok (.return_, 1) := by decide +kernel
theorem dX7_metal_0 : decode cX7_metal 0 = .ok (.iload_n 1, 1) := by decide +kernel
theorem dX7_metal_1 : decode cX7_metal 1 = .ok (.iconst 0, 1) := by decide +kernel
theorem dX7_metal_2 : decode cX7_metal 2 = .ok (.iconst 5, 1) := by decide +kernel
theorem dX7_metal_3 : decode cX7_metal 3 = .ok (.invokestatic 48, 3) := by decide +kernel
theorem dX7_metal_6 : decode cX7_metal 6 = .ok (.ifCond .eq 13, 3) := by decide +kernel
theorem dX7_metal_9 : decode cX7_metal 9 = .ok (.iload_n 2, 1) := by decide +kernel
theorem dX7_metal_10 : decode cX7_metal 10 = .ok (.iconst 0, 1) := by decide +kernel
theorem dX7_metal_11 : decode cX7_metal 11 = .ok (.bipush 30, 2) := by decide +kernel
theorem dX7_metal_13 : decode cX7_metal 13 = .ok (.invokestatic 48, 3) := by decide +kernel
theorem dX7_metal_16 : decode cX7_metal 16 = .ok (.ifCond .ne 6, 3) := by decide +kernel
theorem dX7_metal_19 : decode cX7_metal 19 = .ok (.ldc 52, 2) := by decide +kernel
theorem dX7_metal_21 : decode cX7_metal 21 = .ok (.ireturn, 1) := by decide +kernel
theorem dX7_metal_22 : decode cX7_metal 22 = .ok (.aload_n 0, 1) := by decide +kernel
theorem dX7_metal_23 : decode cX7_metal 23 = .ok (.invokevirtual 53, 3) := by decide +kernel
theorem dX7_metal_26 : decode cX7_metal 26 = .ok (.aload_n 0, 1) := by decide +kernel
theorem dX7_metal_27 : decode cX7_metal 27 = .ok (.getfield 10, 3) := by decide +kernel
theorem dX7_metal_30 : decode cX7_metal 30 = .ok (.getfield 56, 3) := by decide +kernel
theorem dX7_metal_33 : decode cX7_metal 33 = .ok (.iload_n 1, 1) := by decide +kernel
theorem dX7_metal_34 : decode cX7_metal 34 = .ok (.iaload, 1) := by decide +kernel
theorem dX7_metal_35 : decode cX7_metal 35 = .ok (.istore_n 3, 1) := by decide +kernel
theorem dX7_metal_36 : decode cX7_metal 36 = .ok (.aload_n 0, 1) := by decide +kernel
theorem dX7_metal_37 : decode cX7_metal 37 = .ok (.getfield 10, 3) := by decide +kernel
theorem dX7_metal_40 : decode cX7_metal 40 = .ok (.getfield 56, 3) := by decide +kernel
theorem dX7_metal_43 : decode cX7_metal 43 = .ok (.iload_n 1, 1) := by decide +kernel
theorem dX7_metal_44 : decode cX7_metal 44 = .ok (.iload_n 2, 1) := by decide +kernel
theorem dX7_metal_45 : decode cX7_metal 45 = .ok (.iastore, 1) := by decide +kernel
theorem dX7_metal_46 : decode cX7_metal 46 = .ok (.iload_n 3, 1) := by decide +kernel
theorem dX7_metal_47 : decode cX7_metal 47 = .ok (.ireturn, 1) := by decide +kernel
theorem dX7_part_0 : decode cX7_part 0 = .ok (.iload_n 1, 1) := by decide +kernel
theorem dX7_part_1 : decode cX7_part 1 = .ok (.invokestatic 60, 3) := by decide +kernel
theorem dX7_part_4 : decode cX7_part 4 = .ok (.ifCond .eq 32, 3) := by decide +kernel
theorem dX7_part_7 : decode cX7_part 7 = .ok (.iload_n 2, 1) := by decide +kernel
theorem dX7_part_8 : decode cX7_part 8 = .ok (.iconst 1, 1) := by decide +kernel
theorem dX7_part_9 : decode cX7_part 9 = .ok (.bipush 9, 2) := by decide +kernel
theorem dX7_part_11 : decode cX7_part 11 = .ok (.invokestatic 48, 3) := by decide +kernel
theorem dX7_part_14 : decode cX7_part 14 = .ok (.ifCond .eq 22, 3) := by decide +kernel
theorem dX7_part_17 : decode cX7_part 17 = .ok (.iload_n 3, 1) := by decide +kernel
theorem dX7_part_18 : decode cX7_part 18 = .ok (.iconst 0, 1) := by decide +kernel
theorem dX7_part_19 : decode cX7_part 19 = .ok (.iconst 5, 1) := by decide +kernel
theorem dX7_part_20 : decode cX7_part 20 = .ok (.invokestatic 48, 3) := by decide +kernel
theorem dX7_part_23 : decode cX7_part 23 = .ok (.ifCond .eq 13, 3) := by decide +kernel
theorem dX7_part_26 : decode cX7_part 26 = .ok (.iload 4, 2) := by decide +kernel
theorem dX7_part_28 : decode cX7_part 28 = .ok (.iconst 0, 1) := by decide +kernel
theorem dX7_part_29 : decode cX7_part 29 = .ok (.iconst 5, 1) := by decide +kernel
theorem dX7_part_30 : decode cX7_part 30 = .ok (.invokestatic 48, 3) := by decide +kernel
theorem dX7_part_33 : decode cX7_part 33 = .ok (.ifCond .ne 6, 3) := by decide +kernel
theorem dX7_part_36 : decode cX7_part 36 = .ok (.ldc 52, 2) := by decide +kernel
theorem dX7_part_38 : decode cX7_part 38 = .ok (.ireturn, 1) := by decide +kernel
theorem dX7_part_39 : decode cX7_part 39 = .ok (.aload_n 0, 1) := by decide +kernel
theorem dX7_part_40 : decode cX7_part 40 = .ok (.getfield 10, 3) := by decide +kernel
theorem dX7_part_43 : decode cX7_part 43 = .ok (.getfield 64, 3) := by decide +kernel
theorem dX7_part_46 : decode cX7_part 46 = .ok (.iload_n 1, 1) := by decide +kernel
theorem dX7_part_47 : decode cX7_part 47 = .ok (.aaload, 1) := by decide +kernel
theorem dX7_part_48 : decode cX7_part 48 = .ok (.astore 5, 2) := by decide +kernel
theorem dX7_part_50 : decode cX7_part 50 = .ok (.aload 5, 2) := by decide +kernel
theorem dX7_part_52 : decode cX7_part 52 = .ok (.getfield 68, 3) := by decide +kernel
theorem dX7_part_55 : decode cX7_part 55 = .ok (.bipush 8, 2) := by decide +kernel
theorem dX7_part_57 : decode cX7_part 57 = .ok (.if_icmp .lt 6, 3) := by decide +kernel
theorem dX7_part_60 : decode cX7_part 60 = .ok (.ldc 74, 2) := by decide +kernel
theorem dX7_part_62 : decode cX7_part 62 = .ok (.ireturn, 1) := by decide +kernel
theorem dX7_part_63 : decode cX7_part 63 = .ok (.aload_n 0, 1) := by decide +kernel
theorem dX7_part_64 : decode cX7_part 64 = .ok (.invokevirtual 53, 3) := by decide +kernel
theorem dX7_part_67 : decode cX7_part 67 = .ok (.aload 5, 2) := by decide +kernel
theorem dX7_part_69 : decode cX7_part 69 = .ok (.iload_n 2, 1) := by decide +kernel
theorem dX7_part_70 : decode cX7_part 70 = .ok (.iload_n 3, 1) := by decide +kernel
theorem dX7_part_71 : decode cX7_part 71 = .ok (.iload 4, 2) := by decide +kernel
theorem dX7_part_73 : decode cX7_part 73 = .ok (.invokevirtual 75, 3) := by decide +kernel
theorem dX7_part_76 : decode cX7_part 76 = .ok (.aload 5, 2) := by decide +kernel
theorem dX7_part_78 : decode cX7_part 78 = .ok (.getfield 68, 3) := by decide +kernel
theorem dX7_part_81 : decode cX7_part 81 = .ok (.ireturn, 1) := by decide +kernel
theorem dX7_cut_0 : decode cX7_cut 0 = .ok (.iload_n 1, 1) := by decide +kernel
theorem dX7_cut_1 : decode cX7_cut 1 = .ok (.invokestatic 60, 3) := by decide +kernel
theorem dX7_cut_4 : decode cX7_cut 4 = .ok (.ifCond .eq 13, 3) := by decide +kernel
theorem dX7_cut_7 : decode cX7_cut 7 = .ok (.iload_n 2, 1) := by decide +kernel
theorem dX7_cut_8 : decode cX7_cut 8 = .ok (.iconst 1, 1) := by decide +kernel
theorem dX7_cut_9 : decode cX7_cut 9 = .ok (.bipush 8, 2) := by decide +kernel
theorem dX7_cut_11 : decode cX7_cut 11 = .ok (.invokestatic 48, 3) := by decide +kernel
theorem dX7_cut_14 : decode cX7_cut 14 = .ok (.ifCond .ne 6, 3) := by decide +kernel
theorem dX7_cut_17 : decode cX7_cut 17 = .ok (.ldc 52, 2) := by decide +kernel
theorem dX7_cut_19 : decode cX7_cut 19 = .ok (.ireturn, 1) := by decide +kernel
theorem dX7_cut_20 : decode cX7_cut 20 = .ok (.aload_n 0, 1) := by decide +kernel
theorem dX7_cut_21 : decode cX7_cut 21 = .ok (.getfield 10, 3) := by decide +kernel
theorem dX7_cut_24 : decode cX7_cut 24 = .ok (.getfield 64, 3) := by decide +kernel
theorem dX7_cut_27 : decode cX7_cut 27 = .ok (.iload_n 1, 1) := by decide +kernel
theorem dX7_cut_28 : decode cX7_cut 28 = .ok (.aaload, 1) := by decide +kernel
theorem dX7_cut_29 : decode cX7_cut 29 = .ok (.astore_n 3, 1) := by decide +kernel
theorem dX7_cut_30 : decode cX7_cut 30 = .ok (.aload_n 3, 1) := by decide +kernel
theorem dX7_cut_31 : decode cX7_cut 31 = .ok (.getfield 68, 3) := by decide +kernel
theorem dX7_cut_34 : decode cX7_cut 34 = .ok (.iload_n 2, 1) := by decide +kernel
theorem dX7_cut_35 : decode cX7_cut 35 = .ok (.if_icmp .ge 6, 3) := by decide +kernel
theorem dX7_cut_38 : decode cX7_cut 38 = .ok (.ldc 79, 2) := by decide +kernel
theorem dX7_cut_40 : decode cX7_cut 40 = .ok (.ireturn, 1) := by decide +kernel
theorem dX7_cut_41 : decode cX7_cut 41 = .ok (.aload_n 0, 1) := by decide +kernel
theorem dX7_cut_42 : decode cX7_cut 42 = .ok (.invokevirtual 53, 3) := by decide +kernel
theorem dX7_cut_45 : decode cX7_cut 45 = .ok (.aload_n 3, 1) := by decide +kernel
theorem dX7_cut_46 : decode cX7_cut 46 = .ok (.dup, 1) := by decide +kernel
theorem dX7_cut_47 : decode cX7_cut 47 = .ok (.getfield 68, 3) := by decide +kernel
theorem dX7_cut_50 : decode cX7_cut 50 = .ok (.iload_n 2, 1) := by decide +kernel
theorem dX7_cut_51 : decode cX7_cut 51 = .ok (.isub, 1) := by decide +kernel
theorem dX7_cut_52 : decode cX7_cut 52 = .ok (.putfield 68, 3) := by decide +kernel
theorem dX7_cut_55 : decode cX7_cut 55 = .ok (.aload_n 3, 1) := by decide +kernel
theorem dX7_cut_56 : decode cX7_cut 56 = .ok (.getfield 68, 3) := by decide +kernel
theorem dX7_cut_59 : decode cX7_cut 59 = .ok (.ireturn, 1) := by decide +kernel
theorem dX7_bounds_0 : decode cX7_bounds 0 = .ok (.iload_n 1, 1) := by decide +kernel
theorem dX7_bounds_1 : decode cX7_bounds 1 = .ok (.invokestatic 60, 3) := by decide +kernel
theorem dX7_bounds_4 : decode cX7_bounds 4 = .ok (.ifCond .eq 36, 3) := by decide +kernel
theorem dX7_bounds_7 : decode cX7_bounds 7 = .ok (.iload_n 2, 1) := by decide +kernel
theorem dX7_bounds_8 : decode cX7_bounds 8 = .ok (.ldc 80, 2) := by decide +kernel
theorem dX7_bounds_10 : decode cX7_bounds 10 = .ok (.ldc 81, 2) := by decide +kernel
theorem dX7_bounds_12 : decode cX7_bounds 12 = .ok (.invokestatic 48, 3) := by decide +kernel
theorem dX7_bounds_15 : decode cX7_bounds 15 = .ok (.ifCond .eq 25, 3) := by decide +kernel
theorem dX7_bounds_18 : decode cX7_bounds 18 = .ok (.iload_n 3, 1) := by decide +kernel
theorem dX7_bounds_19 : decode cX7_bounds 19 = .ok (.iload_n 2, 1) := by decide +kernel
theorem dX7_bounds_20 : decode cX7_bounds 20 = .ok (.iconst 1, 1) := by decide +kernel
theorem dX7_bounds_21 : decode cX7_bounds 21 = .ok (.iadd, 1) := by decide +kernel
theorem dX7_bounds_22 : decode cX7_bounds 22 = .ok (.ldc 82, 2) := by decide +kernel
theorem dX7_bounds_24 : decode cX7_bounds 24 = .ok (.invokestatic 48, 3) := by decide +kernel
theorem dX7_bounds_27 : decode cX7_bounds 27 = .ok (.ifCond .eq 13, 3) := by decide +kernel
theorem dX7_bounds_30 : decode cX7_bounds 30 = .ok (.iload 4, 2) := by decide +kernel
theorem dX7_bounds_32 : decode cX7_bounds 32 = .ok (.iconst 0, 1) := by decide +kernel
theorem dX7_bounds_33 : decode cX7_bounds 33 = .ok (.iconst 5, 1) := by decide +kernel
theorem dX7_bounds_34 : decode cX7_bounds 34 = .ok (.invokestatic 48, 3) := by decide +kernel
theorem dX7_bounds_37 : decode cX7_bounds 37 = .ok (.ifCond .ne 6, 3) := by decide +kernel
theorem dX7_bounds_40 : decode cX7_bounds 40 = .ok (.ldc 52, 2) := by decide +kernel
theorem dX7_bounds_42 : decode cX7_bounds 42 = .ok (.ireturn, 1) := by decide +kernel
theorem dX7_bounds_43 : decode cX7_bounds 43 = .ok (.aload_n 0, 1) := by decide +kernel
theorem dX7_bounds_44 : decode cX7_bounds 44 = .ok (.invokevirtual 53, 3) := by decide +kernel
theorem dX7_bounds_47 : decode cX7_bounds 47 = .ok (.aload_n 0, 1) := by decide +kernel
theorem dX7_bounds_48 : decode cX7_bounds 48 = .ok (.getfield 10, 3) := by decide +kernel
theorem dX7_bounds_51 : decode cX7_bounds 51 = .ok (.getfield 64, 3) := by decide +kernel
theorem dX7_bounds_54 : decode cX7_bounds 54 = .ok (.iload_n 1, 1) := by decide +kernel
theorem dX7_bounds_55 : decode cX7_bounds 55 = .ok (.aaload, 1) := by decide +kernel
theorem dX7_bounds_56 : decode cX7_bounds 56 = .ok (.astore 5, 2) := by decide +kernel
theorem dX7_bounds_58 : decode cX7_bounds 58 = .ok (.aload 5, 2) := by decide +kernel
theorem dX7_bounds_60 : decode cX7_bounds 60 = .ok (.iload_n 2, 1) := by decide +kernel
theorem dX7_bounds_61 : decode cX7_bounds 61 = .ok (.putfield 83, 3) := by decide +kernel
theorem dX7_bounds_64 : decode cX7_bounds 64 = .ok (.aload 5, 2) := by decide +kernel
theorem dX7_bounds_66 : decode cX7_bounds 66 = .ok (.iload_n 3, 1) := by decide +kernel
theorem dX7_bounds_67 : decode cX7_bounds 67 = .ok (.putfield 86, 3) := by decide +kernel
theorem dX7_bounds_70 : decode cX7_bounds 70 = .ok (.aload 5, 2) := by decide +kernel
theorem dX7_bounds_72 : decode cX7_bounds 72 = .ok (.iload 4, 2) := by decide +kernel
theorem dX7_bounds_74 : decode cX7_bounds 74 = .ok (.putfield 89, 3) := by decide +kernel
theorem dX7_bounds_77 : decode cX7_bounds 77 = .ok (.aload_n 0, 1) := by decide +kernel
theorem dX7_bounds_78 : decode cX7_bounds 78 = .ok (.getfield 10, 3) := by decide +kernel
theorem dX7_bounds_81 : decode cX7_bounds 81 = .ok (.iload_n 1, 1) := by decide +kernel
theorem dX7_bounds_82 : decode cX7_bounds 82 = .ok (.invokevirtual 92, 3) := by decide +kernel
theorem dX7_bounds_85 : decode cX7_bounds 85 = .ok (.ireturn, 1) := by decide +kernel
theorem dX7_contact_0 : decode cX7_contact 0 = .ok (.iload_n 1, 1) := by decide +kernel
theorem dX7_contact_1 : decode cX7_contact 1 = .ok (.invokestatic 60, 3) := by decide +kernel
theorem dX7_contact_4 : decode cX7_contact 4 = .ok (.ifCond .eq 12, 3) := by decide +kernel
theorem dX7_contact_7 : decode cX7_contact 7 = .ok (.iload_n 2, 1) := by decide +kernel
theorem dX7_contact_8 : decode cX7_contact 8 = .ok (.iconst 0, 1) := by decide +kernel
theorem dX7_contact_9 : decode cX7_contact 9 = .ok (.iconst 1, 1) := by decide +kernel
theorem dX7_contact_10 : decode cX7_contact 10 = .ok (.invokestatic 48, 3) := by decide +kernel
theorem dX7_contact_13 : decode cX7_contact 13 = .ok (.ifCond .ne 6, 3) := by decide +kernel
theorem dX7_contact_16 : decode cX7_contact 16 = .ok (.ldc 52, 2) := by decide +kernel
theorem dX7_contact_18 : decode cX7_contact 18 = .ok (.ireturn, 1) := by decide +kernel
theorem dX7_contact_19 : decode cX7_contact 19 = .ok (.aload_n 0, 1) := by decide +kernel
theorem dX7_contact_20 : decode cX7_contact 20 = .ok (.invokevirtual 53, 3) := by decide +kernel
theorem dX7_contact_23 : decode cX7_contact 23 = .ok (.aload_n 0, 1) := by decide +kernel
theorem dX7_contact_24 : decode cX7_contact 24 = .ok (.getfield 10, 3) := by decide +kernel
theorem dX7_contact_27 : decode cX7_contact 27 = .ok (.getfield 64, 3) := by decide +kernel
theorem dX7_contact_30 : decode cX7_contact 30 = .ok (.iload_n 1, 1) := by decide +kernel
theorem dX7_contact_31 : decode cX7_contact 31 = .ok (.aaload, 1) := by decide +kernel
theorem dX7_contact_32 : decode cX7_contact 32 = .ok (.astore_n 3, 1) := by decide +kernel
theorem dX7_contact_33 : decode cX7_contact 33 = .ok (.aload_n 3, 1) := by decide +kernel
theorem dX7_contact_34 : decode cX7_contact 34 = .ok (.iload_n 2, 1) := by decide +kernel
theorem dX7_contact_35 : decode cX7_contact 35 = .ok (.putfield 96, 3) := by decide +kernel
theorem dX7_contact_38 : decode cX7_contact 38 = .ok (.aload_n 3, 1) := by decide +kernel
theorem dX7_contact_39 : decode cX7_contact 39 = .ok (.invokevirtual 99, 3) := by decide +kernel
theorem dX7_contact_42 : decode cX7_contact 42 = .ok (.invokestatic 103, 3) := by decide +kernel
theorem dX7_contact_45 : decode cX7_contact 45 = .ok (.ireturn, 1) := by decide +kernel
theorem dX7_heat_0 : decode cX7_heat 0 = .ok (.iload_n 1, 1) := by decide +kernel
theorem dX7_heat_1 : decode cX7_heat 1 = .ok (.invokestatic 60, 3) := by decide +kernel
theorem dX7_heat_4 : decode cX7_heat 4 = .ok (.ifCond .eq 23, 3) := by decide +kernel
theorem dX7_heat_7 : decode cX7_heat 7 = .ok (.iload_n 2, 1) := by decide +kernel
theorem dX7_heat_8 : decode cX7_heat 8 = .ok (.iconst 0, 1) := by decide +kernel
theorem dX7_heat_9 : decode cX7_heat 9 = .ok (.bipush 99, 2) := by decide +kernel
theorem dX7_heat_11 : decode cX7_heat 11 = .ok (.invokestatic 48, 3) := by decide +kernel
theorem dX7_heat_14 : decode cX7_heat 14 = .ok (.ifCond .eq 13, 3) := by decide +kernel
theorem dX7_heat_17 : decode cX7_heat 17 = .ok (.iload_n 3, 1) := by decide +kernel
theorem dX7_heat_18 : decode cX7_heat 18 = .ok (.iconst 1, 1) := by decide +kernel
theorem dX7_heat_19 : decode cX7_heat 19 = .ok (.bipush 99, 2) := by decide +kernel
theorem dX7_heat_21 : decode cX7_heat 21 = .ok (.invokestatic 48, 3) := by decide +kernel
theorem dX7_heat_24 : decode cX7_heat 24 = .ok (.ifCond .ne 6, 3) := by decide +kernel
theorem dX7_heat_27 : decode cX7_heat 27 = .ok (.ldc 52, 2) := by decide +kernel
theorem dX7_heat_29 : decode cX7_heat 29 = .ok (.ireturn, 1) := by decide +kernel
theorem dX7_heat_30 : decode cX7_heat 30 = .ok (.aload_n 0, 1) := by decide +kernel
theorem dX7_heat_31 : decode cX7_heat 31 = .ok (.invokevirtual 53, 3) := by decide +kernel
theorem dX7_heat_34 : decode cX7_heat 34 = .ok (.aload_n 0, 1) := by decide +kernel
theorem dX7_heat_35 : decode cX7_heat 35 = .ok (.getfield 10, 3) := by decide +kernel
theorem dX7_heat_38 : decode cX7_heat 38 = .ok (.getfield 107, 3) := by decide +kernel
theorem dX7_heat_41 : decode cX7_heat 41 = .ok (.iload_n 1, 1) := by decide +kernel
theorem dX7_heat_42 : decode cX7_heat 42 = .ok (.aaload, 1) := by decide +kernel
theorem dX7_heat_43 : decode cX7_heat 43 = .ok (.astore 4, 2) := by decide +kernel
theorem dX7_heat_45 : decode cX7_heat 45 = .ok (.bipush 100, 2) := by decide +kernel
theorem dX7_heat_47 : decode cX7_heat 47 = .ok (.aload 4, 2) := by decide +kernel
theorem dX7_heat_49 : decode cX7_heat 49 = .ok (.getfield 111, 3) := by decide +kernel
theorem dX7_heat_52 : decode cX7_heat 52 = .ok (.imul, 1) := by decide +kernel
theorem dX7_heat_53 : decode cX7_heat 53 = .ok (.aload 4, 2) := by decide +kernel
theorem dX7_heat_55 : decode cX7_heat 55 = .ok (.getfield 116, 3) := by decide +kernel
theorem dX7_heat_58 : decode cX7_heat 58 = .ok (.iadd, 1) := by decide +kernel
theorem dX7_heat_59 : decode cX7_heat 59 = .ok (.istore 5, 2) := by decide +kernel
theorem dX7_heat_61 : decode cX7_heat 61 = .ok (.aload 4, 2) := by decide +kernel
theorem dX7_heat_63 : decode cX7_heat 63 = .ok (.iload_n 2, 1) := by decide +kernel
theorem dX7_heat_64 : decode cX7_heat 64 = .ok (.putfield 111, 3) := by decide +kernel
theorem dX7_heat_67 : decode cX7_heat 67 = .ok (.aload 4, 2) := by decide +kernel
theorem dX7_heat_69 : decode cX7_heat 69 = .ok (.iload_n 3, 1) := by decide +kernel
theorem dX7_heat_70 : decode cX7_heat 70 = .ok (.putfield 116, 3) := by decide +kernel
theorem dX7_heat_73 : decode cX7_heat 73 = .ok (.iload 5, 2) := by decide +kernel
theorem dX7_heat_75 : decode cX7_heat 75 = .ok (.ireturn, 1) := by decide +kernel
theorem dX7_outside_0 : decode cX7_outside 0 = .ok (.iload_n 1, 1) := by decide +kernel
theorem dX7_outside_1 : decode cX7_outside 1 = .ok (.invokestatic 119, 3) := by decide +kernel
theorem dX7_outside_4 : decode cX7_outside 4 = .ok (.ifCond .ne 6, 3) := by decide +kernel
theorem dX7_outside_7 : decode cX7_outside 7 = .ok (.ldc 52, 2) := by decide +kernel
theorem dX7_outside_9 : decode cX7_outside 9 = .ok (.ireturn, 1) := by decide +kernel
theorem dX7_outside_10 : decode cX7_outside 10 = .ok (.aload_n 0, 1) := by decide +kernel
theorem dX7_outside_11 : decode cX7_outside 11 = .ok (.invokevirtual 53, 3) := by decide +kernel
theorem dX7_outside_14 : decode cX7_outside 14 = .ok (.aload_n 0, 1) := by decide +kernel
theorem dX7_outside_15 : decode cX7_outside 15 = .ok (.getfield 10, 3) := by decide +kernel
theorem dX7_outside_18 : decode cX7_outside 18 = .ok (.getfield 122, 3) := by decide +kernel
theorem dX7_outside_21 : decode cX7_outside 21 = .ok (.istore_n 2, 1) := by decide +kernel
theorem dX7_outside_22 : decode cX7_outside 22 = .ok (.aload_n 0, 1) := by decide +kernel
theorem dX7_outside_23 : decode cX7_outside 23 = .ok (.getfield 10, 3) := by decide +kernel
theorem dX7_outside_26 : decode cX7_outside 26 = .ok (.iload_n 1, 1) := by decide +kernel
theorem dX7_outside_27 : decode cX7_outside 27 = .ok (.putfield 122, 3) := by decide +kernel
theorem dX7_outside_30 : decode cX7_outside 30 = .ok (.iload_n 2, 1) := by decide +kernel
theorem dX7_outside_31 : decode cX7_outside 31 = .ok (.ireturn, 1) := by decide +kernel
theorem dX7_warm_0 : decode cX7_warm 0 = .ok (.iload_n 1, 1) := by decide +kernel
theorem dX7_warm_1 : decode cX7_warm 1 = .ok (.invokestatic 60, 3) := by decide +kernel
theorem dX7_warm_4 : decode cX7_warm 4 = .ok (.ifCond .eq 10, 3) := by decide +kernel
theorem dX7_warm_7 : decode cX7_warm 7 = .ok (.iload_n 2, 1) := by decide +kernel
theorem dX7_warm_8 : decode cX7_warm 8 = .ok (.invokestatic 119, 3) := by decide +kernel
theorem dX7_warm_11 : decode cX7_warm 11 = .ok (.ifCond .ne 6, 3) := by decide +kernel
theorem dX7_warm_14 : decode cX7_warm 14 = .ok (.ldc 52, 2) := by decide +kernel
theorem dX7_warm_16 : decode cX7_warm 16 = .ok (.ireturn, 1) := by decide +kernel
theorem dX7_warm_17 : decode cX7_warm 17 = .ok (.aload_n 0, 1) := by decide +kernel
theorem dX7_warm_18 : decode cX7_warm 18 = .ok (.invokevirtual 53, 3) := by decide +kernel
theorem dX7_warm_21 : decode cX7_warm 21 = .ok (.aload_n 0, 1) := by decide +kernel
theorem dX7_warm_22 : decode cX7_warm 22 = .ok (.getfield 10, 3) := by decide +kernel
theorem dX7_warm_25 : decode cX7_warm 25 = .ok (.getfield 107, 3) := by decide +kernel
theorem dX7_warm_28 : decode cX7_warm 28 = .ok (.iload_n 1, 1) := by decide +kernel
theorem dX7_warm_29 : decode cX7_warm 29 = .ok (.aaload, 1) := by decide +kernel
theorem dX7_warm_30 : decode cX7_warm 30 = .ok (.astore_n 3, 1) := by decide +kernel
theorem dX7_warm_31 : decode cX7_warm 31 = .ok (.aload_n 3, 1) := by decide +kernel
theorem dX7_warm_32 : decode cX7_warm 32 = .ok (.getfield 125, 3) := by decide +kernel
theorem dX7_warm_35 : decode cX7_warm 35 = .ok (.istore 4, 2) := by decide +kernel
theorem dX7_warm_37 : decode cX7_warm 37 = .ok (.aload_n 3, 1) := by decide +kernel
theorem dX7_warm_38 : decode cX7_warm 38 = .ok (.iload_n 2, 1) := by decide +kernel
theorem dX7_warm_39 : decode cX7_warm 39 = .ok (.putfield 125, 3) := by decide +kernel
theorem dX7_warm_42 : decode cX7_warm 42 = .ok (.iload 4, 2) := by decide +kernel
theorem dX7_warm_44 : decode cX7_warm 44 = .ok (.ireturn, 1) := by decide +kernel
theorem dX7_opening_0 : decode cX7_opening 0 = .ok (.iload_n 1, 1) := by decide +kernel
theorem dX7_opening_1 : decode cX7_opening 1 = .ok (.invokestatic 60, 3) := by decide +kernel
theorem dX7_opening_4 : decode cX7_opening 4 = .ok (.ifCond .eq 12, 3) := by decide +kernel
theorem dX7_opening_7 : decode cX7_opening 7 = .ok (.iload_n 2, 1) := by decide +kernel
theorem dX7_opening_8 : decode cX7_opening 8 = .ok (.iconst 0, 1) := by decide +kernel
theorem dX7_opening_9 : decode cX7_opening 9 = .ok (.iconst 1, 1) := by decide +kernel
theorem dX7_opening_10 : decode cX7_opening 10 = .ok (.invokestatic 48, 3) := by decide +kernel
theorem dX7_opening_13 : decode cX7_opening 13 = .ok (.ifCond .ne 6, 3) := by decide +kernel
theorem dX7_opening_16 : decode cX7_opening 16 = .ok (.ldc 52, 2) := by decide +kernel
theorem dX7_opening_18 : decode cX7_opening 18 = .ok (.ireturn, 1) := by decide +kernel
theorem dX7_opening_19 : decode cX7_opening 19 = .ok (.aload_n 0, 1) := by decide +kernel
theorem dX7_opening_20 : decode cX7_opening 20 = .ok (.invokevirtual 53, 3) := by decide +kernel
theorem dX7_opening_23 : decode cX7_opening 23 = .ok (.aload_n 0, 1) := by decide +kernel
theorem dX7_opening_24 : decode cX7_opening 24 = .ok (.getfield 10, 3) := by decide +kernel
theorem dX7_opening_27 : decode cX7_opening 27 = .ok (.getfield 107, 3) := by decide +kernel
theorem dX7_opening_30 : decode cX7_opening 30 = .ok (.iload_n 1, 1) := by decide +kernel
theorem dX7_opening_31 : decode cX7_opening 31 = .ok (.aaload, 1) := by decide +kernel
theorem dX7_opening_32 : decode cX7_opening 32 = .ok (.iload_n 2, 1) := by decide +kernel
theorem dX7_opening_33 : decode cX7_opening 33 = .ok (.iconst 1, 1) := by decide +kernel
theorem dX7_opening_34 : decode cX7_opening 34 = .ok (.if_icmp .ne 7, 3) := by decide +kernel
theorem dX7_opening_37 : decode cX7_opening 37 = .ok (.iconst 1, 1) := by decide +kernel
theorem dX7_opening_38 : decode cX7_opening 38 = .ok (.goto 4, 3) := by decide +kernel
theorem dX7_opening_41 : decode cX7_opening 41 = .ok (.iconst 0, 1) := by decide +kernel
theorem dX7_opening_42 : decode cX7_opening 42 = .ok (.putfield 128, 3) := by decide +kernel
theorem dX7_opening_45 : decode cX7_opening 45 = .ok (.aload_n 0, 1) := by decide +kernel
theorem dX7_opening_46 : decode cX7_opening 46 = .ok (.getfield 10, 3) := by decide +kernel
theorem dX7_opening_49 : decode cX7_opening 49 = .ok (.invokevirtual 131, 3) := by decide +kernel
theorem dX7_opening_52 : decode cX7_opening 52 = .ok (.ireturn, 1) := by decide +kernel
theorem dX7_set_0 : decode cX7_set 0 = .ok (.iload_n 1, 1) := by decide +kernel
theorem dX7_set_1 : decode cX7_set 1 = .ok (.iload_n 2, 1) := by decide +kernel
theorem dX7_set_2 : decode cX7_set 2 = .ok (.invokestatic 135, 3) := by decide +kernel
theorem dX7_set_5 : decode cX7_set 5 = .ok (.ifCond .ne 6, 3) := by decide +kernel
theorem dX7_set_8 : decode cX7_set 8 = .ok (.ldc 52, 2) := by decide +kernel
theorem dX7_set_10 : decode cX7_set 10 = .ok (.ireturn, 1) := by decide +kernel
theorem dX7_set_11 : decode cX7_set 11 = .ok (.aload_n 0, 1) := by decide +kernel
theorem dX7_set_12 : decode cX7_set 12 = .ok (.invokevirtual 53, 3) := by decide +kernel
theorem dX7_set_15 : decode cX7_set 15 = .ok (.aload_n 0, 1) := by decide +kernel
theorem dX7_set_16 : decode cX7_set 16 = .ok (.getfield 10, 3) := by decide +kernel
theorem dX7_set_19 : decode cX7_set 19 = .ok (.getfield 139, 3) := by decide +kernel
theorem dX7_set_22 : decode cX7_set 22 = .ok (.iload_n 1, 1) := by decide +kernel
theorem dX7_set_23 : decode cX7_set 23 = .ok (.iaload, 1) := by decide +kernel
theorem dX7_set_24 : decode cX7_set 24 = .ok (.istore_n 3, 1) := by decide +kernel
theorem dX7_set_25 : decode cX7_set 25 = .ok (.aload_n 0, 1) := by decide +kernel
theorem dX7_set_26 : decode cX7_set 26 = .ok (.getfield 10, 3) := by decide +kernel
theorem dX7_set_29 : decode cX7_set 29 = .ok (.getfield 139, 3) := by decide +kernel
theorem dX7_set_32 : decode cX7_set 32 = .ok (.iload_n 1, 1) := by decide +kernel
theorem dX7_set_33 : decode cX7_set 33 = .ok (.iload_n 2, 1) := by decide +kernel
theorem dX7_set_34 : decode cX7_set 34 = .ok (.iastore, 1) := by decide +kernel
theorem dX7_set_35 : decode cX7_set 35 = .ok (.iload_n 3, 1) := by decide +kernel
theorem dX7_set_36 : decode cX7_set 36 = .ok (.ireturn, 1) := by decide +kernel
theorem dX7_tick_0 : decode cX7_tick 0 = .ok (.iload_n 1, 1) := by decide +kernel
theorem dX7_tick_1 : decode cX7_tick 1 = .ok (.iconst 1, 1) := by decide +kernel
theorem dX7_tick_2 : decode cX7_tick 2 = .ok (.sipush 200, 3) := by decide +kernel
theorem dX7_tick_5 : decode cX7_tick 5 = .ok (.invokestatic 48, 3) := by decide +kernel
theorem dX7_tick_8 : decode cX7_tick 8 = .ok (.ifCond .ne 6, 3) := by decide +kernel
theorem dX7_tick_11 : decode cX7_tick 11 = .ok (.ldc 52, 2) := by decide +kernel
theorem dX7_tick_13 : decode cX7_tick 13 = .ok (.ireturn, 1) := by decide +kernel
theorem dX7_tick_14 : decode cX7_tick 14 = .ok (.aload_n 0, 1) := by decide +kernel
theorem dX7_tick_15 : decode cX7_tick 15 = .ok (.invokevirtual 53, 3) := by decide +kernel
theorem dX7_tick_18 : decode cX7_tick 18 = .ok (.aload_n 0, 1) := by decide +kernel
theorem dX7_tick_19 : decode cX7_tick 19 = .ok (.getfield 10, 3) := by decide +kernel
theorem dX7_tick_22 : decode cX7_tick 22 = .ok (.invokevirtual 142, 3) := by decide +kernel
theorem dX7_tick_25 : decode cX7_tick 25 = .ok (.iconst 0, 1) := by decide +kernel
theorem dX7_tick_26 : decode cX7_tick 26 = .ok (.istore_n 2, 1) := by decide +kernel
theorem dX7_tick_27 : decode cX7_tick 27 = .ok (.iconst 0, 1) := by decide +kernel
theorem dX7_tick_28 : decode cX7_tick 28 = .ok (.istore_n 3, 1) := by decide +kernel
theorem dX7_tick_29 : decode cX7_tick 29 = .ok (.iload_n 3, 1) := by decide +kernel
theorem dX7_tick_30 : decode cX7_tick 30 = .ok (.iload_n 1, 1) := by decide +kernel
theorem dX7_tick_31 : decode cX7_tick 31 = .ok (.if_icmp .ge 19, 3) := by decide +kernel
theorem dX7_tick_34 : decode cX7_tick 34 = .ok (.iload_n 2, 1) := by decide +kernel
theorem dX7_tick_35 : decode cX7_tick 35 = .ok (.aload_n 0, 1) := by decide +kernel
theorem dX7_tick_36 : decode cX7_tick 36 = .ok (.getfield 10, 3) := by decide +kernel
theorem dX7_tick_39 : decode cX7_tick 39 = .ok (.invokevirtual 145, 3) := by decide +kernel
theorem dX7_tick_42 : decode cX7_tick 42 = .ok (.iadd, 1) := by decide +kernel
theorem dX7_tick_43 : decode cX7_tick 43 = .ok (.istore_n 2, 1) := by decide +kernel
theorem dX7_tick_44 : decode cX7_tick 44 = .ok (.iinc 3 1, 3) := by decide +kernel
theorem dX7_tick_47 : decode cX7_tick 47 = .ok (.goto (-18), 3) := by decide +kernel
theorem dX7_tick_50 : decode cX7_tick 50 = .ok (.iload_n 2, 1) := by decide +kernel
theorem dX7_tick_51 : decode cX7_tick 51 = .ok (.ireturn, 1) := by decide +kernel
theorem dX7_stripOf_0 : decode cX7_stripOf 0 = .ok (.iload_n 1, 1) := by decide +kernel
theorem dX7_stripOf_1 : decode cX7_stripOf 1 = .ok (.invokestatic 60, 3) := by decide +kernel
theorem dX7_stripOf_4 : decode cX7_stripOf 4 = .ok (.ifCond .ne 6, 3) := by decide +kernel
theorem dX7_stripOf_7 : decode cX7_stripOf 7 = .ok (.ldc 52, 2) := by decide +kernel
theorem dX7_stripOf_9 : decode cX7_stripOf 9 = .ok (.ireturn, 1) := by decide +kernel
theorem dX7_stripOf_10 : decode cX7_stripOf 10 = .ok (.aload_n 0, 1) := by decide +kernel
theorem dX7_stripOf_11 : decode cX7_stripOf 11 = .ok (.getfield 10, 3) := by decide +kernel
theorem dX7_stripOf_14 : decode cX7_stripOf 14 = .ok (.getfield 64, 3) := by decide +kernel
theorem dX7_stripOf_17 : decode cX7_stripOf 17 = .ok (.iload_n 1, 1) := by decide +kernel
theorem dX7_stripOf_18 : decode cX7_stripOf 18 = .ok (.aaload, 1) := by decide +kernel
theorem dX7_stripOf_19 : decode cX7_stripOf 19 = .ok (.astore_n 3, 1) := by decide +kernel
theorem dX7_stripOf_20 : decode cX7_stripOf 20 = .ok (.iload_n 2, 1) := by decide +kernel
theorem dX7_stripOf_21 : decode cX7_stripOf 21 = .ok (.tableswitch 140 0 11 #[63, 68, 73, 85, 94, 99, 104, 109, 117, 122, 127, 132], 63) := by decide +kernel
theorem dX7_stripOf_84 : decode cX7_stripOf 84 = .ok (.aload_n 3, 1) := by decide +kernel
theorem dX7_stripOf_85 : decode cX7_stripOf 85 = .ok (.getfield 68, 3) := by decide +kernel
theorem dX7_stripOf_88 : decode cX7_stripOf 88 = .ok (.ireturn, 1) := by decide +kernel
theorem dX7_stripOf_89 : decode cX7_stripOf 89 = .ok (.aload_n 3, 1) := by decide +kernel
theorem dX7_stripOf_90 : decode cX7_stripOf 90 = .ok (.invokevirtual 148, 3) := by decide +kernel
theorem dX7_stripOf_93 : decode cX7_stripOf 93 = .ok (.ireturn, 1) := by decide +kernel
theorem dX7_stripOf_94 : decode cX7_stripOf 94 = .ok (.aload_n 3, 1) := by decide +kernel
theorem dX7_stripOf_95 : decode cX7_stripOf 95 = .ok (.aload_n 0, 1) := by decide +kernel
theorem dX7_stripOf_96 : decode cX7_stripOf 96 = .ok (.getfield 10, 3) := by decide +kernel
theorem dX7_stripOf_99 : decode cX7_stripOf 99 = .ok (.getfield 56, 3) := by decide +kernel
theorem dX7_stripOf_102 : decode cX7_stripOf 102 = .ok (.invokevirtual 151, 3) := by decide +kernel
theorem dX7_stripOf_105 : decode cX7_stripOf 105 = .ok (.ireturn, 1) := by decide +kernel
theorem dX7_stripOf_106 : decode cX7_stripOf 106 = .ok (.aload_n 0, 1) := by decide +kernel
theorem dX7_stripOf_107 : decode cX7_stripOf 107 = .ok (.getfield 10, 3) := by decide +kernel
theorem dX7_stripOf_110 : decode cX7_stripOf 110 = .ok (.iload_n 1, 1) := by decide +kernel
theorem dX7_stripOf_111 : decode cX7_stripOf 111 = .ok (.invokevirtual 92, 3) := by decide +kernel
theorem dX7_stripOf_114 : decode cX7_stripOf 114 = .ok (.ireturn, 1) := by decide +kernel
theorem dX7_stripOf_115 : decode cX7_stripOf 115 = .ok (.aload_n 3, 1) := by decide +kernel
theorem dX7_stripOf_116 : decode cX7_stripOf 116 = .ok (.getfield 83, 3) := by decide +kernel
theorem dX7_stripOf_119 : decode cX7_stripOf 119 = .ok (.ireturn, 1) := by decide +kernel
theorem dX7_stripOf_120 : decode cX7_stripOf 120 = .ok (.aload_n 3, 1) := by decide +kernel
theorem dX7_stripOf_121 : decode cX7_stripOf 121 = .ok (.getfield 86, 3) := by decide +kernel
theorem dX7_stripOf_124 : decode cX7_stripOf 124 = .ok (.ireturn, 1) := by decide +kernel
theorem dX7_stripOf_125 : decode cX7_stripOf 125 = .ok (.aload_n 3, 1) := by decide +kernel
theorem dX7_stripOf_126 : decode cX7_stripOf 126 = .ok (.getfield 89, 3) := by decide +kernel
theorem dX7_stripOf_129 : decode cX7_stripOf 129 = .ok (.ireturn, 1) := by decide +kernel
theorem dX7_stripOf_130 : decode cX7_stripOf 130 = .ok (.aload_n 3, 1) := by decide +kernel
theorem dX7_stripOf_131 : decode cX7_stripOf 131 = .ok (.getfield 155, 3) := by decide +kernel
theorem dX7_stripOf_134 : decode cX7_stripOf 134 = .ok (.invokestatic 103, 3) := by decide +kernel
theorem dX7_stripOf_137 : decode cX7_stripOf 137 = .ok (.ireturn, 1) := by decide +kernel
theorem dX7_stripOf_138 : decode cX7_stripOf 138 = .ok (.aload_n 3, 1) := by decide +kernel
theorem dX7_stripOf_139 : decode cX7_stripOf 139 = .ok (.getfield 158, 3) := by decide +kernel
theorem dX7_stripOf_142 : decode cX7_stripOf 142 = .ok (.ireturn, 1) := by decide +kernel
theorem dX7_stripOf_143 : decode cX7_stripOf 143 = .ok (.aload_n 3, 1) := by decide +kernel
theorem dX7_stripOf_144 : decode cX7_stripOf 144 = .ok (.getfield 161, 3) := by decide +kernel
theorem dX7_stripOf_147 : decode cX7_stripOf 147 = .ok (.ireturn, 1) := by decide +kernel
theorem dX7_stripOf_148 : decode cX7_stripOf 148 = .ok (.aload_n 3, 1) := by decide +kernel
theorem dX7_stripOf_149 : decode cX7_stripOf 149 = .ok (.getfield 96, 3) := by decide +kernel
theorem dX7_stripOf_152 : decode cX7_stripOf 152 = .ok (.ireturn, 1) := by decide +kernel
theorem dX7_stripOf_153 : decode cX7_stripOf 153 = .ok (.aload_n 3, 1) := by decide +kernel
theorem dX7_stripOf_154 : decode cX7_stripOf 154 = .ok (.invokevirtual 99, 3) := by decide +kernel
theorem dX7_stripOf_157 : decode cX7_stripOf 157 = .ok (.invokestatic 103, 3) := by decide +kernel
theorem dX7_stripOf_160 : decode cX7_stripOf 160 = .ok (.ireturn, 1) := by decide +kernel
theorem dX7_stripOf_161 : decode cX7_stripOf 161 = .ok (.ldc 52, 2) := by decide +kernel
theorem dX7_stripOf_163 : decode cX7_stripOf 163 = .ok (.ireturn, 1) := by decide +kernel
theorem dX7_partOf_0 : decode cX7_partOf 0 = .ok (.iload_n 1, 1) := by decide +kernel
theorem dX7_partOf_1 : decode cX7_partOf 1 = .ok (.invokestatic 60, 3) := by decide +kernel
theorem dX7_partOf_4 : decode cX7_partOf 4 = .ok (.ifCond .eq 16, 3) := by decide +kernel
theorem dX7_partOf_7 : decode cX7_partOf 7 = .ok (.iload_n 2, 1) := by decide +kernel
theorem dX7_partOf_8 : decode cX7_partOf 8 = .ok (.ifCond .lt 12, 3) := by decide +kernel
theorem dX7_partOf_11 : decode cX7_partOf 11 = .ok (.iload_n 3, 1) := by decide +kernel
theorem dX7_partOf_12 : decode cX7_partOf 12 = .ok (.iconst 0, 1) := by decide +kernel
theorem dX7_partOf_13 : decode cX7_partOf 13 = .ok (.iconst 3, 1) := by decide +kernel
theorem dX7_partOf_14 : decode cX7_partOf 14 = .ok (.invokestatic 48, 3) := by decide +kernel
theorem dX7_partOf_17 : decode cX7_partOf 17 = .ok (.ifCond .ne 6, 3) := by decide +kernel
theorem dX7_partOf_20 : decode cX7_partOf 20 = .ok (.ldc 52, 2) := by decide +kernel
theorem dX7_partOf_22 : decode cX7_partOf 22 = .ok (.ireturn, 1) := by decide +kernel
theorem dX7_partOf_23 : decode cX7_partOf 23 = .ok (.aload_n 0, 1) := by decide +kernel
theorem dX7_partOf_24 : decode cX7_partOf 24 = .ok (.getfield 10, 3) := by decide +kernel
theorem dX7_partOf_27 : decode cX7_partOf 27 = .ok (.getfield 64, 3) := by decide +kernel
theorem dX7_partOf_30 : decode cX7_partOf 30 = .ok (.iload_n 1, 1) := by decide +kernel
theorem dX7_partOf_31 : decode cX7_partOf 31 = .ok (.aaload, 1) := by decide +kernel
theorem dX7_partOf_32 : decode cX7_partOf 32 = .ok (.astore 4, 2) := by decide +kernel
theorem dX7_partOf_34 : decode cX7_partOf 34 = .ok (.iload_n 2, 1) := by decide +kernel
theorem dX7_partOf_35 : decode cX7_partOf 35 = .ok (.aload 4, 2) := by decide +kernel
theorem dX7_partOf_37 : decode cX7_partOf 37 = .ok (.getfield 68, 3) := by decide +kernel
theorem dX7_partOf_40 : decode cX7_partOf 40 = .ok (.if_icmp .lt 6, 3) := by decide +kernel
theorem dX7_partOf_43 : decode cX7_partOf 43 = .ok (.ldc 164, 2) := by decide +kernel
theorem dX7_partOf_45 : decode cX7_partOf 45 = .ok (.ireturn, 1) := by decide +kernel
theorem dX7_partOf_46 : decode cX7_partOf 46 = .ok (.iload_n 3, 1) := by decide +kernel
theorem dX7_partOf_47 : decode cX7_partOf 47 = .ok (.tableswitch 49 0 2 #[25, 33, 41], 25) := by decide +kernel
theorem dX7_partOf_72 : decode cX7_partOf 72 = .ok (.aload 4, 2) := by decide +kernel
theorem dX7_partOf_74 : decode cX7_partOf 74 = .ok (.getfield 165, 3) := by decide +kernel
theorem dX7_partOf_77 : decode cX7_partOf 77 = .ok (.iload_n 2, 1) := by decide +kernel
theorem dX7_partOf_78 : decode cX7_partOf 78 = .ok (.iaload, 1) := by decide +kernel
theorem dX7_partOf_79 : decode cX7_partOf 79 = .ok (.ireturn, 1) := by decide +kernel
theorem dX7_partOf_80 : decode cX7_partOf 80 = .ok (.aload 4, 2) := by decide +kernel
theorem dX7_partOf_82 : decode cX7_partOf 82 = .ok (.getfield 168, 3) := by decide +kernel
theorem dX7_partOf_85 : decode cX7_partOf 85 = .ok (.iload_n 2, 1) := by decide +kernel
theorem dX7_partOf_86 : decode cX7_partOf 86 = .ok (.iaload, 1) := by decide +kernel
theorem dX7_partOf_87 : decode cX7_partOf 87 = .ok (.ireturn, 1) := by decide +kernel
theorem dX7_partOf_88 : decode cX7_partOf 88 = .ok (.aload 4, 2) := by decide +kernel
theorem dX7_partOf_90 : decode cX7_partOf 90 = .ok (.getfield 171, 3) := by decide +kernel
theorem dX7_partOf_93 : decode cX7_partOf 93 = .ok (.iload_n 2, 1) := by decide +kernel
theorem dX7_partOf_94 : decode cX7_partOf 94 = .ok (.iaload, 1) := by decide +kernel
theorem dX7_partOf_95 : decode cX7_partOf 95 = .ok (.ireturn, 1) := by decide +kernel
theorem dX7_partOf_96 : decode cX7_partOf 96 = .ok (.aload 4, 2) := by decide +kernel
theorem dX7_partOf_98 : decode cX7_partOf 98 = .ok (.iload_n 2, 1) := by decide +kernel
theorem dX7_partOf_99 : decode cX7_partOf 99 = .ok (.aload_n 0, 1) := by decide +kernel
theorem dX7_partOf_100 : decode cX7_partOf 100 = .ok (.getfield 10, 3) := by decide +kernel
theorem dX7_partOf_103 : decode cX7_partOf 103 = .ok (.getfield 56, 3) := by decide +kernel
theorem dX7_partOf_106 : decode cX7_partOf 106 = .ok (.invokevirtual 174, 3) := by decide +kernel
theorem dX7_partOf_109 : decode cX7_partOf 109 = .ok (.ireturn, 1) := by decide +kernel
theorem dX7_roomOf_0 : decode cX7_roomOf 0 = .ok (.iload_n 1, 1) := by decide +kernel
theorem dX7_roomOf_1 : decode cX7_roomOf 1 = .ok (.invokestatic 60, 3) := by decide +kernel
theorem dX7_roomOf_4 : decode cX7_roomOf 4 = .ok (.ifCond .ne 6, 3) := by decide +kernel
theorem dX7_roomOf_7 : decode cX7_roomOf 7 = .ok (.ldc 52, 2) := by decide +kernel
theorem dX7_roomOf_9 : decode cX7_roomOf 9 = .ok (.ireturn, 1) := by decide +kernel
theorem dX7_roomOf_10 : decode cX7_roomOf 10 = .ok (.aload_n 0, 1) := by decide +kernel
theorem dX7_roomOf_11 : decode cX7_roomOf 11 = .ok (.getfield 10, 3) := by decide +kernel
theorem dX7_roomOf_14 : decode cX7_roomOf 14 = .ok (.getfield 107, 3) := by decide +kernel
theorem dX7_roomOf_17 : decode cX7_roomOf 17 = .ok (.iload_n 1, 1) := by decide +kernel
theorem dX7_roomOf_18 : decode cX7_roomOf 18 = .ok (.aaload, 1) := by decide +kernel
theorem dX7_roomOf_19 : decode cX7_roomOf 19 = .ok (.astore_n 3, 1) := by decide +kernel
theorem dX7_roomOf_20 : decode cX7_roomOf 20 = .ok (.iload_n 2, 1) := by decide +kernel
theorem dX7_roomOf_21 : decode cX7_roomOf 21 = .ok (.tableswitch 111 0 6 #[43, 48, 53, 58, 66, 71, 91], 43) := by decide +kernel
theorem dX7_roomOf_64 : decode cX7_roomOf 64 = .ok (.aload_n 3, 1) := by decide +kernel
theorem dX7_roomOf_65 : decode cX7_roomOf 65 = .ok (.getfield 125, 3) := by decide +kernel
theorem dX7_roomOf_68 : decode cX7_roomOf 68 = .ok (.ireturn, 1) := by decide +kernel
theorem dX7_roomOf_69 : decode cX7_roomOf 69 = .ok (.aload_n 3, 1) := by decide +kernel
theorem dX7_roomOf_70 : decode cX7_roomOf 70 = .ok (.getfield 111, 3) := by decide +kernel
theorem dX7_roomOf_73 : decode cX7_roomOf 73 = .ok (.ireturn, 1) := by decide +kernel
theorem dX7_roomOf_74 : decode cX7_roomOf 74 = .ok (.aload_n 3, 1) := by decide +kernel
theorem dX7_roomOf_75 : decode cX7_roomOf 75 = .ok (.getfield 116, 3) := by decide +kernel
theorem dX7_roomOf_78 : decode cX7_roomOf 78 = .ok (.ireturn, 1) := by decide +kernel
theorem dX7_roomOf_79 : decode cX7_roomOf 79 = .ok (.aload_n 3, 1) := by decide +kernel
theorem dX7_roomOf_80 : decode cX7_roomOf 80 = .ok (.getfield 128, 3) := by decide +kernel
theorem dX7_roomOf_83 : decode cX7_roomOf 83 = .ok (.invokestatic 103, 3) := by decide +kernel
theorem dX7_roomOf_86 : decode cX7_roomOf 86 = .ok (.ireturn, 1) := by decide +kernel
theorem dX7_roomOf_87 : decode cX7_roomOf 87 = .ok (.aload_n 3, 1) := by decide +kernel
theorem dX7_roomOf_88 : decode cX7_roomOf 88 = .ok (.getfield 178, 3) := by decide +kernel
theorem dX7_roomOf_91 : decode cX7_roomOf 91 = .ok (.ireturn, 1) := by decide +kernel
theorem dX7_roomOf_92 : decode cX7_roomOf 92 = .ok (.aload_n 0, 1) := by decide +kernel
theorem dX7_roomOf_93 : decode cX7_roomOf 93 = .ok (.getfield 10, 3) := by decide +kernel
theorem dX7_roomOf_96 : decode cX7_roomOf 96 = .ok (.getfield 181, 3) := by decide +kernel
theorem dX7_roomOf_99 : decode cX7_roomOf 99 = .ok (.ifCond .ne 8, 3) := by decide +kernel
theorem dX7_roomOf_102 : decode cX7_roomOf 102 = .ok (.ldc 164, 2) := by decide +kernel
theorem dX7_roomOf_104 : decode cX7_roomOf 104 = .ok (.goto 7, 3) := by decide +kernel
theorem dX7_roomOf_107 : decode cX7_roomOf 107 = .ok (.aload_n 3, 1) := by decide +kernel
theorem dX7_roomOf_108 : decode cX7_roomOf 108 = .ok (.getfield 184, 3) := by decide +kernel
