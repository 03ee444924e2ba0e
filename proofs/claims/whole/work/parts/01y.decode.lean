theorem dX0_init_0 : decode cX0_init 0 = .ok (.aload_n 0, 1) := by decide +kernel
theorem dX0_init_1 : decode cX0_init 1 = .ok (.invokespecial 3, 3) := by decide +kernel
theorem dX0_init_4 : decode cX0_init 4 = .ok (.aload_n 0, 1) := by decide +kernel
theorem dX0_init_5 : decode cX0_init 5 = .ok (.bipush 120, 2) := by decide +kernel
theorem dX0_init_7 : decode cX0_init 7 = .ok (.newarray .int, 2) := by decide +kernel
theorem dX0_init_9 : decode cX0_init 9 = .ok (.putfield 9, 3) := by decide +kernel
theorem dX0_init_12 : decode cX0_init 12 = .ok (.aload_n 0, 1) := by decide +kernel
theorem dX0_init_13 : decode cX0_init 13 = .ok (.bipush 120, 2) := by decide +kernel
theorem dX0_init_15 : decode cX0_init 15 = .ok (.newarray .int, 2) := by decide +kernel
theorem dX0_init_17 : decode cX0_init 17 = .ok (.putfield 15, 3) := by decide +kernel
theorem dX0_init_20 : decode cX0_init 20 = .ok (.return_, 1) := by decide +kernel
theorem dX0_payOldestFirst_0 : decode cX0_payOldestFirst 0 = .ok (.aload_n 0, 1) := by decide +kernel
theorem dX0_payOldestFirst_1 : decode cX0_payOldestFirst 1 = .ok (.iload_n 1, 1) := by decide +kernel
theorem dX0_payOldestFirst_2 : decode cX0_payOldestFirst 2 = .ok (.putfield 18, 3) := by decide +kernel
theorem dX0_payOldestFirst_5 : decode cX0_payOldestFirst 5 = .ok (.iconst 0, 1) := by decide +kernel
theorem dX0_payOldestFirst_6 : decode cX0_payOldestFirst 6 = .ok (.istore_n 2, 1) := by decide +kernel
theorem dX0_payOldestFirst_7 : decode cX0_payOldestFirst 7 = .ok (.iload_n 2, 1) := by decide +kernel
theorem dX0_payOldestFirst_8 : decode cX0_payOldestFirst 8 = .ok (.aload_n 0, 1) := by decide +kernel
theorem dX0_payOldestFirst_9 : decode cX0_payOldestFirst 9 = .ok (.getfield 22, 3) := by decide +kernel
theorem dX0_payOldestFirst_12 : decode cX0_payOldestFirst 12 = .ok (.if_icmp .ge 47, 3) := by decide +kernel
theorem dX0_payOldestFirst_15 : decode cX0_payOldestFirst 15 = .ok (.aload_n 0, 1) := by decide +kernel
theorem dX0_payOldestFirst_16 : decode cX0_payOldestFirst 16 = .ok (.getfield 18, 3) := by decide +kernel
theorem dX0_payOldestFirst_19 : decode cX0_payOldestFirst 19 = .ok (.aload_n 0, 1) := by decide +kernel
theorem dX0_payOldestFirst_20 : decode cX0_payOldestFirst 20 = .ok (.getfield 9, 3) := by decide +kernel
theorem dX0_payOldestFirst_23 : decode cX0_payOldestFirst 23 = .ok (.iload_n 2, 1) := by decide +kernel
theorem dX0_payOldestFirst_24 : decode cX0_payOldestFirst 24 = .ok (.iaload, 1) := by decide +kernel
theorem dX0_payOldestFirst_25 : decode cX0_payOldestFirst 25 = .ok (.invokestatic 25, 3) := by decide +kernel
theorem dX0_payOldestFirst_28 : decode cX0_payOldestFirst 28 = .ok (.istore_n 3, 1) := by decide +kernel
theorem dX0_payOldestFirst_29 : decode cX0_payOldestFirst 29 = .ok (.aload_n 0, 1) := by decide +kernel
theorem dX0_payOldestFirst_30 : decode cX0_payOldestFirst 30 = .ok (.getfield 15, 3) := by decide +kernel
theorem dX0_payOldestFirst_33 : decode cX0_payOldestFirst 33 = .ok (.iload_n 2, 1) := by decide +kernel
theorem dX0_payOldestFirst_34 : decode cX0_payOldestFirst 34 = .ok (.aload_n 0, 1) := by decide +kernel
theorem dX0_payOldestFirst_35 : decode cX0_payOldestFirst 35 = .ok (.getfield 9, 3) := by decide +kernel
theorem dX0_payOldestFirst_38 : decode cX0_payOldestFirst 38 = .ok (.iload_n 2, 1) := by decide +kernel
theorem dX0_payOldestFirst_39 : decode cX0_payOldestFirst 39 = .ok (.iaload, 1) := by decide +kernel
theorem dX0_payOldestFirst_40 : decode cX0_payOldestFirst 40 = .ok (.iload_n 3, 1) := by decide +kernel
theorem dX0_payOldestFirst_41 : decode cX0_payOldestFirst 41 = .ok (.isub, 1) := by decide +kernel
theorem dX0_payOldestFirst_42 : decode cX0_payOldestFirst 42 = .ok (.iastore, 1) := by decide +kernel
theorem dX0_payOldestFirst_43 : decode cX0_payOldestFirst 43 = .ok (.aload_n 0, 1) := by decide +kernel
theorem dX0_payOldestFirst_44 : decode cX0_payOldestFirst 44 = .ok (.dup, 1) := by decide +kernel
theorem dX0_payOldestFirst_45 : decode cX0_payOldestFirst 45 = .ok (.getfield 18, 3) := by decide +kernel
theorem dX0_payOldestFirst_48 : decode cX0_payOldestFirst 48 = .ok (.iload_n 3, 1) := by decide +kernel
theorem dX0_payOldestFirst_49 : decode cX0_payOldestFirst 49 = .ok (.isub, 1) := by decide +kernel
theorem dX0_payOldestFirst_50 : decode cX0_payOldestFirst 50 = .ok (.putfield 18, 3) := by decide +kernel
theorem dX0_payOldestFirst_53 : decode cX0_payOldestFirst 53 = .ok (.iinc 2 1, 3) := by decide +kernel
theorem dX0_payOldestFirst_56 : decode cX0_payOldestFirst 56 = .ok (.goto (-49), 3) := by decide +kernel
theorem dX0_payOldestFirst_59 : decode cX0_payOldestFirst 59 = .ok (.return_, 1) := by decide +kernel
theorem dX0_dueUpTo_0 : decode cX0_dueUpTo 0 = .ok (.iconst 0, 1) := by decide +kernel
theorem dX0_dueUpTo_1 : decode cX0_dueUpTo 1 = .ok (.istore_n 2, 1) := by decide +kernel
theorem dX0_dueUpTo_2 : decode cX0_dueUpTo 2 = .ok (.iconst 0, 1) := by decide +kernel
theorem dX0_dueUpTo_3 : decode cX0_dueUpTo 3 = .ok (.istore_n 3, 1) := by decide +kernel
theorem dX0_dueUpTo_4 : decode cX0_dueUpTo 4 = .ok (.iload_n 3, 1) := by decide +kernel
theorem dX0_dueUpTo_5 : decode cX0_dueUpTo 5 = .ok (.iload_n 1, 1) := by decide +kernel
theorem dX0_dueUpTo_6 : decode cX0_dueUpTo 6 = .ok (.if_icmp .gt 18, 3) := by decide +kernel
theorem dX0_dueUpTo_9 : decode cX0_dueUpTo 9 = .ok (.iload_n 2, 1) := by decide +kernel
theorem dX0_dueUpTo_10 : decode cX0_dueUpTo 10 = .ok (.aload_n 0, 1) := by decide +kernel
theorem dX0_dueUpTo_11 : decode cX0_dueUpTo 11 = .ok (.getfield 9, 3) := by decide +kernel
theorem dX0_dueUpTo_14 : decode cX0_dueUpTo 14 = .ok (.iload_n 3, 1) := by decide +kernel
theorem dX0_dueUpTo_15 : decode cX0_dueUpTo 15 = .ok (.iaload, 1) := by decide +kernel
theorem dX0_dueUpTo_16 : decode cX0_dueUpTo 16 = .ok (.iadd, 1) := by decide +kernel
theorem dX0_dueUpTo_17 : decode cX0_dueUpTo 17 = .ok (.istore_n 2, 1) := by decide +kernel
theorem dX0_dueUpTo_18 : decode cX0_dueUpTo 18 = .ok (.iinc 3 1, 3) := by decide +kernel
theorem dX0_dueUpTo_21 : decode cX0_dueUpTo 21 = .ok (.goto (-17), 3) := by decide +kernel
theorem dX0_dueUpTo_24 : decode cX0_dueUpTo 24 = .ok (.iload_n 2, 1) := by decide +kernel
theorem dX0_dueUpTo_25 : decode cX0_dueUpTo 25 = .ok (.ireturn, 1) := by decide +kernel
theorem dX0_leftInAll_0 : decode cX0_leftInAll 0 = .ok (.iconst 0, 1) := by decide +kernel
theorem dX0_leftInAll_1 : decode cX0_leftInAll 1 = .ok (.istore_n 1, 1) := by decide +kernel
theorem dX0_leftInAll_2 : decode cX0_leftInAll 2 = .ok (.iconst 0, 1) := by decide +kernel
theorem dX0_leftInAll_3 : decode cX0_leftInAll 3 = .ok (.istore_n 2, 1) := by decide +kernel
theorem dX0_leftInAll_4 : decode cX0_leftInAll 4 = .ok (.iload_n 2, 1) := by decide +kernel
theorem dX0_leftInAll_5 : decode cX0_leftInAll 5 = .ok (.aload_n 0, 1) := by decide +kernel
theorem dX0_leftInAll_6 : decode cX0_leftInAll 6 = .ok (.getfield 22, 3) := by decide +kernel
theorem dX0_leftInAll_9 : decode cX0_leftInAll 9 = .ok (.if_icmp .ge 18, 3) := by decide +kernel
theorem dX0_leftInAll_12 : decode cX0_leftInAll 12 = .ok (.iload_n 1, 1) := by decide +kernel
theorem dX0_leftInAll_13 : decode cX0_leftInAll 13 = .ok (.aload_n 0, 1) := by decide +kernel
theorem dX0_leftInAll_14 : decode cX0_leftInAll 14 = .ok (.getfield 15, 3) := by decide +kernel
theorem dX0_leftInAll_17 : decode cX0_leftInAll 17 = .ok (.iload_n 2, 1) := by decide +kernel
theorem dX0_leftInAll_18 : decode cX0_leftInAll 18 = .ok (.iaload, 1) := by decide +kernel
theorem dX0_leftInAll_19 : decode cX0_leftInAll 19 = .ok (.iadd, 1) := by decide +kernel
theorem dX0_leftInAll_20 : decode cX0_leftInAll 20 = .ok (.istore_n 1, 1) := by decide +kernel
theorem dX0_leftInAll_21 : decode cX0_leftInAll 21 = .ok (.iinc 2 1, 3) := by decide +kernel
theorem dX0_leftInAll_24 : decode cX0_leftInAll 24 = .ok (.goto (-20), 3) := by decide +kernel
theorem dX0_leftInAll_27 : decode cX0_leftInAll 27 = .ok (.iload_n 1, 1) := by decide +kernel
theorem dX0_leftInAll_28 : decode cX0_leftInAll 28 = .ok (.ireturn, 1) := by decide +kernel
theorem dX0_firstLeft_0 : decode cX0_firstLeft 0 = .ok (.iconst 0, 1) := by decide +kernel
theorem dX0_firstLeft_1 : decode cX0_firstLeft 1 = .ok (.istore_n 1, 1) := by decide +kernel
theorem dX0_firstLeft_2 : decode cX0_firstLeft 2 = .ok (.iload_n 1, 1) := by decide +kernel
theorem dX0_firstLeft_3 : decode cX0_firstLeft 3 = .ok (.aload_n 0, 1) := by decide +kernel
theorem dX0_firstLeft_4 : decode cX0_firstLeft 4 = .ok (.getfield 22, 3) := by decide +kernel
theorem dX0_firstLeft_7 : decode cX0_firstLeft 7 = .ok (.if_icmp .ge 20, 3) := by decide +kernel
theorem dX0_firstLeft_10 : decode cX0_firstLeft 10 = .ok (.aload_n 0, 1) := by decide +kernel
theorem dX0_firstLeft_11 : decode cX0_firstLeft 11 = .ok (.getfield 15, 3) := by decide +kernel
theorem dX0_firstLeft_14 : decode cX0_firstLeft 14 = .ok (.iload_n 1, 1) := by decide +kernel
theorem dX0_firstLeft_15 : decode cX0_firstLeft 15 = .ok (.iaload, 1) := by decide +kernel
theorem dX0_firstLeft_16 : decode cX0_firstLeft 16 = .ok (.ifCond .le 5, 3) := by decide +kernel
theorem dX0_firstLeft_19 : decode cX0_firstLeft 19 = .ok (.iload_n 1, 1) := by decide +kernel
theorem dX0_firstLeft_20 : decode cX0_firstLeft 20 = .ok (.ireturn, 1) := by decide +kernel
theorem dX0_firstLeft_21 : decode cX0_firstLeft 21 = .ok (.iinc 1 1, 3) := by decide +kernel
theorem dX0_firstLeft_24 : decode cX0_firstLeft 24 = .ok (.goto (-22), 3) := by decide +kernel
theorem dX0_firstLeft_27 : decode cX0_firstLeft 27 = .ok (.ldc 31, 2) := by decide +kernel
theorem dX0_firstLeft_29 : decode cX0_firstLeft 29 = .ok (.ireturn, 1) := by decide +kernel
theorem dX0_interestUpTo_0 : decode cX0_interestUpTo 0 = .ok (.iconst 0, 1) := by decide +kernel
theorem dX0_interestUpTo_1 : decode cX0_interestUpTo 1 = .ok (.istore_n 3, 1) := by decide +kernel
theorem dX0_interestUpTo_2 : decode cX0_interestUpTo 2 = .ok (.iconst 0, 1) := by decide +kernel
theorem dX0_interestUpTo_3 : decode cX0_interestUpTo 3 = .ok (.istore 4, 2) := by decide +kernel
theorem dX0_interestUpTo_5 : decode cX0_interestUpTo 5 = .ok (.iload 4, 2) := by decide +kernel
theorem dX0_interestUpTo_7 : decode cX0_interestUpTo 7 = .ok (.iload_n 1, 1) := by decide +kernel
theorem dX0_interestUpTo_8 : decode cX0_interestUpTo 8 = .ok (.if_icmp .gt 25, 3) := by decide +kernel
theorem dX0_interestUpTo_11 : decode cX0_interestUpTo 11 = .ok (.iload_n 3, 1) := by decide +kernel
theorem dX0_interestUpTo_12 : decode cX0_interestUpTo 12 = .ok (.aload_n 0, 1) := by decide +kernel
theorem dX0_interestUpTo_13 : decode cX0_interestUpTo 13 = .ok (.getfield 15, 3) := by decide +kernel
theorem dX0_interestUpTo_16 : decode cX0_interestUpTo 16 = .ok (.iload 4, 2) := by decide +kernel
theorem dX0_interestUpTo_18 : decode cX0_interestUpTo 18 = .ok (.iaload, 1) := by decide +kernel
theorem dX0_interestUpTo_19 : decode cX0_interestUpTo 19 = .ok (.iload_n 2, 1) := by decide +kernel
theorem dX0_interestUpTo_20 : decode cX0_interestUpTo 20 = .ok (.imul, 1) := by decide +kernel
theorem dX0_interestUpTo_21 : decode cX0_interestUpTo 21 = .ok (.sipush 10000, 3) := by decide +kernel
theorem dX0_interestUpTo_24 : decode cX0_interestUpTo 24 = .ok (.idiv, 1) := by decide +kernel
theorem dX0_interestUpTo_25 : decode cX0_interestUpTo 25 = .ok (.iadd, 1) := by decide +kernel
theorem dX0_interestUpTo_26 : decode cX0_interestUpTo 26 = .ok (.istore_n 3, 1) := by decide +kernel
theorem dX0_interestUpTo_27 : decode cX0_interestUpTo 27 = .ok (.iinc 4 1, 3) := by decide +kernel
theorem dX0_interestUpTo_30 : decode cX0_interestUpTo 30 = .ok (.goto (-25), 3) := by decide +kernel
theorem dX0_interestUpTo_33 : decode cX0_interestUpTo 33 = .ok (.iload_n 3, 1) := by decide +kernel
theorem dX0_interestUpTo_34 : decode cX0_interestUpTo 34 = .ok (.ireturn, 1) := by decide +kernel
theorem dX1_init_0 : decode cX1_init 0 = .ok (.aload_n 0, 1) := by decide +kernel
theorem dX1_init_1 : decode cX1_init 1 = .ok (.invokespecial 3, 3) := by decide +kernel
theorem dX1_init_4 : decode cX1_init 4 = .ok (.aload_n 0, 1) := by decide +kernel
theorem dX1_init_5 : decode cX1_init 5 = .ok (.bipush 100, 2) := by decide +kernel
theorem dX1_init_7 : decode cX1_init 7 = .ok (.newarray .int, 2) := by decide +kernel
theorem dX1_init_9 : decode cX1_init 9 = .ok (.putfield 9, 3) := by decide +kernel
theorem dX1_init_12 : decode cX1_init 12 = .ok (.aload_n 0, 1) := by decide +kernel
theorem dX1_init_13 : decode cX1_init 13 = .ok (.bipush 100, 2) := by decide +kernel
theorem dX1_init_15 : decode cX1_init 15 = .ok (.newarray .int, 2) := by decide +kernel
theorem dX1_init_17 : decode cX1_init 17 = .ok (.putfield 15, 3) := by decide +kernel
theorem dX1_init_20 : decode cX1_init 20 = .ok (.aload_n 0, 1) := by decide +kernel
theorem dX1_init_21 : decode cX1_init 21 = .ok (.bipush 100, 2) := by decide +kernel
theorem dX1_init_23 : decode cX1_init 23 = .ok (.newarray .int, 2) := by decide +kernel
theorem dX1_init_25 : decode cX1_init 25 = .ok (.putfield 18, 3) := by decide +kernel
theorem dX1_init_28 : decode cX1_init 28 = .ok (.aload_n 0, 1) := by decide +kernel
theorem dX1_init_29 : decode cX1_init 29 = .ok (.iconst 1, 1) := by decide +kernel
theorem dX1_init_30 : decode cX1_init 30 = .ok (.putfield 21, 3) := by decide +kernel
theorem dX1_init_33 : decode cX1_init 33 = .ok (.return_, 1) := by decide +kernel
theorem dX1_add_0 : decode cX1_add 0 = .ok (.aload_n 0, 1) := by decide +kernel
theorem dX1_add_1 : decode cX1_add 1 = .ok (.getfield 9, 3) := by decide +kernel
theorem dX1_add_4 : decode cX1_add 4 = .ok (.aload_n 0, 1) := by decide +kernel
theorem dX1_add_5 : decode cX1_add 5 = .ok (.getfield 25, 3) := by decide +kernel
theorem dX1_add_8 : decode cX1_add 8 = .ok (.iload_n 1, 1) := by decide +kernel
theorem dX1_add_9 : decode cX1_add 9 = .ok (.iastore, 1) := by decide +kernel
theorem dX1_add_10 : decode cX1_add 10 = .ok (.aload_n 0, 1) := by decide +kernel
theorem dX1_add_11 : decode cX1_add 11 = .ok (.getfield 15, 3) := by decide +kernel
theorem dX1_add_14 : decode cX1_add 14 = .ok (.aload_n 0, 1) := by decide +kernel
theorem dX1_add_15 : decode cX1_add 15 = .ok (.getfield 25, 3) := by decide +kernel
theorem dX1_add_18 : decode cX1_add 18 = .ok (.iload_n 2, 1) := by decide +kernel
theorem dX1_add_19 : decode cX1_add 19 = .ok (.iastore, 1) := by decide +kernel
theorem dX1_add_20 : decode cX1_add 20 = .ok (.aload_n 0, 1) := by decide +kernel
theorem dX1_add_21 : decode cX1_add 21 = .ok (.getfield 18, 3) := by decide +kernel
theorem dX1_add_24 : decode cX1_add 24 = .ok (.aload_n 0, 1) := by decide +kernel
theorem dX1_add_25 : decode cX1_add 25 = .ok (.getfield 25, 3) := by decide +kernel
theorem dX1_add_28 : decode cX1_add 28 = .ok (.iload_n 3, 1) := by decide +kernel
theorem dX1_add_29 : decode cX1_add 29 = .ok (.iastore, 1) := by decide +kernel
theorem dX1_add_30 : decode cX1_add 30 = .ok (.aload_n 0, 1) := by decide +kernel
theorem dX1_add_31 : decode cX1_add 31 = .ok (.dup, 1) := by decide +kernel
theorem dX1_add_32 : decode cX1_add 32 = .ok (.getfield 25, 3) := by decide +kernel
theorem dX1_add_35 : decode cX1_add 35 = .ok (.iconst 1, 1) := by decide +kernel
theorem dX1_add_36 : decode cX1_add 36 = .ok (.iadd, 1) := by decide +kernel
theorem dX1_add_37 : decode cX1_add 37 = .ok (.putfield 25, 3) := by decide +kernel
theorem dX1_add_40 : decode cX1_add 40 = .ok (.aload_n 0, 1) := by decide +kernel
theorem dX1_add_41 : decode cX1_add 41 = .ok (.getfield 25, 3) := by decide +kernel
theorem dX1_add_44 : decode cX1_add 44 = .ok (.iconst 1, 1) := by decide +kernel
theorem dX1_add_45 : decode cX1_add 45 = .ok (.isub, 1) := by decide +kernel
theorem dX1_add_46 : decode cX1_add 46 = .ok (.ireturn, 1) := by decide +kernel
theorem dX1_coinsIn_0 : decode cX1_coinsIn 0 = .ok (.iconst 0, 1) := by decide +kernel
theorem dX1_coinsIn_1 : decode cX1_coinsIn 1 = .ok (.istore_n 3, 1) := by decide +kernel
theorem dX1_coinsIn_2 : decode cX1_coinsIn 2 = .ok (.iconst 0, 1) := by decide +kernel
theorem dX1_coinsIn_3 : decode cX1_coinsIn 3 = .ok (.istore 4, 2) := by decide +kernel
theorem dX1_coinsIn_5 : decode cX1_coinsIn 5 = .ok (.iload 4, 2) := by decide +kernel
theorem dX1_coinsIn_7 : decode cX1_coinsIn 7 = .ok (.aload_n 0, 1) := by decide +kernel
theorem dX1_coinsIn_8 : decode cX1_coinsIn 8 = .ok (.getfield 25, 3) := by decide +kernel
theorem dX1_coinsIn_11 : decode cX1_coinsIn 11 = .ok (.if_icmp .ge 40, 3) := by decide +kernel
theorem dX1_coinsIn_14 : decode cX1_coinsIn 14 = .ok (.aload_n 0, 1) := by decide +kernel
theorem dX1_coinsIn_15 : decode cX1_coinsIn 15 = .ok (.getfield 9, 3) := by decide +kernel
theorem dX1_coinsIn_18 : decode cX1_coinsIn 18 = .ok (.iload 4, 2) := by decide +kernel
theorem dX1_coinsIn_20 : decode cX1_coinsIn 20 = .ok (.iaload, 1) := by decide +kernel
theorem dX1_coinsIn_21 : decode cX1_coinsIn 21 = .ok (.iload_n 1, 1) := by decide +kernel
theorem dX1_coinsIn_22 : decode cX1_coinsIn 22 = .ok (.if_icmp .ne 23, 3) := by decide +kernel
theorem dX1_coinsIn_25 : decode cX1_coinsIn 25 = .ok (.aload_n 0, 1) := by decide +kernel
theorem dX1_coinsIn_26 : decode cX1_coinsIn 26 = .ok (.iload 4, 2) := by decide +kernel
theorem dX1_coinsIn_28 : decode cX1_coinsIn 28 = .ok (.invokevirtual 28, 3) := by decide +kernel
theorem dX1_coinsIn_31 : decode cX1_coinsIn 31 = .ok (.iload_n 2, 1) := by decide +kernel
theorem dX1_coinsIn_32 : decode cX1_coinsIn 32 = .ok (.if_icmp .ne 13, 3) := by decide +kernel
theorem dX1_coinsIn_35 : decode cX1_coinsIn 35 = .ok (.iload_n 3, 1) := by decide +kernel
theorem dX1_coinsIn_36 : decode cX1_coinsIn 36 = .ok (.aload_n 0, 1) := by decide +kernel
theorem dX1_coinsIn_37 : decode cX1_coinsIn 37 = .ok (.getfield 15, 3) := by decide +kernel
theorem dX1_coinsIn_40 : decode cX1_coinsIn 40 = .ok (.iload 4, 2) := by decide +kernel
theorem dX1_coinsIn_42 : decode cX1_coinsIn 42 = .ok (.iaload, 1) := by decide +kernel
theorem dX1_coinsIn_43 : decode cX1_coinsIn 43 = .ok (.iadd, 1) := by decide +kernel
theorem dX1_coinsIn_44 : decode cX1_coinsIn 44 = .ok (.istore_n 3, 1) := by decide +kernel
theorem dX1_coinsIn_45 : decode cX1_coinsIn 45 = .ok (.iinc 4 1, 3) := by decide +kernel
theorem dX1_coinsIn_48 : decode cX1_coinsIn 48 = .ok (.goto (-43), 3) := by decide +kernel
theorem dX1_coinsIn_51 : decode cX1_coinsIn 51 = .ok (.iload_n 3, 1) := by decide +kernel
theorem dX1_coinsIn_52 : decode cX1_coinsIn 52 = .ok (.ireturn, 1) := by decide +kernel
theorem dX1_paysUpTo_0 : decode cX1_paysUpTo 0 = .ok (.iconst 0, 1) := by decide +kernel
theorem dX1_paysUpTo_1 : decode cX1_paysUpTo 1 = .ok (.istore_n 2, 1) := by decide +kernel
theorem dX1_paysUpTo_2 : decode cX1_paysUpTo 2 = .ok (.iconst 0, 1) := by decide +kernel
theorem dX1_paysUpTo_3 : decode cX1_paysUpTo 3 = .ok (.istore_n 3, 1) := by decide +kernel
theorem dX1_paysUpTo_4 : decode cX1_paysUpTo 4 = .ok (.iload_n 3, 1) := by decide +kernel
theorem dX1_paysUpTo_5 : decode cX1_paysUpTo 5 = .ok (.aload_n 0, 1) := by decide +kernel
theorem dX1_paysUpTo_6 : decode cX1_paysUpTo 6 = .ok (.getfield 25, 3) := by decide +kernel
theorem dX1_paysUpTo_9 : decode cX1_paysUpTo 9 = .ok (.if_icmp .ge 36, 3) := by decide +kernel
theorem dX1_paysUpTo_12 : decode cX1_paysUpTo 12 = .ok (.aload_n 0, 1) := by decide +kernel
theorem dX1_paysUpTo_13 : decode cX1_paysUpTo 13 = .ok (.getfield 9, 3) := by decide +kernel
theorem dX1_paysUpTo_16 : decode cX1_paysUpTo 16 = .ok (.iload_n 3, 1) := by decide +kernel
theorem dX1_paysUpTo_17 : decode cX1_paysUpTo 17 = .ok (.iaload, 1) := by decide +kernel
theorem dX1_paysUpTo_18 : decode cX1_paysUpTo 18 = .ok (.iload_n 1, 1) := by decide +kernel
theorem dX1_paysUpTo_19 : decode cX1_paysUpTo 19 = .ok (.if_icmp .gt 20, 3) := by decide +kernel
theorem dX1_paysUpTo_22 : decode cX1_paysUpTo 22 = .ok (.aload_n 0, 1) := by decide +kernel
theorem dX1_paysUpTo_23 : decode cX1_paysUpTo 23 = .ok (.iload_n 3, 1) := by decide +kernel
theorem dX1_paysUpTo_24 : decode cX1_paysUpTo 24 = .ok (.invokevirtual 28, 3) := by decide +kernel
theorem dX1_paysUpTo_27 : decode cX1_paysUpTo 27 = .ok (.ifCond .eq 12, 3) := by decide +kernel
theorem dX1_paysUpTo_30 : decode cX1_paysUpTo 30 = .ok (.iload_n 2, 1) := by decide +kernel
theorem dX1_paysUpTo_31 : decode cX1_paysUpTo 31 = .ok (.aload_n 0, 1) := by decide +kernel
theorem dX1_paysUpTo_32 : decode cX1_paysUpTo 32 = .ok (.getfield 15, 3) := by decide +kernel
theorem dX1_paysUpTo_35 : decode cX1_paysUpTo 35 = .ok (.iload_n 3, 1) := by decide +kernel
theorem dX1_paysUpTo_36 : decode cX1_paysUpTo 36 = .ok (.iaload, 1) := by decide +kernel
theorem dX1_paysUpTo_37 : decode cX1_paysUpTo 37 = .ok (.iadd, 1) := by decide +kernel
theorem dX1_paysUpTo_38 : decode cX1_paysUpTo 38 = .ok (.istore_n 2, 1) := by decide +kernel
theorem dX1_paysUpTo_39 : decode cX1_paysUpTo 39 = .ok (.iinc 3 1, 3) := by decide +kernel
theorem dX1_paysUpTo_42 : decode cX1_paysUpTo 42 = .ok (.goto (-38), 3) := by decide +kernel
theorem dX1_paysUpTo_45 : decode cX1_paysUpTo 45 = .ok (.iload_n 2, 1) := by decide +kernel
theorem dX1_paysUpTo_46 : decode cX1_paysUpTo 46 = .ok (.ireturn, 1) := by decide +kernel
theorem dX1_lineWithCoin_0 : decode cX1_lineWithCoin 0 = .ok (.iconst 0, 1) := by decide +kernel
theorem dX1_lineWithCoin_1 : decode cX1_lineWithCoin 1 = .ok (.istore_n 3, 1) := by decide +kernel
theorem dX1_lineWithCoin_2 : decode cX1_lineWithCoin 2 = .ok (.iconst 0, 1) := by decide +kernel
theorem dX1_lineWithCoin_3 : decode cX1_lineWithCoin 3 = .ok (.istore 4, 2) := by decide +kernel
theorem dX1_lineWithCoin_5 : decode cX1_lineWithCoin 5 = .ok (.iload 4, 2) := by decide +kernel
theorem dX1_lineWithCoin_7 : decode cX1_lineWithCoin 7 = .ok (.iload_n 2, 1) := by decide +kernel
theorem dX1_lineWithCoin_8 : decode cX1_lineWithCoin 8 = .ok (.if_icmp .gt 69, 3) := by decide +kernel
theorem dX1_lineWithCoin_11 : decode cX1_lineWithCoin 11 = .ok (.iconst 0, 1) := by decide +kernel
theorem dX1_lineWithCoin_12 : decode cX1_lineWithCoin 12 = .ok (.istore 5, 2) := by decide +kernel
theorem dX1_lineWithCoin_14 : decode cX1_lineWithCoin 14 = .ok (.iload 5, 2) := by decide +kernel
theorem dX1_lineWithCoin_16 : decode cX1_lineWithCoin 16 = .ok (.aload_n 0, 1) := by decide +kernel
theorem dX1_lineWithCoin_17 : decode cX1_lineWithCoin 17 = .ok (.getfield 25, 3) := by decide +kernel
theorem dX1_lineWithCoin_20 : decode cX1_lineWithCoin 20 = .ok (.if_icmp .ge 51, 3) := by decide +kernel
theorem dX1_lineWithCoin_23 : decode cX1_lineWithCoin 23 = .ok (.aload_n 0, 1) := by decide +kernel
theorem dX1_lineWithCoin_24 : decode cX1_lineWithCoin 24 = .ok (.getfield 9, 3) := by decide +kernel
theorem dX1_lineWithCoin_27 : decode cX1_lineWithCoin 27 = .ok (.iload 5, 2) := by decide +kernel
theorem dX1_lineWithCoin_29 : decode cX1_lineWithCoin 29 = .ok (.iaload, 1) := by decide +kernel
theorem dX1_lineWithCoin_30 : decode cX1_lineWithCoin 30 = .ok (.iload 4, 2) := by decide +kernel
theorem dX1_lineWithCoin_32 : decode cX1_lineWithCoin 32 = .ok (.if_icmp .ne 33, 3) := by decide +kernel
theorem dX1_lineWithCoin_35 : decode cX1_lineWithCoin 35 = .ok (.aload_n 0, 1) := by decide +kernel
theorem dX1_lineWithCoin_36 : decode cX1_lineWithCoin 36 = .ok (.iload 5, 2) := by decide +kernel
theorem dX1_lineWithCoin_38 : decode cX1_lineWithCoin 38 = .ok (.invokevirtual 28, 3) := by decide +kernel
theorem dX1_lineWithCoin_41 : decode cX1_lineWithCoin 41 = .ok (.ifCond .ne 6, 3) := by decide +kernel
theorem dX1_lineWithCoin_44 : decode cX1_lineWithCoin 44 = .ok (.goto 21, 3) := by decide +kernel
theorem dX1_lineWithCoin_47 : decode cX1_lineWithCoin 47 = .ok (.iload_n 3, 1) := by decide +kernel
theorem dX1_lineWithCoin_48 : decode cX1_lineWithCoin 48 = .ok (.aload_n 0, 1) := by decide +kernel
theorem dX1_lineWithCoin_49 : decode cX1_lineWithCoin 49 = .ok (.getfield 15, 3) := by decide +kernel
theorem dX1_lineWithCoin_52 : decode cX1_lineWithCoin 52 = .ok (.iload 5, 2) := by decide +kernel
theorem dX1_lineWithCoin_54 : decode cX1_lineWithCoin 54 = .ok (.iaload, 1) := by decide +kernel
theorem dX1_lineWithCoin_55 : decode cX1_lineWithCoin 55 = .ok (.iadd, 1) := by decide +kernel
theorem dX1_lineWithCoin_56 : decode cX1_lineWithCoin 56 = .ok (.istore_n 3, 1) := by decide +kernel
theorem dX1_lineWithCoin_57 : decode cX1_lineWithCoin 57 = .ok (.iload_n 3, 1) := by decide +kernel
theorem dX1_lineWithCoin_58 : decode cX1_lineWithCoin 58 = .ok (.iload_n 1, 1) := by decide +kernel
theorem dX1_lineWithCoin_59 : decode cX1_lineWithCoin 59 = .ok (.if_icmp .lt 6, 3) := by decide +kernel
theorem dX1_lineWithCoin_62 : decode cX1_lineWithCoin 62 = .ok (.iload 5, 2) := by decide +kernel
theorem dX1_lineWithCoin_64 : decode cX1_lineWithCoin 64 = .ok (.ireturn, 1) := by decide +kernel
theorem dX1_lineWithCoin_65 : decode cX1_lineWithCoin 65 = .ok (.iinc 5 1, 3) := by decide +kernel
theorem dX1_lineWithCoin_68 : decode cX1_lineWithCoin 68 = .ok (.goto (-54), 3) := by decide +kernel
theorem dX1_lineWithCoin_71 : decode cX1_lineWithCoin 71 = .ok (.iinc 4 1, 3) := by decide +kernel
theorem dX1_lineWithCoin_74 : decode cX1_lineWithCoin 74 = .ok (.goto (-69), 3) := by decide +kernel
theorem dX1_lineWithCoin_77 : decode cX1_lineWithCoin 77 = .ok (.ldc 32, 2) := by decide +kernel
theorem dX1_lineWithCoin_79 : decode cX1_lineWithCoin 79 = .ok (.ireturn, 1) := by decide +kernel
theorem dX1_isPay_0 : decode cX1_isPay 0 = .ok (.aload_n 0, 1) := by decide +kernel
theorem dX1_isPay_1 : decode cX1_isPay 1 = .ok (.getfield 21, 3) := by decide +kernel
theorem dX1_isPay_4 : decode cX1_isPay 4 = .ok (.aload_n 0, 1) := by decide +kernel
theorem dX1_isPay_5 : decode cX1_isPay 5 = .ok (.getfield 18, 3) := by decide +kernel
theorem dX1_isPay_8 : decode cX1_isPay 8 = .ok (.iload_n 1, 1) := by decide +kernel
theorem dX1_isPay_9 : decode cX1_isPay 9 = .ok (.iaload, 1) := by decide +kernel
theorem dX1_isPay_10 : decode cX1_isPay 10 = .ok (.ishr, 1) := by decide +kernel
theorem dX1_isPay_11 : decode cX1_isPay 11 = .ok (.iconst 1, 1) := by decide +kernel
theorem dX1_isPay_12 : decode cX1_isPay 12 = .ok (.iand, 1) := by decide +kernel
theorem dX1_isPay_13 : decode cX1_isPay 13 = .ok (.iconst 1, 1) := by decide +kernel
theorem dX1_isPay_14 : decode cX1_isPay 14 = .ok (.if_icmp .ne 7, 3) := by decide +kernel
theorem dX1_isPay_17 : decode cX1_isPay 17 = .ok (.iconst 1, 1) := by decide +kernel
theorem dX1_isPay_18 : decode cX1_isPay 18 = .ok (.goto 4, 3) := by decide +kernel
theorem dX1_isPay_21 : decode cX1_isPay 21 = .ok (.iconst 0, 1) := by decide +kernel
theorem dX1_isPay_22 : decode cX1_isPay 22 = .ok (.ireturn, 1) := by decide +kernel
theorem dX2_init_0 : decode cX2_init 0 = .ok (.aload_n 0, 1) := by decide +kernel
theorem dX2_init_1 : decode cX2_init 1 = .ok (.invokespecial 3, 3) := by decide +kernel
theorem dX2_init_4 : decode cX2_init 4 = .ok (.aload_n 0, 1) := by decide +kernel
theorem dX2_init_5 : decode cX2_init 5 = .ok (.bipush 80, 2) := by decide +kernel
theorem dX2_init_7 : decode cX2_init 7 = .ok (.newarray .int, 2) := by decide +kernel
theorem dX2_init_9 : decode cX2_init 9 = .ok (.putfield 9, 3) := by decide +kernel
theorem dX2_init_12 : decode cX2_init 12 = .ok (.aload_n 0, 1) := by decide +kernel
theorem dX2_init_13 : decode cX2_init 13 = .ok (.bipush 80, 2) := by decide +kernel
theorem dX2_init_15 : decode cX2_init 15 = .ok (.newarray .int, 2) := by decide +kernel
theorem dX2_init_17 : decode cX2_init 17 = .ok (.putfield 15, 3) := by decide +kernel
theorem dX2_init_20 : decode cX2_init 20 = .ok (.aload_n 0, 1) := by decide +kernel
theorem dX2_init_21 : decode cX2_init 21 = .ok (.bipush 80, 2) := by decide +kernel
theorem dX2_init_23 : decode cX2_init 23 = .ok (.newarray .int, 2) := by decide +kernel
theorem dX2_init_25 : decode cX2_init 25 = .ok (.putfield 18, 3) := by decide +kernel
theorem dX2_init_28 : decode cX2_init 28 = .ok (.aload_n 0, 1) := by decide +kernel
theorem dX2_init_29 : decode cX2_init 29 = .ok (.bipush 80, 2) := by decide +kernel
theorem dX2_init_31 : decode cX2_init 31 = .ok (.newarray .int, 2) := by decide +kernel
theorem dX2_init_33 : decode cX2_init 33 = .ok (.putfield 21, 3) := by decide +kernel
theorem dX2_init_36 : decode cX2_init 36 = .ok (.aload_n 0, 1) := by decide +kernel
theorem dX2_init_37 : decode cX2_init 37 = .ok (.bipush 80, 2) := by decide +kernel
theorem dX2_init_39 : decode cX2_init 39 = .ok (.newarray .int, 2) := by decide +kernel
theorem dX2_init_41 : decode cX2_init 41 = .ok (.putfield 24, 3) := by decide +kernel
theorem dX2_init_44 : decode cX2_init 44 = .ok (.return_, 1) := by decide +kernel
theorem dX2_mayHold_0 : decode cX2_mayHold 0 = .ok (.iload_n 0, 1) := by decide +kernel
theorem dX2_mayHold_1 : decode cX2_mayHold 1 = .ok (.tableswitch 78 0 3 #[31, 46, 62, 46], 31) := by decide +kernel
theorem dX2_mayHold_32 : decode cX2_mayHold 32 = .ok (.iload_n 1, 1) := by decide +kernel
theorem dX2_mayHold_33 : decode cX2_mayHold 33 = .ok (.ifCond .lt 12, 3) := by decide +kernel
theorem dX2_mayHold_36 : decode cX2_mayHold 36 = .ok (.iload_n 1, 1) := by decide +kernel
theorem dX2_mayHold_37 : decode cX2_mayHold 37 = .ok (.iconst 5, 1) := by decide +kernel
theorem dX2_mayHold_38 : decode cX2_mayHold 38 = .ok (.if_icmp .gt 7, 3) := by decide +kernel
theorem dX2_mayHold_41 : decode cX2_mayHold 41 = .ok (.iconst 1, 1) := by decide +kernel
theorem dX2_mayHold_42 : decode cX2_mayHold 42 = .ok (.goto 4, 3) := by decide +kernel
theorem dX2_mayHold_45 : decode cX2_mayHold 45 = .ok (.iconst 0, 1) := by decide +kernel
theorem dX2_mayHold_46 : decode cX2_mayHold 46 = .ok (.ireturn, 1) := by decide +kernel
theorem dX2_mayHold_47 : decode cX2_mayHold 47 = .ok (.iload_n 1, 1) := by decide +kernel
theorem dX2_mayHold_48 : decode cX2_mayHold 48 = .ok (.ifCond .lt 13, 3) := by decide +kernel
theorem dX2_mayHold_51 : decode cX2_mayHold 51 = .ok (.iload_n 1, 1) := by decide +kernel
theorem dX2_mayHold_52 : decode cX2_mayHold 52 = .ok (.ldc 27, 2) := by decide +kernel
theorem dX2_mayHold_54 : decode cX2_mayHold 54 = .ok (.if_icmp .gt 7, 3) := by decide +kernel
theorem dX2_mayHold_57 : decode cX2_mayHold 57 = .ok (.iconst 1, 1) := by decide +kernel
theorem dX2_mayHold_58 : decode cX2_mayHold 58 = .ok (.goto 4, 3) := by decide +kernel
theorem dX2_mayHold_61 : decode cX2_mayHold 61 = .ok (.iconst 0, 1) := by decide +kernel
theorem dX2_mayHold_62 : decode cX2_mayHold 62 = .ok (.ireturn, 1) := by decide +kernel
theorem dX2_mayHold_63 : decode cX2_mayHold 63 = .ok (.iload_n 1, 1) := by decide +kernel
theorem dX2_mayHold_64 : decode cX2_mayHold 64 = .ok (.iconst 1, 1) := by decide +kernel
theorem dX2_mayHold_65 : decode cX2_mayHold 65 = .ok (.if_icmp .eq 8, 3) := by decide +kernel
theorem dX2_mayHold_68 : decode cX2_mayHold 68 = .ok (.iload_n 1, 1) := by decide +kernel
theorem dX2_mayHold_69 : decode cX2_mayHold 69 = .ok (.iconst (-1), 1) := by decide +kernel
theorem dX2_mayHold_70 : decode cX2_mayHold 70 = .ok (.if_icmp .ne 7, 3) := by decide +kernel
theorem dX2_mayHold_73 : decode cX2_mayHold 73 = .ok (.iconst 1, 1) := by decide +kernel
theorem dX2_mayHold_74 : decode cX2_mayHold 74 = .ok (.goto 4, 3) := by decide +kernel
theorem dX2_mayHold_77 : decode cX2_mayHold 77 = .ok (.iconst 0, 1) := by decide +kernel
theorem dX2_mayHold_78 : decode cX2_mayHold 78 = .ok (.ireturn, 1) := by decide +kernel
theorem dX2_mayHold_79 : decode cX2_mayHold 79 = .ok (.iconst 0, 1) := by decide +kernel
theorem dX2_mayHold_80 : decode cX2_mayHold 80 = .ok (.ireturn, 1) := by decide +kernel
theorem dX2_add_0 : decode cX2_add 0 = .ok (.aload_n 0, 1) := by decide +kernel
theorem dX2_add_1 : decode cX2_add 1 = .ok (.getfield 9, 3) := by decide +kernel
theorem dX2_add_4 : decode cX2_add 4 = .ok (.aload_n 0, 1) := by decide +kernel
theorem dX2_add_5 : decode cX2_add 5 = .ok (.getfield 28, 3) := by decide +kernel
theorem dX2_add_8 : decode cX2_add 8 = .ok (.iload_n 1, 1) := by decide +kernel
theorem dX2_add_9 : decode cX2_add 9 = .ok (.iastore, 1) := by decide +kernel
theorem dX2_add_10 : decode cX2_add 10 = .ok (.aload_n 0, 1) := by decide +kernel
theorem dX2_add_11 : decode cX2_add 11 = .ok (.getfield 15, 3) := by decide +kernel
theorem dX2_add_14 : decode cX2_add 14 = .ok (.aload_n 0, 1) := by decide +kernel
theorem dX2_add_15 : decode cX2_add 15 = .ok (.getfield 28, 3) := by decide +kernel
theorem dX2_add_18 : decode cX2_add 18 = .ok (.iload_n 2, 1) := by decide +kernel
theorem dX2_add_19 : decode cX2_add 19 = .ok (.iastore, 1) := by decide +kernel
theorem dX2_add_20 : decode cX2_add 20 = .ok (.aload_n 0, 1) := by decide +kernel
theorem dX2_add_21 : decode cX2_add 21 = .ok (.getfield 18, 3) := by decide +kernel
theorem dX2_add_24 : decode cX2_add 24 = .ok (.aload_n 0, 1) := by decide +kernel
theorem dX2_add_25 : decode cX2_add 25 = .ok (.getfield 28, 3) := by decide +kernel
theorem dX2_add_28 : decode cX2_add 28 = .ok (.iload_n 3, 1) := by decide +kernel
theorem dX2_add_29 : decode cX2_add 29 = .ok (.iastore, 1) := by decide +kernel
theorem dX2_add_30 : decode cX2_add 30 = .ok (.aload_n 0, 1) := by decide +kernel
theorem dX2_add_31 : decode cX2_add 31 = .ok (.getfield 21, 3) := by decide +kernel
theorem dX2_add_34 : decode cX2_add 34 = .ok (.aload_n 0, 1) := by decide +kernel
theorem dX2_add_35 : decode cX2_add 35 = .ok (.getfield 28, 3) := by decide +kernel
theorem dX2_add_38 : decode cX2_add 38 = .ok (.iload 4, 2) := by decide +kernel
theorem dX2_add_40 : decode cX2_add 40 = .ok (.iastore, 1) := by decide +kernel
theorem dX2_add_41 : decode cX2_add 41 = .ok (.aload_n 0, 1) := by decide +kernel
theorem dX2_add_42 : decode cX2_add 42 = .ok (.getfield 24, 3) := by decide +kernel
theorem dX2_add_45 : decode cX2_add 45 = .ok (.aload_n 0, 1) := by decide +kernel
theorem dX2_add_46 : decode cX2_add 46 = .ok (.getfield 28, 3) := by decide +kernel
theorem dX2_add_49 : decode cX2_add 49 = .ok (.ldc 32, 2) := by decide +kernel
theorem dX2_add_51 : decode cX2_add 51 = .ok (.iastore, 1) := by decide +kernel
theorem dX2_add_52 : decode cX2_add 52 = .ok (.aload_n 0, 1) := by decide +kernel
theorem dX2_add_53 : decode cX2_add 53 = .ok (.dup, 1) := by decide +kernel
theorem dX2_add_54 : decode cX2_add 54 = .ok (.getfield 28, 3) := by decide +kernel
theorem dX2_add_57 : decode cX2_add 57 = .ok (.iconst 1, 1) := by decide +kernel
theorem dX2_add_58 : decode cX2_add 58 = .ok (.iadd, 1) := by decide +kernel
theorem dX2_add_59 : decode cX2_add 59 = .ok (.putfield 28, 3) := by decide +kernel
theorem dX2_add_62 : decode cX2_add 62 = .ok (.aload_n 0, 1) := by decide +kernel
theorem dX2_add_63 : decode cX2_add 63 = .ok (.getfield 28, 3) := by decide +kernel
theorem dX2_add_66 : decode cX2_add 66 = .ok (.iconst 1, 1) := by decide +kernel
theorem dX2_add_67 : decode cX2_add 67 = .ok (.isub, 1) := by decide +kernel
theorem dX2_add_68 : decode cX2_add 68 = .ok (.ireturn, 1) := by decide +kernel
theorem dX2_has_0 : decode cX2_has 0 = .ok (.iload_n 1, 1) := by decide +kernel
theorem dX2_has_1 : decode cX2_has 1 = .ok (.aload_n 0, 1) := by decide +kernel
theorem dX2_has_2 : decode cX2_has 2 = .ok (.getfield 28, 3) := by decide +kernel
theorem dX2_has_5 : decode cX2_has 5 = .ok (.invokestatic 33, 3) := by decide +kernel
theorem dX2_has_8 : decode cX2_has 8 = .ok (.ireturn, 1) := by decide +kernel
theorem dX2_isOfKind_0 : decode cX2_isOfKind 0 = .ok (.aload_n 0, 1) := by decide +kernel
theorem dX2_isOfKind_1 : decode cX2_isOfKind 1 = .ok (.getfield 9, 3) := by decide +kernel
theorem dX2_isOfKind_4 : decode cX2_isOfKind 4 = .ok (.iload_n 1, 1) := by decide +kernel
theorem dX2_isOfKind_5 : decode cX2_isOfKind 5 = .ok (.iaload, 1) := by decide +kernel
theorem dX2_isOfKind_6 : decode cX2_isOfKind 6 = .ok (.istore_n 3, 1) := by decide +kernel
theorem dX2_isOfKind_7 : decode cX2_isOfKind 7 = .ok (.iload_n 2, 1) := by decide +kernel
theorem dX2_isOfKind_8 : decode cX2_isOfKind 8 = .ok (.ifCond .eq 18, 3) := by decide +kernel
theorem dX2_isOfKind_11 : decode cX2_isOfKind 11 = .ok (.iload_n 3, 1) := by decide +kernel
theorem dX2_isOfKind_12 : decode cX2_isOfKind 12 = .ok (.iload_n 2, 1) := by decide +kernel
theorem dX2_isOfKind_13 : decode cX2_isOfKind 13 = .ok (.if_icmp .eq 13, 3) := by decide +kernel
theorem dX2_isOfKind_16 : decode cX2_isOfKind 16 = .ok (.iload_n 2, 1) := by decide +kernel
theorem dX2_isOfKind_17 : decode cX2_isOfKind 17 = .ok (.iconst 1, 1) := by decide +kernel
theorem dX2_isOfKind_18 : decode cX2_isOfKind 18 = .ok (.if_icmp .ne 12, 3) := by decide +kernel
theorem dX2_isOfKind_21 : decode cX2_isOfKind 21 = .ok (.iload_n 3, 1) := by decide +kernel
theorem dX2_isOfKind_22 : decode cX2_isOfKind 22 = .ok (.iconst 3, 1) := by decide +kernel
theorem dX2_isOfKind_23 : decode cX2_isOfKind 23 = .ok (.if_icmp .ne 7, 3) := by decide +kernel
theorem dX2_isOfKind_26 : decode cX2_isOfKind 26 = .ok (.iconst 1, 1) := by decide +kernel
theorem dX2_isOfKind_27 : decode cX2_isOfKind 27 = .ok (.goto 4, 3) := by decide +kernel
theorem dX2_isOfKind_30 : decode cX2_isOfKind 30 = .ok (.iconst 0, 1) := by decide +kernel
theorem dX2_isOfKind_31 : decode cX2_isOfKind 31 = .ok (.ireturn, 1) := by decide +kernel
theorem dX2_notTakenBack_0 : decode cX2_notTakenBack 0 = .ok (.iconst 0, 1) := by decide +kernel
theorem dX2_notTakenBack_1 : decode cX2_notTakenBack 1 = .ok (.istore_n 1, 1) := by decide +kernel
theorem dX2_notTakenBack_2 : decode cX2_notTakenBack 2 = .ok (.iconst 0, 1) := by decide +kernel
theorem dX2_notTakenBack_3 : decode cX2_notTakenBack 3 = .ok (.istore_n 2, 1) := by decide +kernel
theorem dX2_notTakenBack_4 : decode cX2_notTakenBack 4 = .ok (.iload_n 2, 1) := by decide +kernel
theorem dX2_notTakenBack_5 : decode cX2_notTakenBack 5 = .ok (.aload_n 0, 1) := by decide +kernel
theorem dX2_notTakenBack_6 : decode cX2_notTakenBack 6 = .ok (.getfield 28, 3) := by decide +kernel
theorem dX2_notTakenBack_9 : decode cX2_notTakenBack 9 = .ok (.if_icmp .ge 23, 3) := by decide +kernel
theorem dX2_notTakenBack_12 : decode cX2_notTakenBack 12 = .ok (.aload_n 0, 1) := by decide +kernel
theorem dX2_notTakenBack_13 : decode cX2_notTakenBack 13 = .ok (.getfield 24, 3) := by decide +kernel
theorem dX2_notTakenBack_16 : decode cX2_notTakenBack 16 = .ok (.iload_n 2, 1) := by decide +kernel
theorem dX2_notTakenBack_17 : decode cX2_notTakenBack 17 = .ok (.iaload, 1) := by decide +kernel
theorem dX2_notTakenBack_18 : decode cX2_notTakenBack 18 = .ok (.ldc 32, 2) := by decide +kernel
theorem dX2_notTakenBack_20 : decode cX2_notTakenBack 20 = .ok (.if_icmp .ne 6, 3) := by decide +kernel
theorem dX2_notTakenBack_23 : decode cX2_notTakenBack 23 = .ok (.iinc 1 1, 3) := by decide +kernel
theorem dX2_notTakenBack_26 : decode cX2_notTakenBack 26 = .ok (.iinc 2 1, 3) := by decide +kernel
theorem dX2_notTakenBack_29 : decode cX2_notTakenBack 29 = .ok (.goto (-25), 3) := by decide +kernel
theorem dX2_notTakenBack_32 : decode cX2_notTakenBack 32 = .ok (.iload_n 1, 1) := by decide +kernel
theorem dX2_notTakenBack_33 : decode cX2_notTakenBack 33 = .ok (.ireturn, 1) := by decide +kernel
theorem dX2_incomeAt_0 : decode cX2_incomeAt 0 = .ok (.aload_n 0, 1) := by decide +kernel
theorem dX2_incomeAt_1 : decode cX2_incomeAt 1 = .ok (.iconst 3, 1) := by decide +kernel
theorem dX2_incomeAt_2 : decode cX2_incomeAt 2 = .ok (.iload_n 1, 1) := by decide +kernel
theorem dX2_incomeAt_3 : decode cX2_incomeAt 3 = .ok (.iload_n 2, 1) := by decide +kernel
theorem dX2_incomeAt_4 : decode cX2_incomeAt 4 = .ok (.invokevirtual 37, 3) := by decide +kernel
theorem dX2_incomeAt_7 : decode cX2_incomeAt 7 = .ok (.istore_n 3, 1) := by decide +kernel
theorem dX2_incomeAt_8 : decode cX2_incomeAt 8 = .ok (.iload_n 3, 1) := by decide +kernel
theorem dX2_incomeAt_9 : decode cX2_incomeAt 9 = .ok (.ldc 32, 2) := by decide +kernel
theorem dX2_incomeAt_11 : decode cX2_incomeAt 11 = .ok (.if_icmp .ne 11, 3) := by decide +kernel
theorem dX2_incomeAt_14 : decode cX2_incomeAt 14 = .ok (.aload_n 0, 1) := by decide +kernel
theorem dX2_incomeAt_15 : decode cX2_incomeAt 15 = .ok (.iconst 1, 1) := by decide +kernel
theorem dX2_incomeAt_16 : decode cX2_incomeAt 16 = .ok (.iload_n 1, 1) := by decide +kernel
theorem dX2_incomeAt_17 : decode cX2_incomeAt 17 = .ok (.iload_n 2, 1) := by decide +kernel
theorem dX2_incomeAt_18 : decode cX2_incomeAt 18 = .ok (.invokevirtual 37, 3) := by decide +kernel
theorem dX2_incomeAt_21 : decode cX2_incomeAt 21 = .ok (.istore_n 3, 1) := by decide +kernel
theorem dX2_incomeAt_22 : decode cX2_incomeAt 22 = .ok (.iload_n 3, 1) := by decide +kernel
theorem dX2_incomeAt_23 : decode cX2_incomeAt 23 = .ok (.ldc 32, 2) := by decide +kernel
theorem dX2_incomeAt_25 : decode cX2_incomeAt 25 = .ok (.if_icmp .ne 7, 3) := by decide +kernel
theorem dX2_incomeAt_28 : decode cX2_incomeAt 28 = .ok (.iconst 0, 1) := by decide +kernel
theorem dX2_incomeAt_29 : decode cX2_incomeAt 29 = .ok (.goto 9, 3) := by decide +kernel
theorem dX2_incomeAt_32 : decode cX2_incomeAt 32 = .ok (.aload_n 0, 1) := by decide +kernel
theorem dX2_incomeAt_33 : decode cX2_incomeAt 33 = .ok (.getfield 15, 3) := by decide +kernel
theorem dX2_incomeAt_36 : decode cX2_incomeAt 36 = .ok (.iload_n 3, 1) := by decide +kernel
theorem dX2_incomeAt_37 : decode cX2_incomeAt 37 = .ok (.iaload, 1) := by decide +kernel
theorem dX2_incomeAt_38 : decode cX2_incomeAt 38 = .ok (.ireturn, 1) := by decide +kernel
theorem dX2_childrenAt_0 : decode cX2_childrenAt 0 = .ok (.iconst 0, 1) := by decide +kernel
theorem dX2_childrenAt_1 : decode cX2_childrenAt 1 = .ok (.istore_n 3, 1) := by decide +kernel
theorem dX2_childrenAt_2 : decode cX2_childrenAt 2 = .ok (.iconst 0, 1) := by decide +kernel
theorem dX2_childrenAt_3 : decode cX2_childrenAt 3 = .ok (.istore 4, 2) := by decide +kernel
theorem dX2_childrenAt_5 : decode cX2_childrenAt 5 = .ok (.iload 4, 2) := by decide +kernel
theorem dX2_childrenAt_7 : decode cX2_childrenAt 7 = .ok (.aload_n 0, 1) := by decide +kernel
theorem dX2_childrenAt_8 : decode cX2_childrenAt 8 = .ok (.getfield 28, 3) := by decide +kernel
theorem dX2_childrenAt_11 : decode cX2_childrenAt 11 = .ok (.if_icmp .ge 41, 3) := by decide +kernel
theorem dX2_childrenAt_14 : decode cX2_childrenAt 14 = .ok (.aload_n 0, 1) := by decide +kernel
theorem dX2_childrenAt_15 : decode cX2_childrenAt 15 = .ok (.getfield 9, 3) := by decide +kernel
theorem dX2_childrenAt_18 : decode cX2_childrenAt 18 = .ok (.iload 4, 2) := by decide +kernel
theorem dX2_childrenAt_20 : decode cX2_childrenAt 20 = .ok (.iaload, 1) := by decide +kernel
theorem dX2_childrenAt_21 : decode cX2_childrenAt 21 = .ok (.iconst 2, 1) := by decide +kernel
theorem dX2_childrenAt_22 : decode cX2_childrenAt 22 = .ok (.if_icmp .ne 24, 3) := by decide +kernel
theorem dX2_childrenAt_25 : decode cX2_childrenAt 25 = .ok (.aload_n 0, 1) := by decide +kernel
theorem dX2_childrenAt_26 : decode cX2_childrenAt 26 = .ok (.iload 4, 2) := by decide +kernel
theorem dX2_childrenAt_28 : decode cX2_childrenAt 28 = .ok (.iload_n 1, 1) := by decide +kernel
theorem dX2_childrenAt_29 : decode cX2_childrenAt 29 = .ok (.iload_n 2, 1) := by decide +kernel
theorem dX2_childrenAt_30 : decode cX2_childrenAt 30 = .ok (.invokevirtual 41, 3) := by decide +kernel
theorem dX2_childrenAt_33 : decode cX2_childrenAt 33 = .ok (.ifCond .eq 13, 3) := by decide +kernel
theorem dX2_childrenAt_36 : decode cX2_childrenAt 36 = .ok (.iload_n 3, 1) := by decide +kernel
theorem dX2_childrenAt_37 : decode cX2_childrenAt 37 = .ok (.aload_n 0, 1) := by decide +kernel
theorem dX2_childrenAt_38 : decode cX2_childrenAt 38 = .ok (.getfield 15, 3) := by decide +kernel
theorem dX2_childrenAt_41 : decode cX2_childrenAt 41 = .ok (.iload 4, 2) := by decide +kernel
theorem dX2_childrenAt_43 : decode cX2_childrenAt 43 = .ok (.iaload, 1) := by decide +kernel
theorem dX2_childrenAt_44 : decode cX2_childrenAt 44 = .ok (.iadd, 1) := by decide +kernel
theorem dX2_childrenAt_45 : decode cX2_childrenAt 45 = .ok (.istore_n 3, 1) := by decide +kernel
theorem dX2_childrenAt_46 : decode cX2_childrenAt 46 = .ok (.iinc 4 1, 3) := by decide +kernel
theorem dX2_childrenAt_49 : decode cX2_childrenAt 49 = .ok (.goto (-44), 3) := by decide +kernel
theorem dX2_childrenAt_52 : decode cX2_childrenAt 52 = .ok (.iconst 0, 1) := by decide +kernel
theorem dX2_childrenAt_53 : decode cX2_childrenAt 53 = .ok (.iconst 4, 1) := by decide +kernel
theorem dX2_childrenAt_54 : decode cX2_childrenAt 54 = .ok (.iload_n 3, 1) := by decide +kernel
theorem dX2_childrenAt_55 : decode cX2_childrenAt 55 = .ok (.invokestatic 45, 3) := by decide +kernel
theorem dX2_childrenAt_58 : decode cX2_childrenAt 58 = .ok (.invokestatic 51, 3) := by decide +kernel
theorem dX2_childrenAt_61 : decode cX2_childrenAt 61 = .ok (.ireturn, 1) := by decide +kernel
theorem dX2_othersAt_0 : decode cX2_othersAt 0 = .ok (.aload_n 0, 1) := by decide +kernel
theorem dX2_othersAt_1 : decode cX2_othersAt 1 = .ok (.iconst 0, 1) := by decide +kernel
theorem dX2_othersAt_2 : decode cX2_othersAt 2 = .ok (.iload_n 1, 1) := by decide +kernel
theorem dX2_othersAt_3 : decode cX2_othersAt 3 = .ok (.iload_n 2, 1) := by decide +kernel
theorem dX2_othersAt_4 : decode cX2_othersAt 4 = .ok (.invokevirtual 37, 3) := by decide +kernel
theorem dX2_othersAt_7 : decode cX2_othersAt 7 = .ok (.istore_n 3, 1) := by decide +kernel
theorem dX2_othersAt_8 : decode cX2_othersAt 8 = .ok (.iload_n 3, 1) := by decide +kernel
theorem dX2_othersAt_9 : decode cX2_othersAt 9 = .ok (.ldc 32, 2) := by decide +kernel
theorem dX2_othersAt_11 : decode cX2_othersAt 11 = .ok (.if_icmp .ne 7, 3) := by decide +kernel
theorem dX2_othersAt_14 : decode cX2_othersAt 14 = .ok (.iconst 0, 1) := by decide +kernel
theorem dX2_othersAt_15 : decode cX2_othersAt 15 = .ok (.goto 9, 3) := by decide +kernel
theorem dX2_othersAt_18 : decode cX2_othersAt 18 = .ok (.aload_n 0, 1) := by decide +kernel
theorem dX2_othersAt_19 : decode cX2_othersAt 19 = .ok (.getfield 15, 3) := by decide +kernel
theorem dX2_othersAt_22 : decode cX2_othersAt 22 = .ok (.iload_n 3, 1) := by decide +kernel
theorem dX2_othersAt_23 : decode cX2_othersAt 23 = .ok (.iaload, 1) := by decide +kernel
theorem dX2_othersAt_24 : decode cX2_othersAt 24 = .ok (.ireturn, 1) := by decide +kernel
theorem dX2_latest_0 : decode cX2_latest 0 = .ok (.ldc 32, 2) := by decide +kernel
theorem dX2_latest_2 : decode cX2_latest 2 = .ok (.istore 4, 2) := by decide +kernel
theorem dX2_latest_4 : decode cX2_latest 4 = .ok (.iconst 0, 1) := by decide +kernel
theorem dX2_latest_5 : decode cX2_latest 5 = .ok (.istore 5, 2) := by decide +kernel
theorem dX2_latest_7 : decode cX2_latest 7 = .ok (.iload 5, 2) := by decide +kernel
theorem dX2_latest_9 : decode cX2_latest 9 = .ok (.aload_n 0, 1) := by decide +kernel
theorem dX2_latest_10 : decode cX2_latest 10 = .ok (.getfield 28, 3) := by decide +kernel
theorem dX2_latest_13 : decode cX2_latest 13 = .ok (.if_icmp .ge 62, 3) := by decide +kernel
theorem dX2_latest_16 : decode cX2_latest 16 = .ok (.aload_n 0, 1) := by decide +kernel
theorem dX2_latest_17 : decode cX2_latest 17 = .ok (.getfield 9, 3) := by decide +kernel
theorem dX2_latest_20 : decode cX2_latest 20 = .ok (.iload 5, 2) := by decide +kernel
theorem dX2_latest_22 : decode cX2_latest 22 = .ok (.iaload, 1) := by decide +kernel
theorem dX2_latest_23 : decode cX2_latest 23 = .ok (.iload_n 1, 1) := by decide +kernel
theorem dX2_latest_24 : decode cX2_latest 24 = .ok (.if_icmp .ne 45, 3) := by decide +kernel
theorem dX2_latest_27 : decode cX2_latest 27 = .ok (.aload_n 0, 1) := by decide +kernel
theorem dX2_latest_28 : decode cX2_latest 28 = .ok (.iload 5, 2) := by decide +kernel
theorem dX2_latest_30 : decode cX2_latest 30 = .ok (.iload_n 2, 1) := by decide +kernel
theorem dX2_latest_31 : decode cX2_latest 31 = .ok (.iload_n 3, 1) := by decide +kernel
theorem dX2_latest_32 : decode cX2_latest 32 = .ok (.invokevirtual 41, 3) := by decide +kernel
theorem dX2_latest_35 : decode cX2_latest 35 = .ok (.ifCond .ne 6, 3) := by decide +kernel
theorem dX2_latest_38 : decode cX2_latest 38 = .ok (.goto 31, 3) := by decide +kernel
theorem dX2_latest_41 : decode cX2_latest 41 = .ok (.iload 4, 2) := by decide +kernel
theorem dX2_latest_43 : decode cX2_latest 43 = .ok (.ldc 32, 2) := by decide +kernel
theorem dX2_latest_45 : decode cX2_latest 45 = .ok (.if_icmp .eq 20, 3) := by decide +kernel
theorem dX2_latest_48 : decode cX2_latest 48 = .ok (.aload_n 0, 1) := by decide +kernel
theorem dX2_latest_49 : decode cX2_latest 49 = .ok (.getfield 18, 3) := by decide +kernel
theorem dX2_latest_52 : decode cX2_latest 52 = .ok (.iload 5, 2) := by decide +kernel
theorem dX2_latest_54 : decode cX2_latest 54 = .ok (.iaload, 1) := by decide +kernel
theorem dX2_latest_55 : decode cX2_latest 55 = .ok (.aload_n 0, 1) := by decide +kernel
theorem dX2_latest_56 : decode cX2_latest 56 = .ok (.getfield 18, 3) := by decide +kernel
theorem dX2_latest_59 : decode cX2_latest 59 = .ok (.iload 4, 2) := by decide +kernel
theorem dX2_latest_61 : decode cX2_latest 61 = .ok (.iaload, 1) := by decide +kernel
theorem dX2_latest_62 : decode cX2_latest 62 = .ok (.if_icmp .lt 7, 3) := by decide +kernel
theorem dX2_latest_65 : decode cX2_latest 65 = .ok (.iload 5, 2) := by decide +kernel
theorem dX2_latest_67 : decode cX2_latest 67 = .ok (.istore 4, 2) := by decide +kernel
theorem dX2_latest_69 : decode cX2_latest 69 = .ok (.iinc 5 1, 3) := by decide +kernel
theorem dX2_latest_72 : decode cX2_latest 72 = .ok (.goto (-65), 3) := by decide +kernel
theorem dX2_latest_75 : decode cX2_latest 75 = .ok (.iload 4, 2) := by decide +kernel
theorem dX2_latest_77 : decode cX2_latest 77 = .ok (.ireturn, 1) := by decide +kernel
theorem dX2_counts_0 : decode cX2_counts 0 = .ok (.aload_n 0, 1) := by decide +kernel
theorem dX2_counts_1 : decode cX2_counts 1 = .ok (.getfield 18, 3) := by decide +kernel
theorem dX2_counts_4 : decode cX2_counts 4 = .ok (.iload_n 1, 1) := by decide +kernel
theorem dX2_counts_5 : decode cX2_counts 5 = .ok (.iaload, 1) := by decide +kernel
theorem dX2_counts_6 : decode cX2_counts 6 = .ok (.iload_n 3, 1) := by decide +kernel
theorem dX2_counts_7 : decode cX2_counts 7 = .ok (.if_icmp .gt 38, 3) := by decide +kernel
theorem dX2_counts_10 : decode cX2_counts 10 = .ok (.aload_n 0, 1) := by decide +kernel
theorem dX2_counts_11 : decode cX2_counts 11 = .ok (.getfield 21, 3) := by decide +kernel
theorem dX2_counts_14 : decode cX2_counts 14 = .ok (.iload_n 1, 1) := by decide +kernel
theorem dX2_counts_15 : decode cX2_counts 15 = .ok (.iaload, 1) := by decide +kernel
theorem dX2_counts_16 : decode cX2_counts 16 = .ok (.iload_n 2, 1) := by decide +kernel
theorem dX2_counts_17 : decode cX2_counts 17 = .ok (.if_icmp .gt 28, 3) := by decide +kernel
theorem dX2_counts_20 : decode cX2_counts 20 = .ok (.aload_n 0, 1) := by decide +kernel
theorem dX2_counts_21 : decode cX2_counts 21 = .ok (.getfield 24, 3) := by decide +kernel
theorem dX2_counts_24 : decode cX2_counts 24 = .ok (.iload_n 1, 1) := by decide +kernel
theorem dX2_counts_25 : decode cX2_counts 25 = .ok (.iaload, 1) := by decide +kernel
theorem dX2_counts_26 : decode cX2_counts 26 = .ok (.ldc 32, 2) := by decide +kernel
theorem dX2_counts_28 : decode cX2_counts 28 = .ok (.if_icmp .eq 13, 3) := by decide +kernel
theorem dX2_counts_31 : decode cX2_counts 31 = .ok (.aload_n 0, 1) := by decide +kernel
theorem dX2_counts_32 : decode cX2_counts 32 = .ok (.getfield 24, 3) := by decide +kernel
theorem dX2_counts_35 : decode cX2_counts 35 = .ok (.iload_n 1, 1) := by decide +kernel
theorem dX2_counts_36 : decode cX2_counts 36 = .ok (.iaload, 1) := by decide +kernel
theorem dX2_counts_37 : decode cX2_counts 37 = .ok (.iload_n 2, 1) := by decide +kernel
theorem dX2_counts_38 : decode cX2_counts 38 = .ok (.if_icmp .le 7, 3) := by decide +kernel
theorem dX2_counts_41 : decode cX2_counts 41 = .ok (.iconst 1, 1) := by decide +kernel
theorem dX2_counts_42 : decode cX2_counts 42 = .ok (.goto 4, 3) := by decide +kernel
theorem dX2_counts_45 : decode cX2_counts 45 = .ok (.iconst 0, 1) := by decide +kernel
theorem dX2_counts_46 : decode cX2_counts 46 = .ok (.ireturn, 1) := by decide +kernel
theorem dX3_init_0 : decode cX3_init 0 = .ok (.aload_n 0, 1) := by decide +kernel
theorem dX3_init_1 : decode cX3_init 1 = .ok (.invokespecial 1, 3) := by decide +kernel
theorem dX3_init_4 : decode cX3_init 4 = .ok (.return_, 1) := by decide +kernel
theorem dX3_incomeLess_0 : decode cX3_incomeLess 0 = .ok (.iconst 0, 1) := by decide +kernel
theorem dX3_incomeLess_1 : decode cX3_incomeLess 1 = .ok (.iload_n 1, 1) := by decide +kernel
theorem dX3_incomeLess_2 : decode cX3_incomeLess 2 = .ok (.iload_n 2, 1) := by decide +kernel
theorem dX3_incomeLess_3 : decode cX3_incomeLess 3 = .ok (.iload_n 1, 1) := by decide +kernel
theorem dX3_incomeLess_4 : decode cX3_incomeLess 4 = .ok (.aload_n 0, 1) := by decide +kernel
theorem dX3_incomeLess_5 : decode cX3_incomeLess 5 = .ok (.getfield 7, 3) := by decide +kernel
theorem dX3_incomeLess_8 : decode cX3_incomeLess 8 = .ok (.imul, 1) := by decide +kernel
theorem dX3_incomeLess_9 : decode cX3_incomeLess 9 = .ok (.bipush 100, 2) := by decide +kernel
theorem dX3_incomeLess_11 : decode cX3_incomeLess 11 = .ok (.idiv, 1) := by decide +kernel
theorem dX3_incomeLess_12 : decode cX3_incomeLess 12 = .ok (.imul, 1) := by decide +kernel
theorem dX3_incomeLess_13 : decode cX3_incomeLess 13 = .ok (.isub, 1) := by decide +kernel
theorem dX3_incomeLess_14 : decode cX3_incomeLess 14 = .ok (.invokestatic 13, 3) := by decide +kernel
theorem dX3_incomeLess_17 : decode cX3_incomeLess 17 = .ok (.ireturn, 1) := by decide +kernel
theorem dX3_forChildren_0 : decode cX3_forChildren 0 = .ok (.iload_n 2, 1) := by decide +kernel
theorem dX3_forChildren_1 : decode cX3_forChildren 1 = .ok (.getstatic 19, 3) := by decide +kernel
theorem dX3_forChildren_4 : decode cX3_forChildren 4 = .ok (.arraylength, 1) := by decide +kernel
theorem dX3_forChildren_5 : decode cX3_forChildren 5 = .ok (.invokestatic 25, 3) := by decide +kernel
theorem dX3_forChildren_8 : decode cX3_forChildren 8 = .ok (.ifCond .ne 5, 3) := by decide +kernel
theorem dX3_forChildren_11 : decode cX3_forChildren 11 = .ok (.iconst 0, 1) := by decide +kernel
theorem dX3_forChildren_12 : decode cX3_forChildren 12 = .ok (.ireturn, 1) := by decide +kernel
theorem dX3_forChildren_13 : decode cX3_forChildren 13 = .ok (.iload_n 1, 1) := by decide +kernel
theorem dX3_forChildren_14 : decode cX3_forChildren 14 = .ok (.aload_n 0, 1) := by decide +kernel
theorem dX3_forChildren_15 : decode cX3_forChildren 15 = .ok (.getfield 29, 3) := by decide +kernel
theorem dX3_forChildren_18 : decode cX3_forChildren 18 = .ok (.invokestatic 32, 3) := by decide +kernel
theorem dX3_forChildren_21 : decode cX3_forChildren 21 = .ok (.istore_n 3, 1) := by decide +kernel
theorem dX3_forChildren_22 : decode cX3_forChildren 22 = .ok (.iload_n 3, 1) := by decide +kernel
theorem dX3_forChildren_23 : decode cX3_forChildren 23 = .ok (.aload_n 0, 1) := by decide +kernel
theorem dX3_forChildren_24 : decode cX3_forChildren 24 = .ok (.getfield 35, 3) := by decide +kernel
theorem dX3_forChildren_27 : decode cX3_forChildren 27 = .ok (.imul, 1) := by decide +kernel
theorem dX3_forChildren_28 : decode cX3_forChildren 28 = .ok (.bipush 100, 2) := by decide +kernel
theorem dX3_forChildren_30 : decode cX3_forChildren 30 = .ok (.idiv, 1) := by decide +kernel
theorem dX3_forChildren_31 : decode cX3_forChildren 31 = .ok (.iload_n 1, 1) := by decide +kernel
theorem dX3_forChildren_32 : decode cX3_forChildren 32 = .ok (.iload_n 3, 1) := by decide +kernel
theorem dX3_forChildren_33 : decode cX3_forChildren 33 = .ok (.isub, 1) := by decide +kernel
theorem dX3_forChildren_34 : decode cX3_forChildren 34 = .ok (.aload_n 0, 1) := by decide +kernel
theorem dX3_forChildren_35 : decode cX3_forChildren 35 = .ok (.getfield 38, 3) := by decide +kernel
theorem dX3_forChildren_38 : decode cX3_forChildren 38 = .ok (.imul, 1) := by decide +kernel
theorem dX3_forChildren_39 : decode cX3_forChildren 39 = .ok (.bipush 100, 2) := by decide +kernel
theorem dX3_forChildren_41 : decode cX3_forChildren 41 = .ok (.idiv, 1) := by decide +kernel
theorem dX3_forChildren_42 : decode cX3_forChildren 42 = .ok (.iadd, 1) := by decide +kernel
theorem dX3_forChildren_43 : decode cX3_forChildren 43 = .ok (.istore 4, 2) := by decide +kernel
theorem dX3_forChildren_45 : decode cX3_forChildren 45 = .ok (.iload 4, 2) := by decide +kernel
theorem dX3_forChildren_47 : decode cX3_forChildren 47 = .ok (.getstatic 19, 3) := by decide +kernel
theorem dX3_forChildren_50 : decode cX3_forChildren 50 = .ok (.iload_n 2, 1) := by decide +kernel
theorem dX3_forChildren_51 : decode cX3_forChildren 51 = .ok (.iaload, 1) := by decide +kernel
theorem dX3_forChildren_52 : decode cX3_forChildren 52 = .ok (.imul, 1) := by decide +kernel
theorem dX3_forChildren_53 : decode cX3_forChildren 53 = .ok (.bipush 100, 2) := by decide +kernel
theorem dX3_forChildren_55 : decode cX3_forChildren 55 = .ok (.idiv, 1) := by decide +kernel
theorem dX3_forChildren_56 : decode cX3_forChildren 56 = .ok (.ireturn, 1) := by decide +kernel
theorem dX3_withNights_0 : decode cX3_withNights 0 = .ok (.iconst 0, 1) := by decide +kernel
theorem dX3_withNights_1 : decode cX3_withNights 1 = .ok (.iload_n 1, 1) := by decide +kernel
theorem dX3_withNights_2 : decode cX3_withNights 2 = .ok (.iload_n 2, 1) := by decide +kernel
theorem dX3_withNights_3 : decode cX3_withNights 3 = .ok (.iload_n 1, 1) := by decide +kernel
theorem dX3_withNights_4 : decode cX3_withNights 4 = .ok (.aload_n 0, 1) := by decide +kernel
theorem dX3_withNights_5 : decode cX3_withNights 5 = .ok (.getfield 41, 3) := by decide +kernel
theorem dX3_withNights_8 : decode cX3_withNights 8 = .ok (.imul, 1) := by decide +kernel
theorem dX3_withNights_9 : decode cX3_withNights 9 = .ok (.bipush 100, 2) := by decide +kernel
theorem dX3_withNights_11 : decode cX3_withNights 11 = .ok (.idiv, 1) := by decide +kernel
theorem dX3_withNights_12 : decode cX3_withNights 12 = .ok (.imul, 1) := by decide +kernel
theorem dX3_withNights_13 : decode cX3_withNights 13 = .ok (.isub, 1) := by decide +kernel
theorem dX3_withNights_14 : decode cX3_withNights 14 = .ok (.invokestatic 13, 3) := by decide +kernel
theorem dX3_withNights_17 : decode cX3_withNights 17 = .ok (.istore_n 3, 1) := by decide +kernel
theorem dX3_withNights_18 : decode cX3_withNights 18 = .ok (.aload_n 0, 1) := by decide +kernel
theorem dX3_withNights_19 : decode cX3_withNights 19 = .ok (.getfield 44, 3) := by decide +kernel
theorem dX3_withNights_22 : decode cX3_withNights 22 = .ok (.aload_n 0, 1) := by decide +kernel
theorem dX3_withNights_23 : decode cX3_withNights 23 = .ok (.getfield 47, 3) := by decide +kernel
theorem dX3_withNights_26 : decode cX3_withNights 26 = .ok (.iload_n 3, 1) := by decide +kernel
theorem dX3_withNights_27 : decode cX3_withNights 27 = .ok (.invokestatic 13, 3) := by decide +kernel
theorem dX3_withNights_30 : decode cX3_withNights 30 = .ok (.invokestatic 32, 3) := by decide +kernel
theorem dX3_withNights_33 : decode cX3_withNights 33 = .ok (.ireturn, 1) := by decide +kernel
theorem dX4_init_0 : decode cX4_init 0 = .ok (.aload_n 0, 1) := by decide +kernel
theorem dX4_init_1 : decode cX4_init 1 = .ok (.invokespecial 3, 3) := by decide +kernel
theorem dX4_init_4 : decode cX4_init 4 = .ok (.aload_n 0, 1) := by decide +kernel
theorem dX4_init_5 : decode cX4_init 5 = .ok (.bipush 9, 2) := by decide +kernel
theorem dX4_init_7 : decode cX4_init 7 = .ok (.anewarray 9, 3) := by decide +kernel
theorem dX4_init_10 : decode cX4_init 10 = .ok (.putfield 11, 3) := by decide +kernel
theorem dX4_init_13 : decode cX4_init 13 = .ok (.iconst 0, 1) := by decide +kernel
theorem dX4_init_14 : decode cX4_init 14 = .ok (.istore_n 1, 1) := by decide +kernel
theorem dX4_init_15 : decode cX4_init 15 = .ok (.iload_n 1, 1) := by decide +kernel
theorem dX4_init_16 : decode cX4_init 16 = .ok (.aload_n 0, 1) := by decide +kernel
theorem dX4_init_17 : decode cX4_init 17 = .ok (.getfield 11, 3) := by decide +kernel
theorem dX4_init_20 : decode cX4_init 20 = .ok (.arraylength, 1) := by decide +kernel
theorem dX4_init_21 : decode cX4_init 21 = .ok (.if_icmp .ge 22, 3) := by decide +kernel
theorem dX4_init_24 : decode cX4_init 24 = .ok (.aload_n 0, 1) := by decide +kernel
theorem dX4_init_25 : decode cX4_init 25 = .ok (.getfield 11, 3) := by decide +kernel
theorem dX4_init_28 : decode cX4_init 28 = .ok (.iload_n 1, 1) := by decide +kernel
theorem dX4_init_29 : decode cX4_init 29 = .ok (.new 9, 3) := by decide +kernel
theorem dX4_init_32 : decode cX4_init 32 = .ok (.dup, 1) := by decide +kernel
theorem dX4_init_33 : decode cX4_init 33 = .ok (.invokespecial 17, 3) := by decide +kernel
theorem dX4_init_36 : decode cX4_init 36 = .ok (.aastore, 1) := by decide +kernel
theorem dX4_init_37 : decode cX4_init 37 = .ok (.iinc 1 1, 3) := by decide +kernel
theorem dX4_init_40 : decode cX4_init 40 = .ok (.goto (-25), 3) := by decide +kernel
theorem dX4_init_43 : decode cX4_init 43 = .ok (.return_, 1) := by decide +kernel
theorem dX4_numberAt_0 : decode cX4_numberAt 0 = .ok (.ldc 18, 2) := by decide +kernel
theorem dX4_numberAt_2 : decode cX4_numberAt 2 = .ok (.istore_n 2, 1) := by decide +kernel
theorem dX4_numberAt_3 : decode cX4_numberAt 3 = .ok (.iconst 0, 1) := by decide +kernel
theorem dX4_numberAt_4 : decode cX4_numberAt 4 = .ok (.istore_n 3, 1) := by decide +kernel
theorem dX4_numberAt_5 : decode cX4_numberAt 5 = .ok (.iload_n 3, 1) := by decide +kernel
theorem dX4_numberAt_6 : decode cX4_numberAt 6 = .ok (.aload_n 0, 1) := by decide +kernel
theorem dX4_numberAt_7 : decode cX4_numberAt 7 = .ok (.getfield 19, 3) := by decide +kernel
theorem dX4_numberAt_10 : decode cX4_numberAt 10 = .ok (.if_icmp .ge 54, 3) := by decide +kernel
theorem dX4_numberAt_13 : decode cX4_numberAt 13 = .ok (.aload_n 0, 1) := by decide +kernel
theorem dX4_numberAt_14 : decode cX4_numberAt 14 = .ok (.getfield 11, 3) := by decide +kernel
theorem dX4_numberAt_17 : decode cX4_numberAt 17 = .ok (.iload_n 3, 1) := by decide +kernel
theorem dX4_numberAt_18 : decode cX4_numberAt 18 = .ok (.aaload, 1) := by decide +kernel
theorem dX4_numberAt_19 : decode cX4_numberAt 19 = .ok (.getfield 23, 3) := by decide +kernel
theorem dX4_numberAt_22 : decode cX4_numberAt 22 = .ok (.iload_n 1, 1) := by decide +kernel
theorem dX4_numberAt_23 : decode cX4_numberAt 23 = .ok (.if_icmp .le 6, 3) := by decide +kernel
theorem dX4_numberAt_26 : decode cX4_numberAt 26 = .ok (.goto 32, 3) := by decide +kernel
theorem dX4_numberAt_29 : decode cX4_numberAt 29 = .ok (.iload_n 2, 1) := by decide +kernel
theorem dX4_numberAt_30 : decode cX4_numberAt 30 = .ok (.ldc 18, 2) := by decide +kernel
theorem dX4_numberAt_32 : decode cX4_numberAt 32 = .ok (.if_icmp .eq 24, 3) := by decide +kernel
theorem dX4_numberAt_35 : decode cX4_numberAt 35 = .ok (.aload_n 0, 1) := by decide +kernel
theorem dX4_numberAt_36 : decode cX4_numberAt 36 = .ok (.getfield 11, 3) := by decide +kernel
theorem dX4_numberAt_39 : decode cX4_numberAt 39 = .ok (.iload_n 3, 1) := by decide +kernel
theorem dX4_numberAt_40 : decode cX4_numberAt 40 = .ok (.aaload, 1) := by decide +kernel
theorem dX4_numberAt_41 : decode cX4_numberAt 41 = .ok (.getfield 23, 3) := by decide +kernel
theorem dX4_numberAt_44 : decode cX4_numberAt 44 = .ok (.aload_n 0, 1) := by decide +kernel
theorem dX4_numberAt_45 : decode cX4_numberAt 45 = .ok (.getfield 11, 3) := by decide +kernel
theorem dX4_numberAt_48 : decode cX4_numberAt 48 = .ok (.iload_n 2, 1) := by decide +kernel
theorem dX4_numberAt_49 : decode cX4_numberAt 49 = .ok (.aaload, 1) := by decide +kernel
theorem dX4_numberAt_50 : decode cX4_numberAt 50 = .ok (.getfield 23, 3) := by decide +kernel
theorem dX4_numberAt_53 : decode cX4_numberAt 53 = .ok (.if_icmp .lt 5, 3) := by decide +kernel
theorem dX4_numberAt_56 : decode cX4_numberAt 56 = .ok (.iload_n 3, 1) := by decide +kernel
theorem dX4_numberAt_57 : decode cX4_numberAt 57 = .ok (.istore_n 2, 1) := by decide +kernel
theorem dX4_numberAt_58 : decode cX4_numberAt 58 = .ok (.iinc 3 1, 3) := by decide +kernel
theorem dX4_numberAt_61 : decode cX4_numberAt 61 = .ok (.goto (-56), 3) := by decide +kernel
theorem dX4_numberAt_64 : decode cX4_numberAt 64 = .ok (.iload_n 2, 1) := by decide +kernel
theorem dX4_numberAt_65 : decode cX4_numberAt 65 = .ok (.ireturn, 1) := by decide +kernel
theorem dX5_init_0 : decode cX5_init 0 = .ok (.aload_n 0, 1) := by decide +kernel
theorem dX5_init_1 : decode cX5_init 1 = .ok (.invokespecial 3, 3) := by decide +kernel
theorem dX5_init_4 : decode cX5_init 4 = .ok (.aload_n 0, 1) := by decide +kernel
theorem dX5_init_5 : decode cX5_init 5 = .ok (.iconst 2, 1) := by decide +kernel
theorem dX5_init_6 : decode cX5_init 6 = .ok (.anewarray 9, 3) := by decide +kernel
theorem dX5_init_9 : decode cX5_init 9 = .ok (.dup, 1) := by decide +kernel
theorem dX5_init_10 : decode cX5_init 10 = .ok (.iconst 0, 1) := by decide +kernel
theorem dX5_init_11 : decode cX5_init 11 = .ok (.new 9, 3) := by decide +kernel
theorem dX5_init_14 : decode cX5_init 14 = .ok (.dup, 1) := by decide +kernel
theorem dX5_init_15 : decode cX5_init 15 = .ok (.invokespecial 11, 3) := by decide +kernel
theorem dX5_init_18 : decode cX5_init 18 = .ok (.aastore, 1) := by decide +kernel
theorem dX5_init_19 : decode cX5_init 19 = .ok (.dup, 1) := by decide +kernel
theorem dX5_init_20 : decode cX5_init 20 = .ok (.iconst 1, 1) := by decide +kernel
theorem dX5_init_21 : decode cX5_init 21 = .ok (.new 9, 3) := by decide +kernel
theorem dX5_init_24 : decode cX5_init 24 = .ok (.dup, 1) := by decide +kernel
theorem dX5_init_25 : decode cX5_init 25 = .ok (.invokespecial 11, 3) := by decide +kernel
theorem dX5_init_28 : decode cX5_init 28 = .ok (.aastore, 1) := by decide +kernel
theorem dX5_init_29 : decode cX5_init 29 = .ok (.putfield 12, 3) := by decide +kernel
theorem dX5_init_32 : decode cX5_init 32 = .ok (.aload_n 0, 1) := by decide +kernel
theorem dX5_init_33 : decode cX5_init 33 = .ok (.bipush 120, 2) := by decide +kernel
theorem dX5_init_35 : decode cX5_init 35 = .ok (.newarray .int, 2) := by decide +kernel
theorem dX5_init_37 : decode cX5_init 37 = .ok (.putfield 18, 3) := by decide +kernel
theorem dX5_init_40 : decode cX5_init 40 = .ok (.aload_n 0, 1) := by decide +kernel
theorem dX5_init_41 : decode cX5_init 41 = .ok (.getfield 18, 3) := by decide +kernel
theorem dX5_init_44 : decode cX5_init 44 = .ok (.ldc 22, 2) := by decide +kernel
theorem dX5_init_46 : decode cX5_init 46 = .ok (.invokestatic 23, 3) := by decide +kernel
theorem dX5_init_49 : decode cX5_init 49 = .ok (.return_, 1) := by decide +kernel
theorem dX5_lesser_0 : decode cX5_lesser 0 = .ok (.aload_n 0, 1) := by decide +kernel
theorem dX5_lesser_1 : decode cX5_lesser 1 = .ok (.iload_n 1, 1) := by decide +kernel
theorem dX5_lesser_2 : decode cX5_lesser 2 = .ok (.iconst 0, 1) := by decide +kernel
theorem dX5_lesser_3 : decode cX5_lesser 3 = .ok (.invokevirtual 29, 3) := by decide +kernel
theorem dX5_lesser_6 : decode cX5_lesser 6 = .ok (.ireturn, 1) := by decide +kernel
theorem dX5_greater_0 : decode cX5_greater 0 = .ok (.aload_n 0, 1) := by decide +kernel
theorem dX5_greater_1 : decode cX5_greater 1 = .ok (.iload_n 1, 1) := by decide +kernel
theorem dX5_greater_2 : decode cX5_greater 2 = .ok (.iconst 1, 1) := by decide +kernel
theorem dX5_greater_3 : decode cX5_greater 3 = .ok (.invokevirtual 29, 3) := by decide +kernel
theorem dX5_greater_6 : decode cX5_greater 6 = .ok (.ireturn, 1) := by decide +kernel
theorem dX5_areUnlike_0 : decode cX5_areUnlike 0 = .ok (.aload_n 0, 1) := by decide +kernel
theorem dX5_areUnlike_1 : decode cX5_areUnlike 1 = .ok (.iload_n 1, 1) := by decide +kernel
theorem dX5_areUnlike_2 : decode cX5_areUnlike 2 = .ok (.invokevirtual 33, 3) := by decide +kernel
theorem dX5_areUnlike_5 : decode cX5_areUnlike 5 = .ok (.aload_n 0, 1) := by decide +kernel
theorem dX5_areUnlike_6 : decode cX5_areUnlike 6 = .ok (.iload_n 1, 1) := by decide +kernel
theorem dX5_areUnlike_7 : decode cX5_areUnlike 7 = .ok (.invokevirtual 37, 3) := by decide +kernel
theorem dX5_areUnlike_10 : decode cX5_areUnlike 10 = .ok (.if_icmp .eq 7, 3) := by decide +kernel
theorem dX5_areUnlike_13 : decode cX5_areUnlike 13 = .ok (.iconst 1, 1) := by decide +kernel
theorem dX5_areUnlike_14 : decode cX5_areUnlike 14 = .ok (.goto 4, 3) := by decide +kernel
theorem dX5_areUnlike_17 : decode cX5_areUnlike 17 = .ok (.iconst 0, 1) := by decide +kernel
theorem dX5_areUnlike_18 : decode cX5_areUnlike 18 = .ok (.ireturn, 1) := by decide +kernel
theorem dX5_unlikeWeeks_0 : decode cX5_unlikeWeeks 0 = .ok (.iconst 0, 1) := by decide +kernel
theorem dX5_unlikeWeeks_1 : decode cX5_unlikeWeeks 1 = .ok (.istore_n 2, 1) := by decide +kernel
theorem dX5_unlikeWeeks_2 : decode cX5_unlikeWeeks 2 = .ok (.iconst 0, 1) := by decide +kernel
theorem dX5_unlikeWeeks_3 : decode cX5_unlikeWeeks 3 = .ok (.istore_n 3, 1) := by decide +kernel
theorem dX5_unlikeWeeks_4 : decode cX5_unlikeWeeks 4 = .ok (.iload_n 3, 1) := by decide +kernel
theorem dX5_unlikeWeeks_5 : decode cX5_unlikeWeeks 5 = .ok (.iload_n 1, 1) := by decide +kernel
theorem dX5_unlikeWeeks_6 : decode cX5_unlikeWeeks 6 = .ok (.if_icmp .gt 20, 3) := by decide +kernel
theorem dX5_unlikeWeeks_9 : decode cX5_unlikeWeeks 9 = .ok (.aload_n 0, 1) := by decide +kernel
theorem dX5_unlikeWeeks_10 : decode cX5_unlikeWeeks 10 = .ok (.iload_n 3, 1) := by decide +kernel
theorem dX5_unlikeWeeks_11 : decode cX5_unlikeWeeks 11 = .ok (.invokevirtual 40, 3) := by decide +kernel
theorem dX5_unlikeWeeks_14 : decode cX5_unlikeWeeks 14 = .ok (.ifCond .eq 6, 3) := by decide +kernel
theorem dX5_unlikeWeeks_17 : decode cX5_unlikeWeeks 17 = .ok (.iinc 2 1, 3) := by decide +kernel
theorem dX5_unlikeWeeks_20 : decode cX5_unlikeWeeks 20 = .ok (.iinc 3 1, 3) := by decide +kernel
theorem dX5_unlikeWeeks_23 : decode cX5_unlikeWeeks 23 = .ok (.goto (-19), 3) := by decide +kernel
theorem dX5_unlikeWeeks_26 : decode cX5_unlikeWeeks 26 = .ok (.iload_n 2, 1) := by decide +kernel
theorem dX5_unlikeWeeks_27 : decode cX5_unlikeWeeks 27 = .ok (.ireturn, 1) := by decide +kernel
theorem dX5_atEnd_0 : decode cX5_atEnd 0 = .ok (.aload_n 0, 1) := by decide +kernel
theorem dX5_atEnd_1 : decode cX5_atEnd 1 = .ok (.getfield 18, 3) := by decide +kernel
theorem dX5_atEnd_4 : decode cX5_atEnd 4 = .ok (.iload_n 1, 1) := by decide +kernel
theorem dX5_atEnd_5 : decode cX5_atEnd 5 = .ok (.iaload, 1) := by decide +kernel
theorem dX5_atEnd_6 : decode cX5_atEnd 6 = .ok (.ldc 22, 2) := by decide +kernel
theorem dX5_atEnd_8 : decode cX5_atEnd 8 = .ok (.if_icmp .eq 10, 3) := by decide +kernel
theorem dX5_atEnd_11 : decode cX5_atEnd 11 = .ok (.aload_n 0, 1) := by decide +kernel
theorem dX5_atEnd_12 : decode cX5_atEnd 12 = .ok (.getfield 18, 3) := by decide +kernel
theorem dX5_atEnd_15 : decode cX5_atEnd 15 = .ok (.iload_n 1, 1) := by decide +kernel
theorem dX5_atEnd_16 : decode cX5_atEnd 16 = .ok (.iaload, 1) := by decide +kernel
theorem dX5_atEnd_17 : decode cX5_atEnd 17 = .ok (.ireturn, 1) := by decide +kernel
theorem dX5_atEnd_18 : decode cX5_atEnd 18 = .ok (.aload_n 0, 1) := by decide +kernel
theorem dX5_atEnd_19 : decode cX5_atEnd 19 = .ok (.getfield 12, 3) := by decide +kernel
theorem dX5_atEnd_22 : decode cX5_atEnd 22 = .ok (.iconst 0, 1) := by decide +kernel
theorem dX5_atEnd_23 : decode cX5_atEnd 23 = .ok (.aaload, 1) := by decide +kernel
theorem dX5_atEnd_24 : decode cX5_atEnd 24 = .ok (.iload_n 1, 1) := by decide +kernel
theorem dX5_atEnd_25 : decode cX5_atEnd 25 = .ok (.invokevirtual 44, 3) := by decide +kernel
theorem dX5_atEnd_28 : decode cX5_atEnd 28 = .ok (.istore_n 3, 1) := by decide +kernel
theorem dX5_atEnd_29 : decode cX5_atEnd 29 = .ok (.aload_n 0, 1) := by decide +kernel
theorem dX5_atEnd_30 : decode cX5_atEnd 30 = .ok (.getfield 12, 3) := by decide +kernel
theorem dX5_atEnd_33 : decode cX5_atEnd 33 = .ok (.iconst 1, 1) := by decide +kernel
theorem dX5_atEnd_34 : decode cX5_atEnd 34 = .ok (.aaload, 1) := by decide +kernel
theorem dX5_atEnd_35 : decode cX5_atEnd 35 = .ok (.iload_n 1, 1) := by decide +kernel
theorem dX5_atEnd_36 : decode cX5_atEnd 36 = .ok (.invokevirtual 44, 3) := by decide +kernel
theorem dX5_atEnd_39 : decode cX5_atEnd 39 = .ok (.istore 4, 2) := by decide +kernel
theorem dX5_atEnd_41 : decode cX5_atEnd 41 = .ok (.iload_n 3, 1) := by decide +kernel
theorem dX5_atEnd_42 : decode cX5_atEnd 42 = .ok (.ldc 22, 2) := by decide +kernel
theorem dX5_atEnd_44 : decode cX5_atEnd 44 = .ok (.if_icmp .ne 12, 3) := by decide +kernel
theorem dX5_atEnd_47 : decode cX5_atEnd 47 = .ok (.iload 4, 2) := by decide +kernel
theorem dX5_atEnd_49 : decode cX5_atEnd 49 = .ok (.ldc 22, 2) := by decide +kernel
theorem dX5_atEnd_51 : decode cX5_atEnd 51 = .ok (.if_icmp .ne 5, 3) := by decide +kernel
theorem dX5_atEnd_54 : decode cX5_atEnd 54 = .ok (.iconst 0, 1) := by decide +kernel
theorem dX5_atEnd_55 : decode cX5_atEnd 55 = .ok (.ireturn, 1) := by decide +kernel
theorem dX5_atEnd_56 : decode cX5_atEnd 56 = .ok (.iload_n 3, 1) := by decide +kernel
theorem dX5_atEnd_57 : decode cX5_atEnd 57 = .ok (.ldc 22, 2) := by decide +kernel
theorem dX5_atEnd_59 : decode cX5_atEnd 59 = .ok (.if_icmp .ne 6, 3) := by decide +kernel
theorem dX5_atEnd_62 : decode cX5_atEnd 62 = .ok (.iload 4, 2) := by decide +kernel
theorem dX5_atEnd_64 : decode cX5_atEnd 64 = .ok (.ireturn, 1) := by decide +kernel
theorem dX5_atEnd_65 : decode cX5_atEnd 65 = .ok (.iload 4, 2) := by decide +kernel
theorem dX5_atEnd_67 : decode cX5_atEnd 67 = .ok (.ldc 22, 2) := by decide +kernel
theorem dX5_atEnd_69 : decode cX5_atEnd 69 = .ok (.if_icmp .ne 5, 3) := by decide +kernel
theorem dX5_atEnd_72 : decode cX5_atEnd 72 = .ok (.iload_n 3, 1) := by decide +kernel
theorem dX5_atEnd_73 : decode cX5_atEnd 73 = .ok (.ireturn, 1) := by decide +kernel
theorem dX5_atEnd_74 : decode cX5_atEnd 74 = .ok (.iload_n 2, 1) := by decide +kernel
theorem dX5_atEnd_75 : decode cX5_atEnd 75 = .ok (.ifCond .eq 12, 3) := by decide +kernel
theorem dX5_atEnd_78 : decode cX5_atEnd 78 = .ok (.iload_n 3, 1) := by decide +kernel
theorem dX5_atEnd_79 : decode cX5_atEnd 79 = .ok (.iload 4, 2) := by decide +kernel
theorem dX5_atEnd_81 : decode cX5_atEnd 81 = .ok (.invokestatic 47, 3) := by decide +kernel
theorem dX5_atEnd_84 : decode cX5_atEnd 84 = .ok (.goto 9, 3) := by decide +kernel
theorem dX5_atEnd_87 : decode cX5_atEnd 87 = .ok (.iload_n 3, 1) := by decide +kernel
theorem dX5_atEnd_88 : decode cX5_atEnd 88 = .ok (.iload 4, 2) := by decide +kernel
theorem dX5_atEnd_90 : decode cX5_atEnd 90 = .ok (.invokestatic 53, 3) := by decide +kernel
theorem dX5_atEnd_93 : decode cX5_atEnd 93 = .ok (.ireturn, 1) := by decide +kernel
theorem dX6_init_0 : decode cX6_init 0 = .ok (.aload_n 0, 1) := by decide +kernel
theorem dX6_init_1 : decode cX6_init 1 = .ok (.invokespecial 3, 3) := by decide +kernel
theorem dX6_init_4 : decode cX6_init 4 = .ok (.aload_n 0, 1) := by decide +kernel
theorem dX6_init_5 : decode cX6_init 5 = .ok (.aload_n 1, 1) := by decide +kernel
theorem dX6_init_6 : decode cX6_init 6 = .ok (.putfield 9, 3) := by decide +kernel
theorem dX6_init_9 : decode cX6_init 9 = .ok (.return_, 1) := by decide +kernel
theorem dX6_readInto_0 : decode cX6_readInto 0 = .ok (.aload_n 0, 1) := by decide +kernel
theorem dX6_readInto_1 : decode cX6_readInto 1 = .ok (.ldc 15, 2) := by decide +kernel
theorem dX6_readInto_3 : decode cX6_readInto 3 = .ok (.putfield 16, 3) := by decide +kernel
theorem dX6_readInto_6 : decode cX6_readInto 6 = .ok (.aload_n 0, 1) := by decide +kernel
theorem dX6_readInto_7 : decode cX6_readInto 7 = .ok (.iconst 0, 1) := by decide +kernel
theorem dX6_readInto_8 : decode cX6_readInto 8 = .ok (.putfield 20, 3) := by decide +kernel
theorem dX6_readInto_11 : decode cX6_readInto 11 = .ok (.aload_n 0, 1) := by decide +kernel
theorem dX6_readInto_12 : decode cX6_readInto 12 = .ok (.invokevirtual 23, 3) := by decide +kernel
theorem dX6_readInto_15 : decode cX6_readInto 15 = .ok (.aload_n 0, 1) := by decide +kernel
theorem dX6_readInto_16 : decode cX6_readInto 16 = .ok (.ldc 26, 2) := by decide +kernel
theorem dX6_readInto_18 : decode cX6_readInto 18 = .ok (.invokevirtual 28, 3) := by decide +kernel
theorem dX6_readInto_21 : decode cX6_readInto 21 = .ok (.aload_n 1, 1) := by decide +kernel
theorem dX6_readInto_22 : decode cX6_readInto 22 = .ok (.aload_n 0, 1) := by decide +kernel
theorem dX6_readInto_23 : decode cX6_readInto 23 = .ok (.iconst 0, 1) := by decide +kernel
theorem dX6_readInto_24 : decode cX6_readInto 24 = .ok (.bipush 60, 2) := by decide +kernel
theorem dX6_readInto_26 : decode cX6_readInto 26 = .ok (.invokevirtual 32, 3) := by decide +kernel
theorem dX6_readInto_29 : decode cX6_readInto 29 = .ok (.putfield 36, 3) := by decide +kernel
theorem dX6_readInto_32 : decode cX6_readInto 32 = .ok (.aload_n 1, 1) := by decide +kernel
theorem dX6_readInto_33 : decode cX6_readInto 33 = .ok (.ldc 41, 2) := by decide +kernel
theorem dX6_readInto_35 : decode cX6_readInto 35 = .ok (.putfield 42, 3) := by decide +kernel
theorem dX6_readInto_38 : decode cX6_readInto 38 = .ok (.aload_n 1, 1) := by decide +kernel
theorem dX6_readInto_39 : decode cX6_readInto 39 = .ok (.iconst 0, 1) := by decide +kernel
theorem dX6_readInto_40 : decode cX6_readInto 40 = .ok (.putfield 45, 3) := by decide +kernel
theorem dX6_readInto_43 : decode cX6_readInto 43 = .ok (.aload_n 0, 1) := by decide +kernel
theorem dX6_readInto_44 : decode cX6_readInto 44 = .ok (.ldc 48, 2) := by decide +kernel
theorem dX6_readInto_46 : decode cX6_readInto 46 = .ok (.invokevirtual 50, 3) := by decide +kernel
theorem dX6_readInto_49 : decode cX6_readInto 49 = .ok (.ifCond .eq 31, 3) := by decide +kernel
theorem dX6_readInto_52 : decode cX6_readInto 52 = .ok (.aload_n 1, 1) := by decide +kernel
theorem dX6_readInto_53 : decode cX6_readInto 53 = .ok (.aload_n 0, 1) := by decide +kernel
theorem dX6_readInto_54 : decode cX6_readInto 54 = .ok (.iconst 1, 1) := by decide +kernel
theorem dX6_readInto_55 : decode cX6_readInto 55 = .ok (.ldc 54, 2) := by decide +kernel
theorem dX6_readInto_57 : decode cX6_readInto 57 = .ok (.invokevirtual 32, 3) := by decide +kernel
theorem dX6_readInto_60 : decode cX6_readInto 60 = .ok (.putfield 42, 3) := by decide +kernel
theorem dX6_readInto_63 : decode cX6_readInto 63 = .ok (.aload_n 0, 1) := by decide +kernel
theorem dX6_readInto_64 : decode cX6_readInto 64 = .ok (.ldc 26, 2) := by decide +kernel
theorem dX6_readInto_66 : decode cX6_readInto 66 = .ok (.invokevirtual 28, 3) := by decide +kernel
theorem dX6_readInto_69 : decode cX6_readInto 69 = .ok (.aload_n 1, 1) := by decide +kernel
theorem dX6_readInto_70 : decode cX6_readInto 70 = .ok (.aload_n 0, 1) := by decide +kernel
theorem dX6_readInto_71 : decode cX6_readInto 71 = .ok (.iconst 0, 1) := by decide +kernel
theorem dX6_readInto_72 : decode cX6_readInto 72 = .ok (.bipush 60, 2) := by decide +kernel
theorem dX6_readInto_74 : decode cX6_readInto 74 = .ok (.invokevirtual 32, 3) := by decide +kernel
theorem dX6_readInto_77 : decode cX6_readInto 77 = .ok (.putfield 45, 3) := by decide +kernel
theorem dX6_readInto_80 : decode cX6_readInto 80 = .ok (.aload_n 1, 1) := by decide +kernel
theorem dX6_readInto_81 : decode cX6_readInto 81 = .ok (.aload_n 0, 1) := by decide +kernel
theorem dX6_readInto_82 : decode cX6_readInto 82 = .ok (.ldc 55, 2) := by decide +kernel
theorem dX6_readInto_84 : decode cX6_readInto 84 = .ok (.iconst 0, 1) := by decide +kernel
theorem dX6_readInto_85 : decode cX6_readInto 85 = .ok (.bipush 14, 2) := by decide +kernel
theorem dX6_readInto_87 : decode cX6_readInto 87 = .ok (.iconst 0, 1) := by decide +kernel
theorem dX6_readInto_88 : decode cX6_readInto 88 = .ok (.invokevirtual 57, 3) := by decide +kernel
theorem dX6_readInto_91 : decode cX6_readInto 91 = .ok (.putfield 61, 3) := by decide +kernel
theorem dX6_readInto_94 : decode cX6_readInto 94 = .ok (.aload_n 1, 1) := by decide +kernel
theorem dX6_readInto_95 : decode cX6_readInto 95 = .ok (.aload_n 0, 1) := by decide +kernel
theorem dX6_readInto_96 : decode cX6_readInto 96 = .ok (.ldc 64, 2) := by decide +kernel
theorem dX6_readInto_98 : decode cX6_readInto 98 = .ok (.iconst 0, 1) := by decide +kernel
theorem dX6_readInto_99 : decode cX6_readInto 99 = .ok (.bipush 20, 2) := by decide +kernel
theorem dX6_readInto_101 : decode cX6_readInto 101 = .ok (.iconst 0, 1) := by decide +kernel
theorem dX6_readInto_102 : decode cX6_readInto 102 = .ok (.invokevirtual 57, 3) := by decide +kernel
theorem dX6_readInto_105 : decode cX6_readInto 105 = .ok (.putfield 66, 3) := by decide +kernel
theorem dX6_readInto_108 : decode cX6_readInto 108 = .ok (.aload_n 1, 1) := by decide +kernel
theorem dX6_readInto_109 : decode cX6_readInto 109 = .ok (.aload_n 0, 1) := by decide +kernel
theorem dX6_readInto_110 : decode cX6_readInto 110 = .ok (.ldc 69, 2) := by decide +kernel
theorem dX6_readInto_112 : decode cX6_readInto 112 = .ok (.iconst 0, 1) := by decide +kernel
theorem dX6_readInto_113 : decode cX6_readInto 113 = .ok (.ldc 54, 2) := by decide +kernel
theorem dX6_readInto_115 : decode cX6_readInto 115 = .ok (.iconst 0, 1) := by decide +kernel
theorem dX6_readInto_116 : decode cX6_readInto 116 = .ok (.invokevirtual 57, 3) := by decide +kernel
theorem dX6_readInto_119 : decode cX6_readInto 119 = .ok (.putfield 71, 3) := by decide +kernel
theorem dX6_readInto_122 : decode cX6_readInto 122 = .ok (.aload_n 1, 1) := by decide +kernel
theorem dX6_readInto_123 : decode cX6_readInto 123 = .ok (.aload_n 0, 1) := by decide +kernel
theorem dX6_readInto_124 : decode cX6_readInto 124 = .ok (.ldc 73, 2) := by decide +kernel
theorem dX6_readInto_126 : decode cX6_readInto 126 = .ok (.iconst 1, 1) := by decide +kernel
theorem dX6_readInto_127 : decode cX6_readInto 127 = .ok (.aload_n 1, 1) := by decide +kernel
theorem dX6_readInto_128 : decode cX6_readInto 128 = .ok (.getfield 71, 3) := by decide +kernel
theorem dX6_readInto_131 : decode cX6_readInto 131 = .ok (.invokestatic 75, 3) := by decide +kernel
theorem dX6_readInto_134 : decode cX6_readInto 134 = .ok (.ldc 54, 2) := by decide +kernel
theorem dX6_readInto_136 : decode cX6_readInto 136 = .ok (.ldc 41, 2) := by decide +kernel
theorem dX6_readInto_138 : decode cX6_readInto 138 = .ok (.invokevirtual 57, 3) := by decide +kernel
theorem dX6_readInto_141 : decode cX6_readInto 141 = .ok (.putfield 80, 3) := by decide +kernel
theorem dX6_readInto_144 : decode cX6_readInto 144 = .ok (.aload_n 0, 1) := by decide +kernel
theorem dX6_readInto_145 : decode cX6_readInto 145 = .ok (.getfield 16, 3) := by decide +kernel
theorem dX6_readInto_148 : decode cX6_readInto 148 = .ok (.ldc 15, 2) := by decide +kernel
theorem dX6_readInto_150 : decode cX6_readInto 150 = .ok (.if_icmp .ne 25, 3) := by decide +kernel
theorem dX6_readInto_153 : decode cX6_readInto 153 = .ok (.aload_n 0, 1) := by decide +kernel
theorem dX6_readInto_154 : decode cX6_readInto 154 = .ok (.getfield 82, 3) := by decide +kernel
theorem dX6_readInto_157 : decode cX6_readInto 157 = .ok (.aload_n 0, 1) := by decide +kernel
theorem dX6_readInto_158 : decode cX6_readInto 158 = .ok (.getfield 9, 3) := by decide +kernel
theorem dX6_readInto_161 : decode cX6_readInto 161 = .ok (.getfield 85, 3) := by decide +kernel
theorem dX6_readInto_164 : decode cX6_readInto 164 = .ok (.if_icmp .ge 11, 3) := by decide +kernel
theorem dX6_readInto_167 : decode cX6_readInto 167 = .ok (.aload_n 0, 1) := by decide +kernel
theorem dX6_readInto_168 : decode cX6_readInto 168 = .ok (.aload_n 0, 1) := by decide +kernel
theorem dX6_readInto_169 : decode cX6_readInto 169 = .ok (.getfield 82, 3) := by decide +kernel
theorem dX6_readInto_172 : decode cX6_readInto 172 = .ok (.putfield 16, 3) := by decide +kernel
theorem dX6_readInto_175 : decode cX6_readInto 175 = .ok (.aload_n 0, 1) := by decide +kernel
theorem dX6_readInto_176 : decode cX6_readInto 176 = .ok (.getfield 16, 3) := by decide +kernel
theorem dX6_readInto_179 : decode cX6_readInto 179 = .ok (.ireturn, 1) := by decide +kernel
theorem dX6_step_0 : decode cX6_step 0 = .ok (.aload_n 0, 1) := by decide +kernel
theorem dX6_step_1 : decode cX6_step 1 = .ok (.aload_n 0, 1) := by decide +kernel
theorem dX6_step_2 : decode cX6_step 2 = .ok (.getfield 20, 3) := by decide +kernel
theorem dX6_step_5 : decode cX6_step 5 = .ok (.putfield 82, 3) := by decide +kernel
theorem dX6_step_8 : decode cX6_step 8 = .ok (.aload_n 0, 1) := by decide +kernel
theorem dX6_step_9 : decode cX6_step 9 = .ok (.getfield 82, 3) := by decide +kernel
theorem dX6_step_12 : decode cX6_step 12 = .ok (.aload_n 0, 1) := by decide +kernel
theorem dX6_step_13 : decode cX6_step 13 = .ok (.getfield 9, 3) := by decide +kernel
theorem dX6_step_16 : decode cX6_step 16 = .ok (.getfield 85, 3) := by decide +kernel
theorem dX6_step_19 : decode cX6_step 19 = .ok (.if_icmp .ge 33, 3) := by decide +kernel
theorem dX6_step_22 : decode cX6_step 22 = .ok (.aload_n 0, 1) := by decide +kernel
theorem dX6_step_23 : decode cX6_step 23 = .ok (.getfield 9, 3) := by decide +kernel
theorem dX6_step_26 : decode cX6_step 26 = .ok (.getfield 90, 3) := by decide +kernel
theorem dX6_step_29 : decode cX6_step 29 = .ok (.aload_n 0, 1) := by decide +kernel
theorem dX6_step_30 : decode cX6_step 30 = .ok (.getfield 82, 3) := by decide +kernel
theorem dX6_step_33 : decode cX6_step 33 = .ok (.baload, 1) := by decide +kernel
theorem dX6_step_34 : decode cX6_step 34 = .ok (.bipush 32, 2) := by decide +kernel
theorem dX6_step_36 : decode cX6_step 36 = .ok (.if_icmp .ne 16, 3) := by decide +kernel
theorem dX6_step_39 : decode cX6_step 39 = .ok (.aload_n 0, 1) := by decide +kernel
theorem dX6_step_40 : decode cX6_step 40 = .ok (.dup, 1) := by decide +kernel
theorem dX6_step_41 : decode cX6_step 41 = .ok (.getfield 82, 3) := by decide +kernel
theorem dX6_step_44 : decode cX6_step 44 = .ok (.iconst 1, 1) := by decide +kernel
theorem dX6_step_45 : decode cX6_step 45 = .ok (.iadd, 1) := by decide +kernel
theorem dX6_step_46 : decode cX6_step 46 = .ok (.putfield 82, 3) := by decide +kernel
theorem dX6_step_49 : decode cX6_step 49 = .ok (.goto (-41), 3) := by decide +kernel
theorem dX6_step_52 : decode cX6_step 52 = .ok (.aload_n 0, 1) := by decide +kernel
theorem dX6_step_53 : decode cX6_step 53 = .ok (.aload_n 0, 1) := by decide +kernel
theorem dX6_step_54 : decode cX6_step 54 = .ok (.getfield 82, 3) := by decide +kernel
theorem dX6_step_57 : decode cX6_step 57 = .ok (.putfield 20, 3) := by decide +kernel
theorem dX6_step_60 : decode cX6_step 60 = .ok (.aload_n 0, 1) := by decide +kernel
theorem dX6_step_61 : decode cX6_step 61 = .ok (.getfield 20, 3) := by decide +kernel
theorem dX6_step_64 : decode cX6_step 64 = .ok (.aload_n 0, 1) := by decide +kernel
theorem dX6_step_65 : decode cX6_step 65 = .ok (.getfield 9, 3) := by decide +kernel
theorem dX6_step_68 : decode cX6_step 68 = .ok (.getfield 85, 3) := by decide +kernel
theorem dX6_step_71 : decode cX6_step 71 = .ok (.if_icmp .ge 33, 3) := by decide +kernel
theorem dX6_step_74 : decode cX6_step 74 = .ok (.aload_n 0, 1) := by decide +kernel
theorem dX6_step_75 : decode cX6_step 75 = .ok (.getfield 9, 3) := by decide +kernel
theorem dX6_step_78 : decode cX6_step 78 = .ok (.getfield 90, 3) := by decide +kernel
theorem dX6_step_81 : decode cX6_step 81 = .ok (.aload_n 0, 1) := by decide +kernel
theorem dX6_step_82 : decode cX6_step 82 = .ok (.getfield 20, 3) := by decide +kernel
theorem dX6_step_85 : decode cX6_step 85 = .ok (.baload, 1) := by decide +kernel
theorem dX6_step_86 : decode cX6_step 86 = .ok (.bipush 32, 2) := by decide +kernel
theorem dX6_step_88 : decode cX6_step 88 = .ok (.if_icmp .eq 16, 3) := by decide +kernel
theorem dX6_step_91 : decode cX6_step 91 = .ok (.aload_n 0, 1) := by decide +kernel
theorem dX6_step_92 : decode cX6_step 92 = .ok (.dup, 1) := by decide +kernel
theorem dX6_step_93 : decode cX6_step 93 = .ok (.getfield 20, 3) := by decide +kernel
theorem dX6_step_96 : decode cX6_step 96 = .ok (.iconst 1, 1) := by decide +kernel
theorem dX6_step_97 : decode cX6_step 97 = .ok (.iadd, 1) := by decide +kernel
theorem dX6_step_98 : decode cX6_step 98 = .ok (.putfield 20, 3) := by decide +kernel
theorem dX6_step_101 : decode cX6_step 101 = .ok (.goto (-41), 3) := by decide +kernel
theorem dX6_step_104 : decode cX6_step 104 = .ok (.return_, 1) := by decide +kernel
theorem dX6_skip_0 : decode cX6_skip 0 = .ok (.aload_n 0, 1) := by decide +kernel
theorem dX6_skip_1 : decode cX6_skip 1 = .ok (.getfield 16, 3) := by decide +kernel
theorem dX6_skip_4 : decode cX6_skip 4 = .ok (.ldc 15, 2) := by decide +kernel
theorem dX6_skip_6 : decode cX6_skip 6 = .ok (.if_icmp .ne 11, 3) := by decide +kernel
theorem dX6_skip_9 : decode cX6_skip 9 = .ok (.aload_n 0, 1) := by decide +kernel
theorem dX6_skip_10 : decode cX6_skip 10 = .ok (.aload_n 1, 1) := by decide +kernel
theorem dX6_skip_11 : decode cX6_skip 11 = .ok (.invokevirtual 94, 3) := by decide +kernel
theorem dX6_skip_14 : decode cX6_skip 14 = .ok (.ifCond .ne 5, 3) := by decide +kernel
theorem dX6_skip_17 : decode cX6_skip 17 = .ok (.iconst 0, 1) := by decide +kernel
theorem dX6_skip_18 : decode cX6_skip 18 = .ok (.ireturn, 1) := by decide +kernel
theorem dX6_skip_19 : decode cX6_skip 19 = .ok (.aload_n 0, 1) := by decide +kernel
theorem dX6_skip_20 : decode cX6_skip 20 = .ok (.invokevirtual 23, 3) := by decide +kernel
theorem dX6_skip_23 : decode cX6_skip 23 = .ok (.iconst 1, 1) := by decide +kernel
theorem dX6_skip_24 : decode cX6_skip 24 = .ok (.ireturn, 1) := by decide +kernel
theorem dX6_need_0 : decode cX6_need 0 = .ok (.aload_n 0, 1) := by decide +kernel
theorem dX6_need_1 : decode cX6_need 1 = .ok (.aload_n 1, 1) := by decide +kernel
theorem dX6_need_2 : decode cX6_need 2 = .ok (.invokevirtual 50, 3) := by decide +kernel
theorem dX6_need_5 : decode cX6_need 5 = .ok (.ifCond .ne 20, 3) := by decide +kernel
theorem dX6_need_8 : decode cX6_need 8 = .ok (.aload_n 0, 1) := by decide +kernel
theorem dX6_need_9 : decode cX6_need 9 = .ok (.getfield 16, 3) := by decide +kernel
theorem dX6_need_12 : decode cX6_need 12 = .ok (.ldc 15, 2) := by decide +kernel
theorem dX6_need_14 : decode cX6_need 14 = .ok (.if_icmp .ne 11, 3) := by decide +kernel
theorem dX6_need_17 : decode cX6_need 17 = .ok (.aload_n 0, 1) := by decide +kernel
theorem dX6_need_18 : decode cX6_need 18 = .ok (.aload_n 0, 1) := by decide +kernel
theorem dX6_need_19 : decode cX6_need 19 = .ok (.getfield 82, 3) := by decide +kernel
theorem dX6_need_22 : decode cX6_need 22 = .ok (.putfield 16, 3) := by decide +kernel
theorem dX6_need_25 : decode cX6_need 25 = .ok (.return_, 1) := by decide +kernel
theorem dX6_option_0 : decode cX6_option 0 = .ok (.aload_n 0, 1) := by decide +kernel
theorem dX6_option_1 : decode cX6_option 1 = .ok (.aload_n 1, 1) := by decide +kernel
theorem dX6_option_2 : decode cX6_option 2 = .ok (.invokevirtual 50, 3) := by decide +kernel
theorem dX6_option_5 : decode cX6_option 5 = .ok (.ifCond .eq 12, 3) := by decide +kernel
theorem dX6_option_8 : decode cX6_option 8 = .ok (.aload_n 0, 1) := by decide +kernel
theorem dX6_option_9 : decode cX6_option 9 = .ok (.iload_n 2, 1) := by decide +kernel
theorem dX6_option_10 : decode cX6_option 10 = .ok (.iload_n 3, 1) := by decide +kernel
theorem dX6_option_11 : decode cX6_option 11 = .ok (.invokevirtual 32, 3) := by decide +kernel
theorem dX6_option_14 : decode cX6_option 14 = .ok (.goto 5, 3) := by decide +kernel
theorem dX6_option_17 : decode cX6_option 17 = .ok (.iload 4, 2) := by decide +kernel
theorem dX6_option_19 : decode cX6_option 19 = .ok (.ireturn, 1) := by decide +kernel
theorem dX6_number_0 : decode cX6_number 0 = .ok (.aload_n 0, 1) := by decide +kernel
theorem dX6_number_1 : decode cX6_number 1 = .ok (.getfield 16, 3) := by decide +kernel
theorem dX6_number_4 : decode cX6_number 4 = .ok (.ldc 15, 2) := by decide +kernel
theorem dX6_number_6 : decode cX6_number 6 = .ok (.if_icmp .eq 5, 3) := by decide +kernel
theorem dX6_number_9 : decode cX6_number 9 = .ok (.iconst 0, 1) := by decide +kernel
theorem dX6_number_10 : decode cX6_number 10 = .ok (.ireturn, 1) := by decide +kernel
theorem dX6_number_11 : decode cX6_number 11 = .ok (.aload_n 0, 1) := by decide +kernel
theorem dX6_number_12 : decode cX6_number 12 = .ok (.invokevirtual 97, 3) := by decide +kernel
theorem dX6_number_15 : decode cX6_number 15 = .ok (.istore_n 3, 1) := by decide +kernel
theorem dX6_number_16 : decode cX6_number 16 = .ok (.iload_n 3, 1) := by decide +kernel
theorem dX6_number_17 : decode cX6_number 17 = .ok (.iload_n 1, 1) := by decide +kernel
theorem dX6_number_18 : decode cX6_number 18 = .ok (.if_icmp .lt 8, 3) := by decide +kernel
theorem dX6_number_21 : decode cX6_number 21 = .ok (.iload_n 3, 1) := by decide +kernel
theorem dX6_number_22 : decode cX6_number 22 = .ok (.iload_n 2, 1) := by decide +kernel
theorem dX6_number_23 : decode cX6_number 23 = .ok (.if_icmp .le 13, 3) := by decide +kernel
theorem dX6_number_26 : decode cX6_number 26 = .ok (.aload_n 0, 1) := by decide +kernel
theorem dX6_number_27 : decode cX6_number 27 = .ok (.aload_n 0, 1) := by decide +kernel
theorem dX6_number_28 : decode cX6_number 28 = .ok (.getfield 82, 3) := by decide +kernel
theorem dX6_number_31 : decode cX6_number 31 = .ok (.putfield 16, 3) := by decide +kernel
theorem dX6_number_34 : decode cX6_number 34 = .ok (.iconst 0, 1) := by decide +kernel
theorem dX6_number_35 : decode cX6_number 35 = .ok (.ireturn, 1) := by decide +kernel
theorem dX6_number_36 : decode cX6_number 36 = .ok (.aload_n 0, 1) := by decide +kernel
theorem dX6_number_37 : decode cX6_number 37 = .ok (.invokevirtual 23, 3) := by decide +kernel
theorem dX6_number_40 : decode cX6_number 40 = .ok (.iload_n 3, 1) := by decide +kernel
theorem dX6_number_41 : decode cX6_number 41 = .ok (.ireturn, 1) := by decide +kernel
theorem dX6_isAt_0 : decode cX6_isAt 0 = .ok (.aload_n 0, 1) := by decide +kernel
theorem dX6_isAt_1 : decode cX6_isAt 1 = .ok (.getfield 20, 3) := by decide +kernel
theorem dX6_isAt_4 : decode cX6_isAt 4 = .ok (.aload_n 0, 1) := by decide +kernel
theorem dX6_isAt_5 : decode cX6_isAt 5 = .ok (.getfield 82, 3) := by decide +kernel
theorem dX6_isAt_8 : decode cX6_isAt 8 = .ok (.isub, 1) := by decide +kernel
theorem dX6_isAt_9 : decode cX6_isAt 9 = .ok (.aload_n 1, 1) := by decide +kernel
theorem dX6_isAt_10 : decode cX6_isAt 10 = .ok (.invokevirtual 101, 3) := by decide +kernel
theorem dX6_isAt_13 : decode cX6_isAt 13 = .ok (.if_icmp .eq 5, 3) := by decide +kernel
theorem dX6_isAt_16 : decode cX6_isAt 16 = .ok (.iconst 0, 1) := by decide +kernel
theorem dX6_isAt_17 : decode cX6_isAt 17 = .ok (.ireturn, 1) := by decide +kernel
theorem dX6_isAt_18 : decode cX6_isAt 18 = .ok (.iconst 0, 1) := by decide +kernel
theorem dX6_isAt_19 : decode cX6_isAt 19 = .ok (.istore_n 2, 1) := by decide +kernel
theorem dX6_isAt_20 : decode cX6_isAt 20 = .ok (.iload_n 2, 1) := by decide +kernel
theorem dX6_isAt_21 : decode cX6_isAt 21 = .ok (.aload_n 1, 1) := by decide +kernel
theorem dX6_isAt_22 : decode cX6_isAt 22 = .ok (.invokevirtual 101, 3) := by decide +kernel
theorem dX6_isAt_25 : decode cX6_isAt 25 = .ok (.if_icmp .ge 33, 3) := by decide +kernel
theorem dX6_isAt_28 : decode cX6_isAt 28 = .ok (.aload_n 0, 1) := by decide +kernel
theorem dX6_isAt_29 : decode cX6_isAt 29 = .ok (.getfield 9, 3) := by decide +kernel
theorem dX6_isAt_32 : decode cX6_isAt 32 = .ok (.getfield 90, 3) := by decide +kernel
theorem dX6_isAt_35 : decode cX6_isAt 35 = .ok (.aload_n 0, 1) := by decide +kernel
theorem dX6_isAt_36 : decode cX6_isAt 36 = .ok (.getfield 82, 3) := by decide +kernel
theorem dX6_isAt_39 : decode cX6_isAt 39 = .ok (.iload_n 2, 1) := by decide +kernel
theorem dX6_isAt_40 : decode cX6_isAt 40 = .ok (.iadd, 1) := by decide +kernel
theorem dX6_isAt_41 : decode cX6_isAt 41 = .ok (.baload, 1) := by decide +kernel
theorem dX6_isAt_42 : decode cX6_isAt 42 = .ok (.aload_n 1, 1) := by decide +kernel
theorem dX6_isAt_43 : decode cX6_isAt 43 = .ok (.iload_n 2, 1) := by decide +kernel
theorem dX6_isAt_44 : decode cX6_isAt 44 = .ok (.invokevirtual 106, 3) := by decide +kernel
theorem dX6_isAt_47 : decode cX6_isAt 47 = .ok (.if_icmp .eq 5, 3) := by decide +kernel
theorem dX6_isAt_50 : decode cX6_isAt 50 = .ok (.iconst 0, 1) := by decide +kernel
theorem dX6_isAt_51 : decode cX6_isAt 51 = .ok (.ireturn, 1) := by decide +kernel
theorem dX6_isAt_52 : decode cX6_isAt 52 = .ok (.iinc 2 1, 3) := by decide +kernel
theorem dX6_isAt_55 : decode cX6_isAt 55 = .ok (.goto (-35), 3) := by decide +kernel
theorem dX6_isAt_58 : decode cX6_isAt 58 = .ok (.iconst 1, 1) := by decide +kernel
theorem dX6_isAt_59 : decode cX6_isAt 59 = .ok (.ireturn, 1) := by decide +kernel
theorem dX6_digits_0 : decode cX6_digits 0 = .ok (.aload_n 0, 1) := by decide +kernel
theorem dX6_digits_1 : decode cX6_digits 1 = .ok (.getfield 82, 3) := by decide +kernel
theorem dX6_digits_4 : decode cX6_digits 4 = .ok (.aload_n 0, 1) := by decide +kernel
theorem dX6_digits_5 : decode cX6_digits 5 = .ok (.getfield 20, 3) := by decide +kernel
theorem dX6_digits_8 : decode cX6_digits 8 = .ok (.if_icmp .ne 5, 3) := by decide +kernel
theorem dX6_digits_11 : decode cX6_digits 11 = .ok (.iconst (-1), 1) := by decide +kernel
theorem dX6_digits_12 : decode cX6_digits 12 = .ok (.ireturn, 1) := by decide +kernel
theorem dX6_digits_13 : decode cX6_digits 13 = .ok (.iconst 0, 1) := by decide +kernel
theorem dX6_digits_14 : decode cX6_digits 14 = .ok (.istore_n 1, 1) := by decide +kernel
theorem dX6_digits_15 : decode cX6_digits 15 = .ok (.aload_n 0, 1) := by decide +kernel
theorem dX6_digits_16 : decode cX6_digits 16 = .ok (.getfield 82, 3) := by decide +kernel
theorem dX6_digits_19 : decode cX6_digits 19 = .ok (.istore_n 2, 1) := by decide +kernel
theorem dX6_digits_20 : decode cX6_digits 20 = .ok (.iload_n 2, 1) := by decide +kernel
theorem dX6_digits_21 : decode cX6_digits 21 = .ok (.aload_n 0, 1) := by decide +kernel
theorem dX6_digits_22 : decode cX6_digits 22 = .ok (.getfield 20, 3) := by decide +kernel
theorem dX6_digits_25 : decode cX6_digits 25 = .ok (.if_icmp .ge 45, 3) := by decide +kernel
theorem dX6_digits_28 : decode cX6_digits 28 = .ok (.aload_n 0, 1) := by decide +kernel
theorem dX6_digits_29 : decode cX6_digits 29 = .ok (.getfield 9, 3) := by decide +kernel
theorem dX6_digits_32 : decode cX6_digits 32 = .ok (.getfield 90, 3) := by decide +kernel
theorem dX6_digits_35 : decode cX6_digits 35 = .ok (.iload_n 2, 1) := by decide +kernel
theorem dX6_digits_36 : decode cX6_digits 36 = .ok (.baload, 1) := by decide +kernel
theorem dX6_digits_37 : decode cX6_digits 37 = .ok (.bipush 48, 2) := by decide +kernel
theorem dX6_digits_39 : decode cX6_digits 39 = .ok (.isub, 1) := by decide +kernel
theorem dX6_digits_40 : decode cX6_digits 40 = .ok (.istore_n 3, 1) := by decide +kernel
theorem dX6_digits_41 : decode cX6_digits 41 = .ok (.iload_n 3, 1) := by decide +kernel
theorem dX6_digits_42 : decode cX6_digits 42 = .ok (.bipush 10, 2) := by decide +kernel
theorem dX6_digits_44 : decode cX6_digits 44 = .ok (.invokestatic 110, 3) := by decide +kernel
theorem dX6_digits_47 : decode cX6_digits 47 = .ok (.ifCond .ne 5, 3) := by decide +kernel
theorem dX6_digits_50 : decode cX6_digits 50 = .ok (.iconst (-1), 1) := by decide +kernel
theorem dX6_digits_51 : decode cX6_digits 51 = .ok (.ireturn, 1) := by decide +kernel
theorem dX6_digits_52 : decode cX6_digits 52 = .ok (.ldc 114, 2) := by decide +kernel
theorem dX6_digits_54 : decode cX6_digits 54 = .ok (.iload_n 1, 1) := by decide +kernel
theorem dX6_digits_55 : decode cX6_digits 55 = .ok (.bipush 10, 2) := by decide +kernel
theorem dX6_digits_57 : decode cX6_digits 57 = .ok (.imul, 1) := by decide +kernel
theorem dX6_digits_58 : decode cX6_digits 58 = .ok (.iload_n 3, 1) := by decide +kernel
theorem dX6_digits_59 : decode cX6_digits 59 = .ok (.iadd, 1) := by decide +kernel
theorem dX6_digits_60 : decode cX6_digits 60 = .ok (.invokestatic 115, 3) := by decide +kernel
theorem dX6_digits_63 : decode cX6_digits 63 = .ok (.istore_n 1, 1) := by decide +kernel
theorem dX6_digits_64 : decode cX6_digits 64 = .ok (.iinc 2 1, 3) := by decide +kernel
theorem dX6_digits_67 : decode cX6_digits 67 = .ok (.goto (-47), 3) := by decide +kernel
theorem dX6_digits_70 : decode cX6_digits 70 = .ok (.iload_n 1, 1) := by decide +kernel
theorem dX6_digits_71 : decode cX6_digits 71 = .ok (.ireturn, 1) := by decide +kernel
theorem dX7_init_0 : decode cX7_init 0 = .ok (.aload_n 0, 1) := by decide +kernel
theorem dX7_init_1 : decode cX7_init 1 = .ok (.invokespecial 3, 3) := by decide +kernel
theorem dX7_init_4 : decode cX7_init 4 = .ok (.aload_n 0, 1) := by decide +kernel
theorem dX7_init_5 : decode cX7_init 5 = .ok (.bipush 120, 2) := by decide +kernel
theorem dX7_init_7 : decode cX7_init 7 = .ok (.newarray .byte, 2) := by decide +kernel
theorem dX7_init_9 : decode cX7_init 9 = .ok (.putfield 9, 3) := by decide +kernel
theorem dX7_init_12 : decode cX7_init 12 = .ok (.aload_n 0, 1) := by decide +kernel
theorem dX7_init_13 : decode cX7_init 13 = .ok (.iconst (-1), 1) := by decide +kernel
theorem dX7_init_14 : decode cX7_init 14 = .ok (.putfield 15, 3) := by decide +kernel
theorem dX7_init_17 : decode cX7_init 17 = .ok (.return_, 1) := by decide +kernel
theorem dX7_makeAnew_0 : decode cX7_makeAnew 0 = .ok (.aload_n 0, 1) := by decide +kernel
theorem dX7_makeAnew_1 : decode cX7_makeAnew 1 = .ok (.getfield 9, 3) := by decide +kernel
theorem dX7_makeAnew_4 : decode cX7_makeAnew 4 = .ok (.iconst 0, 1) := by decide +kernel
theorem dX7_makeAnew_5 : decode cX7_makeAnew 5 = .ok (.invokestatic 19, 3) := by decide +kernel
theorem dX7_makeAnew_8 : decode cX7_makeAnew 8 = .ok (.aload_n 0, 1) := by decide +kernel
theorem dX7_makeAnew_9 : decode cX7_makeAnew 9 = .ok (.iload_n 1, 1) := by decide +kernel
theorem dX7_makeAnew_10 : decode cX7_makeAnew 10 = .ok (.putfield 15, 3) := by decide +kernel
theorem dX7_makeAnew_13 : decode cX7_makeAnew 13 = .ok (.return_, 1) := by decide +kernel
theorem dX7_isMissing_0 : decode cX7_isMissing 0 = .ok (.aload_n 0, 1) := by decide +kernel
theorem dX7_isMissing_1 : decode cX7_isMissing 1 = .ok (.getfield 15, 3) := by decide +kernel
theorem dX7_isMissing_4 : decode cX7_isMissing 4 = .ok (.iconst (-1), 1) := by decide +kernel
theorem dX7_isMissing_5 : decode cX7_isMissing 5 = .ok (.if_icmp .ne 7, 3) := by decide +kernel
theorem dX7_isMissing_8 : decode cX7_isMissing 8 = .ok (.iconst 1, 1) := by decide +kernel
theorem dX7_isMissing_9 : decode cX7_isMissing 9 = .ok (.goto 4, 3) := by decide +kernel
theorem dX7_isMissing_12 : decode cX7_isMissing 12 = .ok (.iconst 0, 1) := by decide +kernel
theorem dX7_isMissing_13 : decode cX7_isMissing 13 = .ok (.ireturn, 1) := by decide +kernel
theorem dX7_hasRun_0 : decode cX7_hasRun 0 = .ok (.iload_n 1, 1) := by decide +kernel
theorem dX7_hasRun_1 : decode cX7_hasRun 1 = .ok (.ifCond .lt 21, 3) := by decide +kernel
theorem dX7_hasRun_4 : decode cX7_hasRun 4 = .ok (.iload_n 2, 1) := by decide +kernel
theorem dX7_hasRun_5 : decode cX7_hasRun 5 = .ok (.ifCond .lt 17, 3) := by decide +kernel
theorem dX7_hasRun_8 : decode cX7_hasRun 8 = .ok (.iload_n 1, 1) := by decide +kernel
theorem dX7_hasRun_9 : decode cX7_hasRun 9 = .ok (.aload_n 0, 1) := by decide +kernel
theorem dX7_hasRun_10 : decode cX7_hasRun 10 = .ok (.getfield 15, 3) := by decide +kernel
theorem dX7_hasRun_13 : decode cX7_hasRun 13 = .ok (.iload_n 2, 1) := by decide +kernel
theorem dX7_hasRun_14 : decode cX7_hasRun 14 = .ok (.isub, 1) := by decide +kernel
theorem dX7_hasRun_15 : decode cX7_hasRun 15 = .ok (.if_icmp .gt 7, 3) := by decide +kernel
theorem dX7_hasRun_18 : decode cX7_hasRun 18 = .ok (.iconst 1, 1) := by decide +kernel
theorem dX7_hasRun_19 : decode cX7_hasRun 19 = .ok (.goto 4, 3) := by decide +kernel
theorem dX7_hasRun_22 : decode cX7_hasRun 22 = .ok (.iconst 0, 1) := by decide +kernel
theorem dX7_hasRun_23 : decode cX7_hasRun 23 = .ok (.ireturn, 1) := by decide +kernel
theorem dX7_toldFor_0 : decode cX7_toldFor 0 = .ok (.iload_n 1, 1) := by decide +kernel
theorem dX7_toldFor_1 : decode cX7_toldFor 1 = .ok (.aload_n 0, 1) := by decide +kernel
theorem dX7_toldFor_2 : decode cX7_toldFor 2 = .ok (.getfield 15, 3) := by decide +kernel
theorem dX7_toldFor_5 : decode cX7_toldFor 5 = .ok (.invokestatic 25, 3) := by decide +kernel
theorem dX7_toldFor_8 : decode cX7_toldFor 8 = .ok (.ifCond .eq 15, 3) := by decide +kernel
theorem dX7_toldFor_11 : decode cX7_toldFor 11 = .ok (.aload_n 0, 1) := by decide +kernel
theorem dX7_toldFor_12 : decode cX7_toldFor 12 = .ok (.getfield 9, 3) := by decide +kernel
theorem dX7_toldFor_15 : decode cX7_toldFor 15 = .ok (.iload_n 1, 1) := by decide +kernel
theorem dX7_toldFor_16 : decode cX7_toldFor 16 = .ok (.baload, 1) := by decide +kernel
theorem dX7_toldFor_17 : decode cX7_toldFor 17 = .ok (.invokestatic 29, 3) := by decide +kernel
theorem dX7_toldFor_20 : decode cX7_toldFor 20 = .ok (.ifCond .ne 6, 3) := by decide +kernel
theorem dX7_toldFor_23 : decode cX7_toldFor 23 = .ok (.ldc 33, 2) := by decide +kernel
theorem dX7_toldFor_25 : decode cX7_toldFor 25 = .ok (.ireturn, 1) := by decide +kernel
theorem dX7_toldFor_26 : decode cX7_toldFor 26 = .ok (.aload_n 0, 1) := by decide +kernel
theorem dX7_toldFor_27 : decode cX7_toldFor 27 = .ok (.getfield 9, 3) := by decide +kernel
theorem dX7_toldFor_30 : decode cX7_toldFor 30 = .ok (.iload_n 1, 1) := by decide +kernel
theorem dX7_toldFor_31 : decode cX7_toldFor 31 = .ok (.baload, 1) := by decide +kernel
theorem dX7_toldFor_32 : decode cX7_toldFor 32 = .ok (.ireturn, 1) := by decide +kernel
theorem dX8_init_0 : decode cX8_init 0 = .ok (.aload_n 0, 1) := by decide +kernel
theorem dX8_init_1 : decode cX8_init 1 = .ok (.invokespecial 3, 3) := by decide +kernel
theorem dX8_init_4 : decode cX8_init 4 = .ok (.aload_n 0, 1) := by decide +kernel
theorem dX8_init_5 : decode cX8_init 5 = .ok (.bipush 72, 2) := by decide +kernel
theorem dX8_init_7 : decode cX8_init 7 = .ok (.newarray .byte, 2) := by decide +kernel
theorem dX8_init_9 : decode cX8_init 9 = .ok (.putfield 9, 3) := by decide +kernel
theorem dX8_init_12 : decode cX8_init 12 = .ok (.return_, 1) := by decide +kernel
theorem dX8_put_0 : decode cX8_put 0 = .ok (.bipush 24, 2) := by decide +kernel
theorem dX8_put_2 : decode cX8_put 2 = .ok (.istore_n 2, 1) := by decide +kernel
theorem dX8_put_3 : decode cX8_put 3 = .ok (.iload_n 2, 1) := by decide +kernel
theorem dX8_put_4 : decode cX8_put 4 = .ok (.ifCond .lt 41, 3) := by decide +kernel
theorem dX8_put_7 : decode cX8_put 7 = .ok (.aload_n 0, 1) := by decide +kernel
theorem dX8_put_8 : decode cX8_put 8 = .ok (.getfield 15, 3) := by decide +kernel
theorem dX8_put_11 : decode cX8_put 11 = .ok (.bipush 72, 2) := by decide +kernel
theorem dX8_put_13 : decode cX8_put 13 = .ok (.if_icmp .ge 32, 3) := by decide +kernel
theorem dX8_put_16 : decode cX8_put 16 = .ok (.aload_n 0, 1) := by decide +kernel
theorem dX8_put_17 : decode cX8_put 17 = .ok (.getfield 9, 3) := by decide +kernel
theorem dX8_put_20 : decode cX8_put 20 = .ok (.aload_n 0, 1) := by decide +kernel
theorem dX8_put_21 : decode cX8_put 21 = .ok (.getfield 15, 3) := by decide +kernel
theorem dX8_put_24 : decode cX8_put 24 = .ok (.iload_n 1, 1) := by decide +kernel
theorem dX8_put_25 : decode cX8_put 25 = .ok (.iload_n 2, 1) := by decide +kernel
theorem dX8_put_26 : decode cX8_put 26 = .ok (.iushr, 1) := by decide +kernel
theorem dX8_put_27 : decode cX8_put 27 = .ok (.i2b, 1) := by decide +kernel
theorem dX8_put_28 : decode cX8_put 28 = .ok (.bastore, 1) := by decide +kernel
theorem dX8_put_29 : decode cX8_put 29 = .ok (.aload_n 0, 1) := by decide +kernel
theorem dX8_put_30 : decode cX8_put 30 = .ok (.dup, 1) := by decide +kernel
theorem dX8_put_31 : decode cX8_put 31 = .ok (.getfield 15, 3) := by decide +kernel
theorem dX8_put_34 : decode cX8_put 34 = .ok (.iconst 1, 1) := by decide +kernel
theorem dX8_put_35 : decode cX8_put 35 = .ok (.iadd, 1) := by decide +kernel
theorem dX8_put_36 : decode cX8_put 36 = .ok (.putfield 15, 3) := by decide +kernel
theorem dX8_put_39 : decode cX8_put 39 = .ok (.iinc 2 (-8), 3) := by decide +kernel
theorem dX8_put_42 : decode cX8_put 42 = .ok (.goto (-39), 3) := by decide +kernel
theorem dX8_put_45 : decode cX8_put 45 = .ok (.return_, 1) := by decide +kernel
theorem dX9_init_0 : decode cX9_init 0 = .ok (.aload_n 0, 1) := by decide +kernel
theorem dX9_init_1 : decode cX9_init 1 = .ok (.invokespecial 1, 3) := by decide +kernel
theorem dX9_init_4 : decode cX9_init 4 = .ok (.aload_n 0, 1) := by decide +kernel
theorem dX9_init_5 : decode cX9_init 5 = .ok (.new 7, 3) := by decide +kernel
theorem dX9_init_8 : decode cX9_init 8 = .ok (.dup, 1) := by decide +kernel
theorem dX9_init_9 : decode cX9_init 9 = .ok (.invokespecial 9, 3) := by decide +kernel
theorem dX9_init_12 : decode cX9_init 12 = .ok (.putfield 10, 3) := by decide +kernel
theorem dX9_init_15 : decode cX9_init 15 = .ok (.aload_n 0, 1) := by decide +kernel
theorem dX9_init_16 : decode cX9_init 16 = .ok (.new 16, 3) := by decide +kernel
theorem dX9_init_19 : decode cX9_init 19 = .ok (.dup, 1) := by decide +kernel
theorem dX9_init_20 : decode cX9_init 20 = .ok (.invokespecial 18, 3) := by decide +kernel
theorem dX9_init_23 : decode cX9_init 23 = .ok (.putfield 19, 3) := by decide +kernel
theorem dX9_init_26 : decode cX9_init 26 = .ok (.aload_n 0, 1) := by decide +kernel
theorem dX9_init_27 : decode cX9_init 27 = .ok (.new 23, 3) := by decide +kernel
theorem dX9_init_30 : decode cX9_init 30 = .ok (.dup, 1) := by decide +kernel
theorem dX9_init_31 : decode cX9_init 31 = .ok (.aload_n 0, 1) := by decide +kernel
theorem dX9_init_32 : decode cX9_init 32 = .ok (.getfield 19, 3) := by decide +kernel
theorem dX9_init_35 : decode cX9_init 35 = .ok (.invokespecial 25, 3) := by decide +kernel
theorem dX9_init_38 : decode cX9_init 38 = .ok (.putfield 28, 3) := by decide +kernel
theorem dX9_init_41 : decode cX9_init 41 = .ok (.aload_n 0, 1) := by decide +kernel
theorem dX9_init_42 : decode cX9_init 42 = .ok (.new 32, 3) := by decide +kernel
theorem dX9_init_45 : decode cX9_init 45 = .ok (.dup, 1) := by decide +kernel
theorem dX9_init_46 : decode cX9_init 46 = .ok (.invokespecial 34, 3) := by decide +kernel
theorem dX9_init_49 : decode cX9_init 49 = .ok (.putfield 35, 3) := by decide +kernel
theorem dX9_init_52 : decode cX9_init 52 = .ok (.aload_n 0, 1) := by decide +kernel
theorem dX9_init_53 : decode cX9_init 53 = .ok (.new 39, 3) := by decide +kernel
theorem dX9_init_56 : decode cX9_init 56 = .ok (.dup, 1) := by decide +kernel
theorem dX9_init_57 : decode cX9_init 57 = .ok (.invokespecial 41, 3) := by decide +kernel
theorem dX9_init_60 : decode cX9_init 60 = .ok (.putfield 42, 3) := by decide +kernel
theorem dX9_init_63 : decode cX9_init 63 = .ok (.aload_n 0, 1) := by decide +kernel
theorem dX9_init_64 : decode cX9_init 64 = .ok (.new 46, 3) := by decide +kernel
theorem dX9_init_67 : decode cX9_init 67 = .ok (.dup, 1) := by decide +kernel
theorem dX9_init_68 : decode cX9_init 68 = .ok (.invokespecial 48, 3) := by decide +kernel
theorem dX9_init_71 : decode cX9_init 71 = .ok (.putfield 49, 3) := by decide +kernel
theorem dX9_init_74 : decode cX9_init 74 = .ok (.aload_n 0, 1) := by decide +kernel
theorem dX9_init_75 : decode cX9_init 75 = .ok (.new 53, 3) := by decide +kernel
theorem dX9_init_78 : decode cX9_init 78 = .ok (.dup, 1) := by decide +kernel
theorem dX9_init_79 : decode cX9_init 79 = .ok (.invokespecial 55, 3) := by decide +kernel
theorem dX9_init_82 : decode cX9_init 82 = .ok (.putfield 56, 3) := by decide +kernel
theorem dX9_init_85 : decode cX9_init 85 = .ok (.aload_n 0, 1) := by decide +kernel
theorem dX9_init_86 : decode cX9_init 86 = .ok (.bipush 120, 2) := by decide +kernel
theorem dX9_init_88 : decode cX9_init 88 = .ok (.newarray .boolean, 2) := by decide +kernel
theorem dX9_init_90 : decode cX9_init 90 = .ok (.putfield 60, 3) := by decide +kernel
theorem dX9_init_93 : decode cX9_init 93 = .ok (.return_, 1) := by decide +kernel
theorem dX9_change_0 : decode cX9_change 0 = .ok (.iload_n 1, 1) := by decide +kernel
theorem dX9_change_1 : decode cX9_change 1 = .ok (.iload_n 2, 1) := by decide +kernel
theorem dX9_change_2 : decode cX9_change 2 = .ok (.invokestatic 64, 3) := by decide +kernel
theorem dX9_change_5 : decode cX9_change 5 = .ok (.ifCond .eq 10, 3) := by decide +kernel
theorem dX9_change_8 : decode cX9_change 8 = .ok (.iload_n 3, 1) := by decide +kernel
theorem dX9_change_9 : decode cX9_change 9 = .ok (.invokestatic 68, 3) := by decide +kernel
theorem dX9_change_12 : decode cX9_change 12 = .ok (.ifCond .ne 6, 3) := by decide +kernel
theorem dX9_change_15 : decode cX9_change 15 = .ok (.ldc 72, 2) := by decide +kernel
theorem dX9_change_17 : decode cX9_change 17 = .ok (.ireturn, 1) := by decide +kernel
theorem dX9_change_18 : decode cX9_change 18 = .ok (.aload_n 0, 1) := by decide +kernel
theorem dX9_change_19 : decode cX9_change 19 = .ok (.getfield 10, 3) := by decide +kernel
theorem dX9_change_22 : decode cX9_change 22 = .ok (.getfield 73, 3) := by decide +kernel
theorem dX9_change_25 : decode cX9_change 25 = .ok (.bipush 80, 2) := by decide +kernel
theorem dX9_change_27 : decode cX9_change 27 = .ok (.if_icmp .ne 6, 3) := by decide +kernel
theorem dX9_change_30 : decode cX9_change 30 = .ok (.ldc 77, 2) := by decide +kernel
theorem dX9_change_32 : decode cX9_change 32 = .ok (.ireturn, 1) := by decide +kernel
theorem dX9_change_33 : decode cX9_change 33 = .ok (.aload_n 0, 1) := by decide +kernel
theorem dX9_change_34 : decode cX9_change 34 = .ok (.getfield 10, 3) := by decide +kernel
theorem dX9_change_37 : decode cX9_change 37 = .ok (.iload_n 1, 1) := by decide +kernel
theorem dX9_change_38 : decode cX9_change 38 = .ok (.iload_n 2, 1) := by decide +kernel
theorem dX9_change_39 : decode cX9_change 39 = .ok (.iload_n 3, 1) := by decide +kernel
theorem dX9_change_40 : decode cX9_change 40 = .ok (.aload_n 0, 1) := by decide +kernel
theorem dX9_change_41 : decode cX9_change 41 = .ok (.getfield 78, 3) := by decide +kernel
theorem dX9_change_44 : decode cX9_change 44 = .ok (.invokevirtual 81, 3) := by decide +kernel
theorem dX9_change_47 : decode cX9_change 47 = .ok (.ireturn, 1) := by decide +kernel
theorem dX9_isOf_0 : decode cX9_isOf 0 = .ok (.aload_n 0, 1) := by decide +kernel
theorem dX9_isOf_1 : decode cX9_isOf 1 = .ok (.getfield 10, 3) := by decide +kernel
theorem dX9_isOf_4 : decode cX9_isOf 4 = .ok (.iload_n 1, 1) := by decide +kernel
theorem dX9_isOf_5 : decode cX9_isOf 5 = .ok (.invokevirtual 85, 3) := by decide +kernel
theorem dX9_isOf_8 : decode cX9_isOf 8 = .ok (.ifCond .eq 11, 3) := by decide +kernel
theorem dX9_isOf_11 : decode cX9_isOf 11 = .ok (.iload_n 2, 1) := by decide +kernel
theorem dX9_isOf_12 : decode cX9_isOf 12 = .ok (.iconst 4, 1) := by decide +kernel
theorem dX9_isOf_13 : decode cX9_isOf 13 = .ok (.invokestatic 88, 3) := by decide +kernel
theorem dX9_isOf_16 : decode cX9_isOf 16 = .ok (.ifCond .ne 6, 3) := by decide +kernel
theorem dX9_isOf_19 : decode cX9_isOf 19 = .ok (.ldc 72, 2) := by decide +kernel
theorem dX9_isOf_21 : decode cX9_isOf 21 = .ok (.ireturn, 1) := by decide +kernel
theorem dX9_isOf_22 : decode cX9_isOf 22 = .ok (.aload_n 0, 1) := by decide +kernel
theorem dX9_isOf_23 : decode cX9_isOf 23 = .ok (.getfield 10, 3) := by decide +kernel
theorem dX9_isOf_26 : decode cX9_isOf 26 = .ok (.iload_n 1, 1) := by decide +kernel
theorem dX9_isOf_27 : decode cX9_isOf 27 = .ok (.iload_n 2, 1) := by decide +kernel
theorem dX9_isOf_28 : decode cX9_isOf 28 = .ok (.invokevirtual 91, 3) := by decide +kernel
theorem dX9_isOf_31 : decode cX9_isOf 31 = .ok (.ifCond .eq 7, 3) := by decide +kernel
theorem dX9_isOf_34 : decode cX9_isOf 34 = .ok (.iconst 1, 1) := by decide +kernel
theorem dX9_isOf_35 : decode cX9_isOf 35 = .ok (.goto 4, 3) := by decide +kernel
theorem dX9_isOf_38 : decode cX9_isOf 38 = .ok (.iconst 0, 1) := by decide +kernel
theorem dX9_isOf_39 : decode cX9_isOf 39 = .ok (.ireturn, 1) := by decide +kernel
theorem dX9_takeBack_0 : decode cX9_takeBack 0 = .ok (.aload_n 0, 1) := by decide +kernel
theorem dX9_takeBack_1 : decode cX9_takeBack 1 = .ok (.getfield 10, 3) := by decide +kernel
theorem dX9_takeBack_4 : decode cX9_takeBack 4 = .ok (.iload_n 1, 1) := by decide +kernel
theorem dX9_takeBack_5 : decode cX9_takeBack 5 = .ok (.invokevirtual 85, 3) := by decide +kernel
theorem dX9_takeBack_8 : decode cX9_takeBack 8 = .ok (.ifCond .ne 6, 3) := by decide +kernel
theorem dX9_takeBack_11 : decode cX9_takeBack 11 = .ok (.ldc 72, 2) := by decide +kernel
theorem dX9_takeBack_13 : decode cX9_takeBack 13 = .ok (.ireturn, 1) := by decide +kernel
theorem dX9_takeBack_14 : decode cX9_takeBack 14 = .ok (.aload_n 0, 1) := by decide +kernel
theorem dX9_takeBack_15 : decode cX9_takeBack 15 = .ok (.getfield 10, 3) := by decide +kernel
theorem dX9_takeBack_18 : decode cX9_takeBack 18 = .ok (.getfield 94, 3) := by decide +kernel
theorem dX9_takeBack_21 : decode cX9_takeBack 21 = .ok (.iload_n 1, 1) := by decide +kernel
theorem dX9_takeBack_22 : decode cX9_takeBack 22 = .ok (.iaload, 1) := by decide +kernel
theorem dX9_takeBack_23 : decode cX9_takeBack 23 = .ok (.ldc 98, 2) := by decide +kernel
theorem dX9_takeBack_25 : decode cX9_takeBack 25 = .ok (.if_icmp .eq 6, 3) := by decide +kernel
theorem dX9_takeBack_28 : decode cX9_takeBack 28 = .ok (.ldc 99, 2) := by decide +kernel
theorem dX9_takeBack_30 : decode cX9_takeBack 30 = .ok (.ireturn, 1) := by decide +kernel
theorem dX9_takeBack_31 : decode cX9_takeBack 31 = .ok (.aload_n 0, 1) := by decide +kernel
theorem dX9_takeBack_32 : decode cX9_takeBack 32 = .ok (.getfield 10, 3) := by decide +kernel
theorem dX9_takeBack_35 : decode cX9_takeBack 35 = .ok (.getfield 94, 3) := by decide +kernel
theorem dX9_takeBack_38 : decode cX9_takeBack 38 = .ok (.iload_n 1, 1) := by decide +kernel
theorem dX9_takeBack_39 : decode cX9_takeBack 39 = .ok (.aload_n 0, 1) := by decide +kernel
theorem dX9_takeBack_40 : decode cX9_takeBack 40 = .ok (.getfield 78, 3) := by decide +kernel
theorem dX9_takeBack_43 : decode cX9_takeBack 43 = .ok (.iastore, 1) := by decide +kernel
theorem dX9_takeBack_44 : decode cX9_takeBack 44 = .ok (.iconst 1, 1) := by decide +kernel
theorem dX9_takeBack_45 : decode cX9_takeBack 45 = .ok (.ireturn, 1) := by decide +kernel
theorem dX9_told_0 : decode cX9_told 0 = .ok (.aload_n 0, 1) := by decide +kernel
theorem dX9_told_1 : decode cX9_told 1 = .ok (.getfield 10, 3) := by decide +kernel
theorem dX9_told_4 : decode cX9_told 4 = .ok (.iload_n 1, 1) := by decide +kernel
theorem dX9_told_5 : decode cX9_told 5 = .ok (.invokevirtual 85, 3) := by decide +kernel
theorem dX9_told_8 : decode cX9_told 8 = .ok (.ifCond .ne 6, 3) := by decide +kernel
theorem dX9_told_11 : decode cX9_told 11 = .ok (.ldc 72, 2) := by decide +kernel
theorem dX9_told_13 : decode cX9_told 13 = .ok (.ireturn, 1) := by decide +kernel
theorem dX9_told_14 : decode cX9_told 14 = .ok (.iload_n 2, 1) := by decide +kernel
theorem dX9_told_15 : decode cX9_told 15 = .ok (.tableswitch 83 0 4 #[33, 43, 53, 63, 73], 33) := by decide +kernel
theorem dX9_told_48 : decode cX9_told 48 = .ok (.aload_n 0, 1) := by decide +kernel
theorem dX9_told_49 : decode cX9_told 49 = .ok (.getfield 10, 3) := by decide +kernel
theorem dX9_told_52 : decode cX9_told 52 = .ok (.getfield 100, 3) := by decide +kernel
theorem dX9_told_55 : decode cX9_told 55 = .ok (.iload_n 1, 1) := by decide +kernel
theorem dX9_told_56 : decode cX9_told 56 = .ok (.iaload, 1) := by decide +kernel
theorem dX9_told_57 : decode cX9_told 57 = .ok (.ireturn, 1) := by decide +kernel
theorem dX9_told_58 : decode cX9_told 58 = .ok (.aload_n 0, 1) := by decide +kernel
theorem dX9_told_59 : decode cX9_told 59 = .ok (.getfield 10, 3) := by decide +kernel
theorem dX9_told_62 : decode cX9_told 62 = .ok (.getfield 103, 3) := by decide +kernel
theorem dX9_told_65 : decode cX9_told 65 = .ok (.iload_n 1, 1) := by decide +kernel
theorem dX9_told_66 : decode cX9_told 66 = .ok (.iaload, 1) := by decide +kernel
theorem dX9_told_67 : decode cX9_told 67 = .ok (.ireturn, 1) := by decide +kernel
theorem dX9_told_68 : decode cX9_told 68 = .ok (.aload_n 0, 1) := by decide +kernel
theorem dX9_told_69 : decode cX9_told 69 = .ok (.getfield 10, 3) := by decide +kernel
theorem dX9_told_72 : decode cX9_told 72 = .ok (.getfield 106, 3) := by decide +kernel
theorem dX9_told_75 : decode cX9_told 75 = .ok (.iload_n 1, 1) := by decide +kernel
theorem dX9_told_76 : decode cX9_told 76 = .ok (.iaload, 1) := by decide +kernel
theorem dX9_told_77 : decode cX9_told 77 = .ok (.ireturn, 1) := by decide +kernel
theorem dX9_told_78 : decode cX9_told 78 = .ok (.aload_n 0, 1) := by decide +kernel
theorem dX9_told_79 : decode cX9_told 79 = .ok (.getfield 10, 3) := by decide +kernel
theorem dX9_told_82 : decode cX9_told 82 = .ok (.getfield 109, 3) := by decide +kernel
theorem dX9_told_85 : decode cX9_told 85 = .ok (.iload_n 1, 1) := by decide +kernel
theorem dX9_told_86 : decode cX9_told 86 = .ok (.iaload, 1) := by decide +kernel
theorem dX9_told_87 : decode cX9_told 87 = .ok (.ireturn, 1) := by decide +kernel
theorem dX9_told_88 : decode cX9_told 88 = .ok (.aload_n 0, 1) := by decide +kernel
theorem dX9_told_89 : decode cX9_told 89 = .ok (.getfield 10, 3) := by decide +kernel
theorem dX9_told_92 : decode cX9_told 92 = .ok (.getfield 94, 3) := by decide +kernel
theorem dX9_told_95 : decode cX9_told 95 = .ok (.iload_n 1, 1) := by decide +kernel
theorem dX9_told_96 : decode cX9_told 96 = .ok (.iaload, 1) := by decide +kernel
theorem dX9_told_97 : decode cX9_told 97 = .ok (.ireturn, 1) := by decide +kernel
theorem dX9_told_98 : decode cX9_told 98 = .ok (.ldc 72, 2) := by decide +kernel
theorem dX9_told_100 : decode cX9_told 100 = .ok (.ireturn, 1) := by decide +kernel
theorem dX9_known_0 : decode cX9_known 0 = .ok (.aload_n 0, 1) := by decide +kernel
theorem dX9_known_1 : decode cX9_known 1 = .ok (.iload_n 1, 1) := by decide +kernel
theorem dX9_known_2 : decode cX9_known 2 = .ok (.invokevirtual 112, 3) := by decide +kernel
theorem dX9_known_5 : decode cX9_known 5 = .ok (.ifCond .eq 10, 3) := by decide +kernel
theorem dX9_known_8 : decode cX9_known 8 = .ok (.iload_n 2, 1) := by decide +kernel
theorem dX9_known_9 : decode cX9_known 9 = .ok (.invokestatic 68, 3) := by decide +kernel
theorem dX9_known_12 : decode cX9_known 12 = .ok (.ifCond .ne 6, 3) := by decide +kernel
theorem dX9_known_15 : decode cX9_known 15 = .ok (.ldc 72, 2) := by decide +kernel
theorem dX9_known_17 : decode cX9_known 17 = .ok (.ireturn, 1) := by decide +kernel
theorem dX9_known_18 : decode cX9_known 18 = .ok (.iload_n 3, 1) := by decide +kernel
theorem dX9_known_19 : decode cX9_known 19 = .ok (.tableswitch 55 0 2 #[25, 35, 45], 25) := by decide +kernel
theorem dX9_known_44 : decode cX9_known 44 = .ok (.aload_n 0, 1) := by decide +kernel
theorem dX9_known_45 : decode cX9_known 45 = .ok (.getfield 10, 3) := by decide +kernel
theorem dX9_known_48 : decode cX9_known 48 = .ok (.iload_n 1, 1) := by decide +kernel
theorem dX9_known_49 : decode cX9_known 49 = .ok (.iload_n 2, 1) := by decide +kernel
theorem dX9_known_50 : decode cX9_known 50 = .ok (.invokevirtual 115, 3) := by decide +kernel
theorem dX9_known_53 : decode cX9_known 53 = .ok (.ireturn, 1) := by decide +kernel
theorem dX9_known_54 : decode cX9_known 54 = .ok (.aload_n 0, 1) := by decide +kernel
theorem dX9_known_55 : decode cX9_known 55 = .ok (.getfield 10, 3) := by decide +kernel
theorem dX9_known_58 : decode cX9_known 58 = .ok (.iload_n 1, 1) := by decide +kernel
theorem dX9_known_59 : decode cX9_known 59 = .ok (.iload_n 2, 1) := by decide +kernel
theorem dX9_known_60 : decode cX9_known 60 = .ok (.invokevirtual 119, 3) := by decide +kernel
theorem dX9_known_63 : decode cX9_known 63 = .ok (.ireturn, 1) := by decide +kernel
theorem dX9_known_64 : decode cX9_known 64 = .ok (.aload_n 0, 1) := by decide +kernel
theorem dX9_known_65 : decode cX9_known 65 = .ok (.getfield 10, 3) := by decide +kernel
theorem dX9_known_68 : decode cX9_known 68 = .ok (.iload_n 1, 1) := by decide +kernel
theorem dX9_known_69 : decode cX9_known 69 = .ok (.iload_n 2, 1) := by decide +kernel
theorem dX9_known_70 : decode cX9_known 70 = .ok (.invokevirtual 122, 3) := by decide +kernel
theorem dX9_known_73 : decode cX9_known 73 = .ok (.ireturn, 1) := by decide +kernel
theorem dX9_known_74 : decode cX9_known 74 = .ok (.ldc 72, 2) := by decide +kernel
theorem dX9_known_76 : decode cX9_known 76 = .ok (.ireturn, 1) := by decide +kernel
theorem dX9_school_0 : decode cX9_school 0 = .ok (.iload_n 1, 1) := by decide +kernel
theorem dX9_school_1 : decode cX9_school 1 = .ok (.invokestatic 68, 3) := by decide +kernel
theorem dX9_school_4 : decode cX9_school 4 = .ok (.ifCond .ne 6, 3) := by decide +kernel
theorem dX9_school_7 : decode cX9_school 7 = .ok (.ldc 72, 2) := by decide +kernel
theorem dX9_school_9 : decode cX9_school 9 = .ok (.ireturn, 1) := by decide +kernel
theorem dX9_school_10 : decode cX9_school 10 = .ok (.iload_n 2, 1) := by decide +kernel
theorem dX9_school_11 : decode cX9_school 11 = .ok (.ldc 98, 2) := by decide +kernel
theorem dX9_school_13 : decode cX9_school 13 = .ok (.if_icmp .eq 13, 3) := by decide +kernel
theorem dX9_school_16 : decode cX9_school 16 = .ok (.iload_n 2, 1) := by decide +kernel
theorem dX9_school_17 : decode cX9_school 17 = .ok (.invokestatic 125, 3) := by decide +kernel
theorem dX9_school_20 : decode cX9_school 20 = .ok (.ifCond .ne 6, 3) := by decide +kernel
theorem dX9_school_23 : decode cX9_school 23 = .ok (.ldc 72, 2) := by decide +kernel
theorem dX9_school_25 : decode cX9_school 25 = .ok (.ireturn, 1) := by decide +kernel
theorem dX9_school_26 : decode cX9_school 26 = .ok (.aload_n 0, 1) := by decide +kernel
theorem dX9_school_27 : decode cX9_school 27 = .ok (.getfield 42, 3) := by decide +kernel
theorem dX9_school_30 : decode cX9_school 30 = .ok (.getfield 128, 3) := by decide +kernel
theorem dX9_school_33 : decode cX9_school 33 = .ok (.iload_n 1, 1) := by decide +kernel
theorem dX9_school_34 : decode cX9_school 34 = .ok (.iaload, 1) := by decide +kernel
theorem dX9_school_35 : decode cX9_school 35 = .ok (.istore_n 3, 1) := by decide +kernel
theorem dX9_school_36 : decode cX9_school 36 = .ok (.aload_n 0, 1) := by decide +kernel
theorem dX9_school_37 : decode cX9_school 37 = .ok (.getfield 42, 3) := by decide +kernel
theorem dX9_school_40 : decode cX9_school 40 = .ok (.getfield 128, 3) := by decide +kernel
theorem dX9_school_43 : decode cX9_school 43 = .ok (.iload_n 1, 1) := by decide +kernel
theorem dX9_school_44 : decode cX9_school 44 = .ok (.iload_n 2, 1) := by decide +kernel
theorem dX9_school_45 : decode cX9_school 45 = .ok (.iastore, 1) := by decide +kernel
theorem dX9_school_46 : decode cX9_school 46 = .ok (.iload_n 3, 1) := by decide +kernel
theorem dX9_school_47 : decode cX9_school 47 = .ok (.ireturn, 1) := by decide +kernel
theorem dX9_nights_0 : decode cX9_nights 0 = .ok (.iload_n 1, 1) := by decide +kernel
theorem dX9_nights_1 : decode cX9_nights 1 = .ok (.invokestatic 68, 3) := by decide +kernel
theorem dX9_nights_4 : decode cX9_nights 4 = .ok (.ifCond .ne 6, 3) := by decide +kernel
theorem dX9_nights_7 : decode cX9_nights 7 = .ok (.ldc 72, 2) := by decide +kernel
theorem dX9_nights_9 : decode cX9_nights 9 = .ok (.ireturn, 1) := by decide +kernel
theorem dX9_nights_10 : decode cX9_nights 10 = .ok (.iload_n 2, 1) := by decide +kernel
theorem dX9_nights_11 : decode cX9_nights 11 = .ok (.tableswitch 60 0 2 #[25, 34, 43], 25) := by decide +kernel
theorem dX9_nights_36 : decode cX9_nights 36 = .ok (.aload_n 0, 1) := by decide +kernel
theorem dX9_nights_37 : decode cX9_nights 37 = .ok (.getfield 42, 3) := by decide +kernel
theorem dX9_nights_40 : decode cX9_nights 40 = .ok (.iload_n 1, 1) := by decide +kernel
theorem dX9_nights_41 : decode cX9_nights 41 = .ok (.invokevirtual 131, 3) := by decide +kernel
theorem dX9_nights_44 : decode cX9_nights 44 = .ok (.ireturn, 1) := by decide +kernel
theorem dX9_nights_45 : decode cX9_nights 45 = .ok (.aload_n 0, 1) := by decide +kernel
theorem dX9_nights_46 : decode cX9_nights 46 = .ok (.getfield 42, 3) := by decide +kernel
theorem dX9_nights_49 : decode cX9_nights 49 = .ok (.iload_n 1, 1) := by decide +kernel
theorem dX9_nights_50 : decode cX9_nights 50 = .ok (.invokevirtual 135, 3) := by decide +kernel
theorem dX9_nights_53 : decode cX9_nights 53 = .ok (.ireturn, 1) := by decide +kernel
theorem dX9_nights_54 : decode cX9_nights 54 = .ok (.aload_n 0, 1) := by decide +kernel
theorem dX9_nights_55 : decode cX9_nights 55 = .ok (.getfield 42, 3) := by decide +kernel
theorem dX9_nights_58 : decode cX9_nights 58 = .ok (.iload_n 1, 1) := by decide +kernel
theorem dX9_nights_59 : decode cX9_nights 59 = .ok (.invokevirtual 138, 3) := by decide +kernel
theorem dX9_nights_62 : decode cX9_nights 62 = .ok (.ifCond .eq 7, 3) := by decide +kernel
theorem dX9_nights_65 : decode cX9_nights 65 = .ok (.iconst 1, 1) := by decide +kernel
theorem dX9_nights_66 : decode cX9_nights 66 = .ok (.goto 4, 3) := by decide +kernel
theorem dX9_nights_69 : decode cX9_nights 69 = .ok (.iconst 0, 1) := by decide +kernel
theorem dX9_nights_70 : decode cX9_nights 70 = .ok (.ireturn, 1) := by decide +kernel
theorem dX9_nights_71 : decode cX9_nights 71 = .ok (.ldc 72, 2) := by decide +kernel
theorem dX9_nights_73 : decode cX9_nights 73 = .ok (.ireturn, 1) := by decide +kernel
theorem dX9_feed_0 : decode cX9_feed 0 = .ok (.aload_n 0, 1) := by decide +kernel
theorem dX9_feed_1 : decode cX9_feed 1 = .ok (.getfield 19, 3) := by decide +kernel
theorem dX9_feed_4 : decode cX9_feed 4 = .ok (.getfield 141, 3) := by decide +kernel
theorem dX9_feed_7 : decode cX9_feed 7 = .ok (.bipush 12, 2) := by decide +kernel
theorem dX9_feed_9 : decode cX9_feed 9 = .ok (.iadd, 1) := by decide +kernel
theorem dX9_feed_10 : decode cX9_feed 10 = .ok (.bipush 72, 2) := by decide +kernel
theorem dX9_feed_12 : decode cX9_feed 12 = .ok (.if_icmp .le 6, 3) := by decide +kernel
theorem dX9_feed_15 : decode cX9_feed 15 = .ok (.ldc 77, 2) := by decide +kernel
theorem dX9_feed_17 : decode cX9_feed 17 = .ok (.ireturn, 1) := by decide +kernel
theorem dX9_feed_18 : decode cX9_feed 18 = .ok (.aload_n 0, 1) := by decide +kernel
theorem dX9_feed_19 : decode cX9_feed 19 = .ok (.getfield 19, 3) := by decide +kernel
theorem dX9_feed_22 : decode cX9_feed 22 = .ok (.iload_n 1, 1) := by decide +kernel
theorem dX9_feed_23 : decode cX9_feed 23 = .ok (.invokevirtual 142, 3) := by decide +kernel
theorem dX9_feed_26 : decode cX9_feed 26 = .ok (.aload_n 0, 1) := by decide +kernel
theorem dX9_feed_27 : decode cX9_feed 27 = .ok (.getfield 19, 3) := by decide +kernel
theorem dX9_feed_30 : decode cX9_feed 30 = .ok (.iload_n 2, 1) := by decide +kernel
theorem dX9_feed_31 : decode cX9_feed 31 = .ok (.invokevirtual 142, 3) := by decide +kernel
theorem dX9_feed_34 : decode cX9_feed 34 = .ok (.aload_n 0, 1) := by decide +kernel
theorem dX9_feed_35 : decode cX9_feed 35 = .ok (.getfield 19, 3) := by decide +kernel
theorem dX9_feed_38 : decode cX9_feed 38 = .ok (.iload_n 3, 1) := by decide +kernel
theorem dX9_feed_39 : decode cX9_feed 39 = .ok (.invokevirtual 142, 3) := by decide +kernel
theorem dX9_feed_42 : decode cX9_feed 42 = .ok (.aload_n 0, 1) := by decide +kernel
theorem dX9_feed_43 : decode cX9_feed 43 = .ok (.getfield 19, 3) := by decide +kernel
theorem dX9_feed_46 : decode cX9_feed 46 = .ok (.getfield 141, 3) := by decide +kernel
theorem dX9_feed_49 : decode cX9_feed 49 = .ok (.ireturn, 1) := by decide +kernel
theorem dX9_trim_0 : decode cX9_trim 0 = .ok (.iload_n 1, 1) := by decide +kernel
theorem dX9_trim_1 : decode cX9_trim 1 = .ok (.ifCond .lt 14, 3) := by decide +kernel
theorem dX9_trim_4 : decode cX9_trim 4 = .ok (.iload_n 1, 1) := by decide +kernel
theorem dX9_trim_5 : decode cX9_trim 5 = .ok (.aload_n 0, 1) := by decide +kernel
theorem dX9_trim_6 : decode cX9_trim 6 = .ok (.getfield 19, 3) := by decide +kernel
theorem dX9_trim_9 : decode cX9_trim 9 = .ok (.getfield 141, 3) := by decide +kernel
theorem dX9_trim_12 : decode cX9_trim 12 = .ok (.if_icmp .le 6, 3) := by decide +kernel
theorem dX9_trim_15 : decode cX9_trim 15 = .ok (.ldc 72, 2) := by decide +kernel
theorem dX9_trim_17 : decode cX9_trim 17 = .ok (.ireturn, 1) := by decide +kernel
theorem dX9_trim_18 : decode cX9_trim 18 = .ok (.aload_n 0, 1) := by decide +kernel
theorem dX9_trim_19 : decode cX9_trim 19 = .ok (.getfield 19, 3) := by decide +kernel
theorem dX9_trim_22 : decode cX9_trim 22 = .ok (.iload_n 1, 1) := by decide +kernel
theorem dX9_trim_23 : decode cX9_trim 23 = .ok (.putfield 141, 3) := by decide +kernel
theorem dX9_trim_26 : decode cX9_trim 26 = .ok (.iload_n 1, 1) := by decide +kernel
theorem dX9_trim_27 : decode cX9_trim 27 = .ok (.ireturn, 1) := by decide +kernel
theorem dX9_law_0 : decode cX9_law 0 = .ok (.iload_n 1, 1) := by decide +kernel
theorem dX9_law_1 : decode cX9_law 1 = .ok (.invokestatic 68, 3) := by decide +kernel
theorem dX9_law_4 : decode cX9_law 4 = .ok (.ifCond .eq 11, 3) := by decide +kernel
theorem dX9_law_7 : decode cX9_law 7 = .ok (.aload_n 0, 1) := by decide +kernel
theorem dX9_law_8 : decode cX9_law 8 = .ok (.iload_n 1, 1) := by decide +kernel
theorem dX9_law_9 : decode cX9_law 9 = .ok (.invokevirtual 146, 3) := by decide +kernel
theorem dX9_law_12 : decode cX9_law 12 = .ok (.goto 5, 3) := by decide +kernel
theorem dX9_law_15 : decode cX9_law 15 = .ok (.ldc 72, 2) := by decide +kernel
theorem dX9_law_17 : decode cX9_law 17 = .ok (.istore_n 2, 1) := by decide +kernel
theorem dX9_law_18 : decode cX9_law 18 = .ok (.aload_n 0, 1) := by decide +kernel
theorem dX9_law_19 : decode cX9_law 19 = .ok (.getfield 19, 3) := by decide +kernel
theorem dX9_law_22 : decode cX9_law 22 = .ok (.iconst 0, 1) := by decide +kernel
theorem dX9_law_23 : decode cX9_law 23 = .ok (.putfield 141, 3) := by decide +kernel
theorem dX9_law_26 : decode cX9_law 26 = .ok (.iload_n 2, 1) := by decide +kernel
theorem dX9_law_27 : decode cX9_law 27 = .ok (.ireturn, 1) := by decide +kernel
theorem dX9_addLaw_0 : decode cX9_addLaw 0 = .ok (.aload_n 0, 1) := by decide +kernel
theorem dX9_addLaw_1 : decode cX9_addLaw 1 = .ok (.getfield 35, 3) := by decide +kernel
theorem dX9_addLaw_4 : decode cX9_addLaw 4 = .ok (.getfield 149, 3) := by decide +kernel
theorem dX9_addLaw_7 : decode cX9_addLaw 7 = .ok (.aload_n 0, 1) := by decide +kernel
theorem dX9_addLaw_8 : decode cX9_addLaw 8 = .ok (.getfield 35, 3) := by decide +kernel
theorem dX9_addLaw_11 : decode cX9_addLaw 11 = .ok (.getfield 153, 3) := by decide +kernel
theorem dX9_addLaw_14 : decode cX9_addLaw 14 = .ok (.aaload, 1) := by decide +kernel
theorem dX9_addLaw_15 : decode cX9_addLaw 15 = .ok (.astore_n 2, 1) := by decide +kernel
theorem dX9_addLaw_16 : decode cX9_addLaw 16 = .ok (.aload_n 0, 1) := by decide +kernel
theorem dX9_addLaw_17 : decode cX9_addLaw 17 = .ok (.getfield 28, 3) := by decide +kernel
theorem dX9_addLaw_20 : decode cX9_addLaw 20 = .ok (.aload_n 2, 1) := by decide +kernel
theorem dX9_addLaw_21 : decode cX9_addLaw 21 = .ok (.invokevirtual 154, 3) := by decide +kernel
theorem dX9_addLaw_24 : decode cX9_addLaw 24 = .ok (.istore_n 3, 1) := by decide +kernel
theorem dX9_addLaw_25 : decode cX9_addLaw 25 = .ok (.iload_n 3, 1) := by decide +kernel
theorem dX9_addLaw_26 : decode cX9_addLaw 26 = .ok (.ldc 98, 2) := by decide +kernel
theorem dX9_addLaw_28 : decode cX9_addLaw 28 = .ok (.if_icmp .eq 8, 3) := by decide +kernel
theorem dX9_addLaw_31 : decode cX9_addLaw 31 = .ok (.bipush (-100), 2) := by decide +kernel
theorem dX9_addLaw_33 : decode cX9_addLaw 33 = .ok (.iload_n 3, 1) := by decide +kernel
theorem dX9_addLaw_34 : decode cX9_addLaw 34 = .ok (.isub, 1) := by decide +kernel
theorem dX9_addLaw_35 : decode cX9_addLaw 35 = .ok (.ireturn, 1) := by decide +kernel
theorem dX9_addLaw_36 : decode cX9_addLaw 36 = .ok (.aload_n 0, 1) := by decide +kernel
theorem dX9_addLaw_37 : decode cX9_addLaw 37 = .ok (.getfield 35, 3) := by decide +kernel
theorem dX9_addLaw_40 : decode cX9_addLaw 40 = .ok (.getfield 153, 3) := by decide +kernel
theorem dX9_addLaw_43 : decode cX9_addLaw 43 = .ok (.bipush 8, 2) := by decide +kernel
theorem dX9_addLaw_45 : decode cX9_addLaw 45 = .ok (.if_icmp .ne 6, 3) := by decide +kernel
theorem dX9_addLaw_48 : decode cX9_addLaw 48 = .ok (.ldc 77, 2) := by decide +kernel
theorem dX9_addLaw_50 : decode cX9_addLaw 50 = .ok (.ireturn, 1) := by decide +kernel
theorem dX9_addLaw_51 : decode cX9_addLaw 51 = .ok (.aload_n 2, 1) := by decide +kernel
theorem dX9_addLaw_52 : decode cX9_addLaw 52 = .ok (.iload_n 1, 1) := by decide +kernel
theorem dX9_addLaw_53 : decode cX9_addLaw 53 = .ok (.putfield 158, 3) := by decide +kernel
theorem dX9_addLaw_56 : decode cX9_addLaw 56 = .ok (.aload_n 0, 1) := by decide +kernel
theorem dX9_addLaw_57 : decode cX9_addLaw 57 = .ok (.getfield 35, 3) := by decide +kernel
theorem dX9_addLaw_60 : decode cX9_addLaw 60 = .ok (.dup, 1) := by decide +kernel
theorem dX9_addLaw_61 : decode cX9_addLaw 61 = .ok (.getfield 153, 3) := by decide +kernel
theorem dX9_addLaw_64 : decode cX9_addLaw 64 = .ok (.iconst 1, 1) := by decide +kernel
theorem dX9_addLaw_65 : decode cX9_addLaw 65 = .ok (.iadd, 1) := by decide +kernel
theorem dX9_addLaw_66 : decode cX9_addLaw 66 = .ok (.putfield 153, 3) := by decide +kernel
theorem dX9_addLaw_69 : decode cX9_addLaw 69 = .ok (.aload_n 0, 1) := by decide +kernel
theorem dX9_addLaw_70 : decode cX9_addLaw 70 = .ok (.getfield 35, 3) := by decide +kernel
theorem dX9_addLaw_73 : decode cX9_addLaw 73 = .ok (.getfield 153, 3) := by decide +kernel
theorem dX9_addLaw_76 : decode cX9_addLaw 76 = .ok (.iconst 1, 1) := by decide +kernel
theorem dX9_addLaw_77 : decode cX9_addLaw 77 = .ok (.isub, 1) := by decide +kernel
theorem dX9_addLaw_78 : decode cX9_addLaw 78 = .ok (.ireturn, 1) := by decide +kernel
theorem dX9_inForce_0 : decode cX9_inForce 0 = .ok (.iload_n 1, 1) := by decide +kernel
theorem dX9_inForce_1 : decode cX9_inForce 1 = .ok (.invokestatic 68, 3) := by decide +kernel
theorem dX9_inForce_4 : decode cX9_inForce 4 = .ok (.ifCond .ne 6, 3) := by decide +kernel
theorem dX9_inForce_7 : decode cX9_inForce 7 = .ok (.ldc 72, 2) := by decide +kernel
theorem dX9_inForce_9 : decode cX9_inForce 9 = .ok (.ireturn, 1) := by decide +kernel
theorem dX9_inForce_10 : decode cX9_inForce 10 = .ok (.aload_n 0, 1) := by decide +kernel
theorem dX9_inForce_11 : decode cX9_inForce 11 = .ok (.getfield 35, 3) := by decide +kernel
theorem dX9_inForce_14 : decode cX9_inForce 14 = .ok (.iload_n 1, 1) := by decide +kernel
theorem dX9_inForce_15 : decode cX9_inForce 15 = .ok (.invokevirtual 163, 3) := by decide +kernel
theorem dX9_inForce_18 : decode cX9_inForce 18 = .ok (.ireturn, 1) := by decide +kernel
theorem dX9_sum_0 : decode cX9_sum 0 = .ok (.iload_n 1, 1) := by decide +kernel
theorem dX9_sum_1 : decode cX9_sum 1 = .ok (.invokestatic 68, 3) := by decide +kernel
theorem dX9_sum_4 : decode cX9_sum 4 = .ok (.ifCond .eq 18, 3) := by decide +kernel
theorem dX9_sum_7 : decode cX9_sum 7 = .ok (.iload_n 2, 1) := by decide +kernel
theorem dX9_sum_8 : decode cX9_sum 8 = .ok (.invokestatic 125, 3) := by decide +kernel
theorem dX9_sum_11 : decode cX9_sum 11 = .ok (.ifCond .eq 11, 3) := by decide +kernel
theorem dX9_sum_14 : decode cX9_sum 14 = .ok (.aload_n 0, 1) := by decide +kernel
theorem dX9_sum_15 : decode cX9_sum 15 = .ok (.iload_n 3, 1) := by decide +kernel
theorem dX9_sum_16 : decode cX9_sum 16 = .ok (.invokevirtual 112, 3) := by decide +kernel
theorem dX9_sum_19 : decode cX9_sum 19 = .ok (.ifCond .ne 6, 3) := by decide +kernel
theorem dX9_sum_22 : decode cX9_sum 22 = .ok (.ldc 72, 2) := by decide +kernel
theorem dX9_sum_24 : decode cX9_sum 24 = .ok (.ireturn, 1) := by decide +kernel
theorem dX9_sum_25 : decode cX9_sum 25 = .ok (.aload_n 0, 1) := by decide +kernel
theorem dX9_sum_26 : decode cX9_sum 26 = .ok (.iload_n 1, 1) := by decide +kernel
theorem dX9_sum_27 : decode cX9_sum 27 = .ok (.iload_n 2, 1) := by decide +kernel
theorem dX9_sum_28 : decode cX9_sum 28 = .ok (.iload_n 3, 1) := by decide +kernel
theorem dX9_sum_29 : decode cX9_sum 29 = .ok (.invokevirtual 166, 3) := by decide +kernel
theorem dX9_sum_32 : decode cX9_sum 32 = .ok (.ireturn, 1) := by decide +kernel
theorem dX9_due_0 : decode cX9_due 0 = .ok (.iload_n 1, 1) := by decide +kernel
theorem dX9_due_1 : decode cX9_due 1 = .ok (.invokestatic 68, 3) := by decide +kernel
theorem dX9_due_4 : decode cX9_due 4 = .ok (.ifCond .eq 19, 3) := by decide +kernel
theorem dX9_due_7 : decode cX9_due 7 = .ok (.iload_n 2, 1) := by decide +kernel
theorem dX9_due_8 : decode cX9_due 8 = .ok (.iconst 2, 1) := by decide +kernel
theorem dX9_due_9 : decode cX9_due 9 = .ok (.invokestatic 88, 3) := by decide +kernel
theorem dX9_due_12 : decode cX9_due 12 = .ok (.ifCond .eq 11, 3) := by decide +kernel
theorem dX9_due_15 : decode cX9_due 15 = .ok (.aload_n 0, 1) := by decide +kernel
theorem dX9_due_16 : decode cX9_due 16 = .ok (.iload_n 3, 1) := by decide +kernel
theorem dX9_due_17 : decode cX9_due 17 = .ok (.invokevirtual 112, 3) := by decide +kernel
theorem dX9_due_20 : decode cX9_due 20 = .ok (.ifCond .ne 6, 3) := by decide +kernel
theorem dX9_due_23 : decode cX9_due 23 = .ok (.ldc 72, 2) := by decide +kernel
theorem dX9_due_25 : decode cX9_due 25 = .ok (.ireturn, 1) := by decide +kernel
theorem dX9_due_26 : decode cX9_due 26 = .ok (.aload_n 0, 1) := by decide +kernel
theorem dX9_due_27 : decode cX9_due 27 = .ok (.iload_n 1, 1) := by decide +kernel
theorem dX9_due_28 : decode cX9_due 28 = .ok (.iload_n 2, 1) := by decide +kernel
theorem dX9_due_29 : decode cX9_due 29 = .ok (.iload_n 3, 1) := by decide +kernel
theorem dX9_due_30 : decode cX9_due 30 = .ok (.invokevirtual 170, 3) := by decide +kernel
theorem dX9_due_33 : decode cX9_due 33 = .ok (.ireturn, 1) := by decide +kernel
theorem dX9_edge_0 : decode cX9_edge 0 = .ok (.iload_n 1, 1) := by decide +kernel
theorem dX9_edge_1 : decode cX9_edge 1 = .ok (.invokestatic 68, 3) := by decide +kernel
theorem dX9_edge_4 : decode cX9_edge 4 = .ok (.ifCond .eq 12, 3) := by decide +kernel
theorem dX9_edge_7 : decode cX9_edge 7 = .ok (.iload_n 2, 1) := by decide +kernel
theorem dX9_edge_8 : decode cX9_edge 8 = .ok (.bipush 7, 2) := by decide +kernel
theorem dX9_edge_10 : decode cX9_edge 10 = .ok (.invokestatic 88, 3) := by decide +kernel
theorem dX9_edge_13 : decode cX9_edge 13 = .ok (.ifCond .ne 6, 3) := by decide +kernel
theorem dX9_edge_16 : decode cX9_edge 16 = .ok (.ldc 72, 2) := by decide +kernel
theorem dX9_edge_18 : decode cX9_edge 18 = .ok (.ireturn, 1) := by decide +kernel
theorem dX9_edge_19 : decode cX9_edge 19 = .ok (.aload_n 0, 1) := by decide +kernel
theorem dX9_edge_20 : decode cX9_edge 20 = .ok (.iload_n 1, 1) := by decide +kernel
theorem dX9_edge_21 : decode cX9_edge 21 = .ok (.iload_n 2, 1) := by decide +kernel
theorem dX9_edge_22 : decode cX9_edge 22 = .ok (.aload_n 0, 1) := by decide +kernel
theorem dX9_edge_23 : decode cX9_edge 23 = .ok (.getfield 78, 3) := by decide +kernel
theorem dX9_edge_26 : decode cX9_edge 26 = .ok (.invokevirtual 166, 3) := by decide +kernel
theorem dX9_edge_29 : decode cX9_edge 29 = .ok (.aload_n 0, 1) := by decide +kernel
theorem dX9_edge_30 : decode cX9_edge 30 = .ok (.iload_n 1, 1) := by decide +kernel
theorem dX9_edge_31 : decode cX9_edge 31 = .ok (.iload_n 2, 1) := by decide +kernel
theorem dX9_edge_32 : decode cX9_edge 32 = .ok (.iconst 1, 1) := by decide +kernel
theorem dX9_edge_33 : decode cX9_edge 33 = .ok (.iadd, 1) := by decide +kernel
theorem dX9_edge_34 : decode cX9_edge 34 = .ok (.aload_n 0, 1) := by decide +kernel
theorem dX9_edge_35 : decode cX9_edge 35 = .ok (.getfield 78, 3) := by decide +kernel
theorem dX9_edge_38 : decode cX9_edge 38 = .ok (.invokevirtual 166, 3) := by decide +kernel
theorem dX9_edge_41 : decode cX9_edge 41 = .ok (.isub, 1) := by decide +kernel
theorem dX9_edge_42 : decode cX9_edge 42 = .ok (.ireturn, 1) := by decide +kernel
theorem dX9_sumOf_0 : decode cX9_sumOf 0 = .ok (.aload_n 0, 1) := by decide +kernel
theorem dX9_sumOf_1 : decode cX9_sumOf 1 = .ok (.getfield 35, 3) := by decide +kernel
theorem dX9_sumOf_4 : decode cX9_sumOf 4 = .ok (.iload_n 1, 1) := by decide +kernel
theorem dX9_sumOf_5 : decode cX9_sumOf 5 = .ok (.invokevirtual 163, 3) := by decide +kernel
theorem dX9_sumOf_8 : decode cX9_sumOf 8 = .ok (.istore 4, 2) := by decide +kernel
theorem dX9_sumOf_10 : decode cX9_sumOf 10 = .ok (.iload 4, 2) := by decide +kernel
theorem dX9_sumOf_12 : decode cX9_sumOf 12 = .ok (.ldc 98, 2) := by decide +kernel
theorem dX9_sumOf_14 : decode cX9_sumOf 14 = .ok (.if_icmp .ne 5, 3) := by decide +kernel
theorem dX9_sumOf_17 : decode cX9_sumOf 17 = .ok (.iconst 0, 1) := by decide +kernel
theorem dX9_sumOf_18 : decode cX9_sumOf 18 = .ok (.ireturn, 1) := by decide +kernel
theorem dX9_sumOf_19 : decode cX9_sumOf 19 = .ok (.aload_n 0, 1) := by decide +kernel
theorem dX9_sumOf_20 : decode cX9_sumOf 20 = .ok (.getfield 10, 3) := by decide +kernel
theorem dX9_sumOf_23 : decode cX9_sumOf 23 = .ok (.iload_n 3, 1) := by decide +kernel
theorem dX9_sumOf_24 : decode cX9_sumOf 24 = .ok (.iload_n 1, 1) := by decide +kernel
theorem dX9_sumOf_25 : decode cX9_sumOf 25 = .ok (.invokevirtual 119, 3) := by decide +kernel
theorem dX9_sumOf_28 : decode cX9_sumOf 28 = .ok (.istore 5, 2) := by decide +kernel
theorem dX9_sumOf_30 : decode cX9_sumOf 30 = .ok (.iload 5, 2) := by decide +kernel
theorem dX9_sumOf_32 : decode cX9_sumOf 32 = .ok (.ifCond .ne 5, 3) := by decide +kernel
theorem dX9_sumOf_35 : decode cX9_sumOf 35 = .ok (.iconst 0, 1) := by decide +kernel
theorem dX9_sumOf_36 : decode cX9_sumOf 36 = .ok (.ireturn, 1) := by decide +kernel
theorem dX9_sumOf_37 : decode cX9_sumOf 37 = .ok (.aload_n 0, 1) := by decide +kernel
theorem dX9_sumOf_38 : decode cX9_sumOf 38 = .ok (.getfield 35, 3) := by decide +kernel
theorem dX9_sumOf_41 : decode cX9_sumOf 41 = .ok (.getfield 149, 3) := by decide +kernel
theorem dX9_sumOf_44 : decode cX9_sumOf 44 = .ok (.iload 4, 2) := by decide +kernel
theorem dX9_sumOf_46 : decode cX9_sumOf 46 = .ok (.aaload, 1) := by decide +kernel
theorem dX9_sumOf_47 : decode cX9_sumOf 47 = .ok (.astore 6, 2) := by decide +kernel
theorem dX9_sumOf_49 : decode cX9_sumOf 49 = .ok (.aload 6, 2) := by decide +kernel
theorem dX9_sumOf_51 : decode cX9_sumOf 51 = .ok (.aload_n 0, 1) := by decide +kernel
theorem dX9_sumOf_52 : decode cX9_sumOf 52 = .ok (.getfield 10, 3) := by decide +kernel
theorem dX9_sumOf_55 : decode cX9_sumOf 55 = .ok (.iload_n 3, 1) := by decide +kernel
theorem dX9_sumOf_56 : decode cX9_sumOf 56 = .ok (.iload_n 1, 1) := by decide +kernel
theorem dX9_sumOf_57 : decode cX9_sumOf 57 = .ok (.invokevirtual 115, 3) := by decide +kernel
theorem dX9_sumOf_60 : decode cX9_sumOf 60 = .ok (.aload_n 0, 1) := by decide +kernel
theorem dX9_sumOf_61 : decode cX9_sumOf 61 = .ok (.getfield 10, 3) := by decide +kernel
theorem dX9_sumOf_64 : decode cX9_sumOf 64 = .ok (.iload_n 3, 1) := by decide +kernel
theorem dX9_sumOf_65 : decode cX9_sumOf 65 = .ok (.iload_n 1, 1) := by decide +kernel
theorem dX9_sumOf_66 : decode cX9_sumOf 66 = .ok (.invokevirtual 122, 3) := by decide +kernel
theorem dX9_sumOf_69 : decode cX9_sumOf 69 = .ok (.invokevirtual 173, 3) := by decide +kernel
theorem dX9_sumOf_72 : decode cX9_sumOf 72 = .ok (.istore 7, 2) := by decide +kernel
theorem dX9_sumOf_74 : decode cX9_sumOf 74 = .ok (.aload 6, 2) := by decide +kernel
theorem dX9_sumOf_76 : decode cX9_sumOf 76 = .ok (.aload 6, 2) := by decide +kernel
theorem dX9_sumOf_78 : decode cX9_sumOf 78 = .ok (.iload 7, 2) := by decide +kernel
theorem dX9_sumOf_80 : decode cX9_sumOf 80 = .ok (.iload 5, 2) := by decide +kernel
theorem dX9_sumOf_82 : decode cX9_sumOf 82 = .ok (.invokevirtual 176, 3) := by decide +kernel
theorem dX9_sumOf_85 : decode cX9_sumOf 85 = .ok (.iload_n 2, 1) := by decide +kernel
theorem dX9_sumOf_86 : decode cX9_sumOf 86 = .ok (.invokevirtual 179, 3) := by decide +kernel
theorem dX9_sumOf_89 : decode cX9_sumOf 89 = .ok (.ireturn, 1) := by decide +kernel
theorem dX9_dueOf_0 : decode cX9_dueOf 0 = .ok (.aload_n 0, 1) := by decide +kernel
theorem dX9_dueOf_1 : decode cX9_dueOf 1 = .ok (.getfield 60, 3) := by decide +kernel
theorem dX9_dueOf_4 : decode cX9_dueOf 4 = .ok (.iload_n 1, 1) := by decide +kernel
theorem dX9_dueOf_5 : decode cX9_dueOf 5 = .ok (.baload, 1) := by decide +kernel
theorem dX9_dueOf_6 : decode cX9_dueOf 6 = .ok (.ifCond .eq 5, 3) := by decide +kernel
theorem dX9_dueOf_9 : decode cX9_dueOf 9 = .ok (.iconst 0, 1) := by decide +kernel
theorem dX9_dueOf_10 : decode cX9_dueOf 10 = .ok (.ireturn, 1) := by decide +kernel
theorem dX9_dueOf_11 : decode cX9_dueOf 11 = .ok (.aload_n 0, 1) := by decide +kernel
theorem dX9_dueOf_12 : decode cX9_dueOf 12 = .ok (.getfield 42, 3) := by decide +kernel
theorem dX9_dueOf_15 : decode cX9_dueOf 15 = .ok (.iload_n 1, 1) := by decide +kernel
theorem dX9_dueOf_16 : decode cX9_dueOf 16 = .ok (.invokevirtual 131, 3) := by decide +kernel
theorem dX9_dueOf_19 : decode cX9_dueOf 19 = .ok (.istore 4, 2) := by decide +kernel
theorem dX9_dueOf_21 : decode cX9_dueOf 21 = .ok (.aload_n 0, 1) := by decide +kernel
theorem dX9_dueOf_22 : decode cX9_dueOf 22 = .ok (.getfield 42, 3) := by decide +kernel
theorem dX9_dueOf_25 : decode cX9_dueOf 25 = .ok (.iload_n 1, 1) := by decide +kernel
theorem dX9_dueOf_26 : decode cX9_dueOf 26 = .ok (.invokevirtual 135, 3) := by decide +kernel
theorem dX9_dueOf_29 : decode cX9_dueOf 29 = .ok (.istore 5, 2) := by decide +kernel
theorem dX9_dueOf_31 : decode cX9_dueOf 31 = .ok (.aload_n 0, 1) := by decide +kernel
theorem dX9_dueOf_32 : decode cX9_dueOf 32 = .ok (.iload_n 1, 1) := by decide +kernel
theorem dX9_dueOf_33 : decode cX9_dueOf 33 = .ok (.iload 4, 2) := by decide +kernel
theorem dX9_dueOf_35 : decode cX9_dueOf 35 = .ok (.iload_n 3, 1) := by decide +kernel
theorem dX9_dueOf_36 : decode cX9_dueOf 36 = .ok (.invokevirtual 166, 3) := by decide +kernel
theorem dX9_dueOf_39 : decode cX9_dueOf 39 = .ok (.istore 6, 2) := by decide +kernel
theorem dX9_dueOf_41 : decode cX9_dueOf 41 = .ok (.iload 4, 2) := by decide +kernel
theorem dX9_dueOf_43 : decode cX9_dueOf 43 = .ok (.iload 5, 2) := by decide +kernel
theorem dX9_dueOf_45 : decode cX9_dueOf 45 = .ok (.if_icmp .ne 6, 3) := by decide +kernel
theorem dX9_dueOf_48 : decode cX9_dueOf 48 = .ok (.iload 6, 2) := by decide +kernel
theorem dX9_dueOf_50 : decode cX9_dueOf 50 = .ok (.ireturn, 1) := by decide +kernel
theorem dX9_dueOf_51 : decode cX9_dueOf 51 = .ok (.aload_n 0, 1) := by decide +kernel
theorem dX9_dueOf_52 : decode cX9_dueOf 52 = .ok (.iload_n 1, 1) := by decide +kernel
theorem dX9_dueOf_53 : decode cX9_dueOf 53 = .ok (.iload 5, 2) := by decide +kernel
theorem dX9_dueOf_55 : decode cX9_dueOf 55 = .ok (.iload_n 3, 1) := by decide +kernel
theorem dX9_dueOf_56 : decode cX9_dueOf 56 = .ok (.invokevirtual 166, 3) := by decide +kernel
theorem dX9_dueOf_59 : decode cX9_dueOf 59 = .ok (.istore 7, 2) := by decide +kernel
theorem dX9_dueOf_61 : decode cX9_dueOf 61 = .ok (.iload_n 2, 1) := by decide +kernel
theorem dX9_dueOf_62 : decode cX9_dueOf 62 = .ok (.iconst 1, 1) := by decide +kernel
theorem dX9_dueOf_63 : decode cX9_dueOf 63 = .ok (.if_icmp .ne 13, 3) := by decide +kernel
theorem dX9_dueOf_66 : decode cX9_dueOf 66 = .ok (.iload 6, 2) := by decide +kernel
theorem dX9_dueOf_68 : decode cX9_dueOf 68 = .ok (.iload 7, 2) := by decide +kernel
theorem dX9_dueOf_70 : decode cX9_dueOf 70 = .ok (.invokestatic 182, 3) := by decide +kernel
theorem dX9_dueOf_73 : decode cX9_dueOf 73 = .ok (.goto 10, 3) := by decide +kernel
theorem dX9_dueOf_76 : decode cX9_dueOf 76 = .ok (.iload 6, 2) := by decide +kernel
theorem dX9_dueOf_78 : decode cX9_dueOf 78 = .ok (.iload 7, 2) := by decide +kernel
theorem dX9_dueOf_80 : decode cX9_dueOf 80 = .ok (.invokestatic 187, 3) := by decide +kernel
theorem dX9_dueOf_83 : decode cX9_dueOf 83 = .ok (.ireturn, 1) := by decide +kernel
theorem dX9_line_0 : decode cX9_line 0 = .ok (.aload_n 0, 1) := by decide +kernel
theorem dX9_line_1 : decode cX9_line 1 = .ok (.iload_n 1, 1) := by decide +kernel
theorem dX9_line_2 : decode cX9_line 2 = .ok (.invokevirtual 112, 3) := by decide +kernel
theorem dX9_line_5 : decode cX9_line 5 = .ok (.ifCond .eq 23, 3) := by decide +kernel
theorem dX9_line_8 : decode cX9_line 8 = .ok (.iload_n 2, 1) := by decide +kernel
theorem dX9_line_9 : decode cX9_line 9 = .ok (.iconst 1, 1) := by decide +kernel
theorem dX9_line_10 : decode cX9_line 10 = .ok (.if_icmp .lt 18, 3) := by decide +kernel
theorem dX9_line_13 : decode cX9_line 13 = .ok (.iload_n 2, 1) := by decide +kernel
theorem dX9_line_14 : decode cX9_line 14 = .ok (.ldc 190, 2) := by decide +kernel
theorem dX9_line_16 : decode cX9_line 16 = .ok (.if_icmp .gt 12, 3) := by decide +kernel
theorem dX9_line_19 : decode cX9_line 19 = .ok (.iload_n 3, 1) := by decide +kernel
theorem dX9_line_20 : decode cX9_line 20 = .ok (.bipush 10, 2) := by decide +kernel
theorem dX9_line_22 : decode cX9_line 22 = .ok (.invokestatic 88, 3) := by decide +kernel
theorem dX9_line_25 : decode cX9_line 25 = .ok (.ifCond .ne 6, 3) := by decide +kernel
theorem dX9_line_28 : decode cX9_line 28 = .ok (.ldc 72, 2) := by decide +kernel
theorem dX9_line_30 : decode cX9_line 30 = .ok (.ireturn, 1) := by decide +kernel
theorem dX9_line_31 : decode cX9_line 31 = .ok (.aload_n 0, 1) := by decide +kernel
theorem dX9_line_32 : decode cX9_line 32 = .ok (.getfield 49, 3) := by decide +kernel
theorem dX9_line_35 : decode cX9_line 35 = .ok (.getfield 191, 3) := by decide +kernel
theorem dX9_line_38 : decode cX9_line 38 = .ok (.bipush 100, 2) := by decide +kernel
theorem dX9_line_40 : decode cX9_line 40 = .ok (.if_icmp .ne 6, 3) := by decide +kernel
theorem dX9_line_43 : decode cX9_line 43 = .ok (.ldc 77, 2) := by decide +kernel
theorem dX9_line_45 : decode cX9_line 45 = .ok (.ireturn, 1) := by decide +kernel
theorem dX9_line_46 : decode cX9_line 46 = .ok (.aload_n 0, 1) := by decide +kernel
theorem dX9_line_47 : decode cX9_line 47 = .ok (.getfield 49, 3) := by decide +kernel
theorem dX9_line_50 : decode cX9_line 50 = .ok (.iload_n 1, 1) := by decide +kernel
theorem dX9_line_51 : decode cX9_line 51 = .ok (.iload_n 2, 1) := by decide +kernel
theorem dX9_line_52 : decode cX9_line 52 = .ok (.iload_n 3, 1) := by decide +kernel
theorem dX9_line_53 : decode cX9_line 53 = .ok (.invokevirtual 192, 3) := by decide +kernel
theorem dX9_line_56 : decode cX9_line 56 = .ok (.ireturn, 1) := by decide +kernel
theorem dX9_marks_0 : decode cX9_marks 0 = .ok (.iload_n 1, 1) := by decide +kernel
theorem dX9_marks_1 : decode cX9_marks 1 = .ok (.sipush 1024, 3) := by decide +kernel
theorem dX9_marks_4 : decode cX9_marks 4 = .ok (.invokestatic 88, 3) := by decide +kernel
theorem dX9_marks_7 : decode cX9_marks 7 = .ok (.ifCond .ne 6, 3) := by decide +kernel
theorem dX9_marks_10 : decode cX9_marks 10 = .ok (.ldc 72, 2) := by decide +kernel
theorem dX9_marks_12 : decode cX9_marks 12 = .ok (.ireturn, 1) := by decide +kernel
theorem dX9_marks_13 : decode cX9_marks 13 = .ok (.aload_n 0, 1) := by decide +kernel
theorem dX9_marks_14 : decode cX9_marks 14 = .ok (.getfield 49, 3) := by decide +kernel
theorem dX9_marks_17 : decode cX9_marks 17 = .ok (.getfield 194, 3) := by decide +kernel
theorem dX9_marks_20 : decode cX9_marks 20 = .ok (.istore_n 2, 1) := by decide +kernel
theorem dX9_marks_21 : decode cX9_marks 21 = .ok (.aload_n 0, 1) := by decide +kernel
theorem dX9_marks_22 : decode cX9_marks 22 = .ok (.getfield 49, 3) := by decide +kernel
theorem dX9_marks_25 : decode cX9_marks 25 = .ok (.iload_n 1, 1) := by decide +kernel
theorem dX9_marks_26 : decode cX9_marks 26 = .ok (.putfield 194, 3) := by decide +kernel
theorem dX9_marks_29 : decode cX9_marks 29 = .ok (.iload_n 2, 1) := by decide +kernel
theorem dX9_marks_30 : decode cX9_marks 30 = .ok (.ireturn, 1) := by decide +kernel
theorem dX9_paid_0 : decode cX9_paid 0 = .ok (.iload_n 1, 1) := by decide +kernel
theorem dX9_paid_1 : decode cX9_paid 1 = .ok (.invokestatic 68, 3) := by decide +kernel
theorem dX9_paid_4 : decode cX9_paid 4 = .ok (.ifCond .eq 11, 3) := by decide +kernel
theorem dX9_paid_7 : decode cX9_paid 7 = .ok (.iload_n 2, 1) := by decide +kernel
theorem dX9_paid_8 : decode cX9_paid 8 = .ok (.iconst 2, 1) := by decide +kernel
theorem dX9_paid_9 : decode cX9_paid 9 = .ok (.invokestatic 88, 3) := by decide +kernel
theorem dX9_paid_12 : decode cX9_paid 12 = .ok (.ifCond .ne 6, 3) := by decide +kernel
theorem dX9_paid_15 : decode cX9_paid 15 = .ok (.ldc 72, 2) := by decide +kernel
theorem dX9_paid_17 : decode cX9_paid 17 = .ok (.ireturn, 1) := by decide +kernel
theorem dX9_paid_18 : decode cX9_paid 18 = .ok (.aload_n 0, 1) := by decide +kernel
theorem dX9_paid_19 : decode cX9_paid 19 = .ok (.getfield 49, 3) := by decide +kernel
theorem dX9_paid_22 : decode cX9_paid 22 = .ok (.iload_n 1, 1) := by decide +kernel
theorem dX9_paid_23 : decode cX9_paid 23 = .ok (.iload_n 2, 1) := by decide +kernel
theorem dX9_paid_24 : decode cX9_paid 24 = .ok (.ifCond .ne 7, 3) := by decide +kernel
theorem dX9_paid_27 : decode cX9_paid 27 = .ok (.iconst 1, 1) := by decide +kernel
theorem dX9_paid_28 : decode cX9_paid 28 = .ok (.goto 4, 3) := by decide +kernel
theorem dX9_paid_31 : decode cX9_paid 31 = .ok (.iconst 0, 1) := by decide +kernel
theorem dX9_paid_32 : decode cX9_paid 32 = .ok (.invokevirtual 197, 3) := by decide +kernel
theorem dX9_paid_35 : decode cX9_paid 35 = .ok (.ireturn, 1) := by decide +kernel
theorem dX9_owed_0 : decode cX9_owed 0 = .ok (.iload_n 1, 1) := by decide +kernel
theorem dX9_owed_1 : decode cX9_owed 1 = .ok (.iconst 2, 1) := by decide +kernel
theorem dX9_owed_2 : decode cX9_owed 2 = .ok (.invokestatic 88, 3) := by decide +kernel
theorem dX9_owed_5 : decode cX9_owed 5 = .ok (.ifCond .eq 11, 3) := by decide +kernel
theorem dX9_owed_8 : decode cX9_owed 8 = .ok (.aload_n 0, 1) := by decide +kernel
theorem dX9_owed_9 : decode cX9_owed 9 = .ok (.iload_n 2, 1) := by decide +kernel
theorem dX9_owed_10 : decode cX9_owed 10 = .ok (.invokevirtual 112, 3) := by decide +kernel
theorem dX9_owed_13 : decode cX9_owed 13 = .ok (.ifCond .ne 6, 3) := by decide +kernel
theorem dX9_owed_16 : decode cX9_owed 16 = .ok (.ldc 72, 2) := by decide +kernel
theorem dX9_owed_18 : decode cX9_owed 18 = .ok (.ireturn, 1) := by decide +kernel
theorem dX9_owed_19 : decode cX9_owed 19 = .ok (.aload_n 0, 1) := by decide +kernel
theorem dX9_owed_20 : decode cX9_owed 20 = .ok (.iload_n 1, 1) := by decide +kernel
theorem dX9_owed_21 : decode cX9_owed 21 = .ok (.iload_n 2, 1) := by decide +kernel
theorem dX9_owed_22 : decode cX9_owed 22 = .ok (.invokevirtual 201, 3) := by decide +kernel
theorem dX9_owed_25 : decode cX9_owed 25 = .ok (.aload_n 0, 1) := by decide +kernel
theorem dX9_owed_26 : decode cX9_owed 26 = .ok (.getfield 56, 3) := by decide +kernel
theorem dX9_owed_29 : decode cX9_owed 29 = .ok (.invokevirtual 205, 3) := by decide +kernel
theorem dX9_owed_32 : decode cX9_owed 32 = .ok (.ireturn, 1) := by decide +kernel
theorem dX9_over_0 : decode cX9_over 0 = .ok (.iload_n 1, 1) := by decide +kernel
theorem dX9_over_1 : decode cX9_over 1 = .ok (.iconst 2, 1) := by decide +kernel
theorem dX9_over_2 : decode cX9_over 2 = .ok (.invokestatic 88, 3) := by decide +kernel
theorem dX9_over_5 : decode cX9_over 5 = .ok (.ifCond .eq 11, 3) := by decide +kernel
theorem dX9_over_8 : decode cX9_over 8 = .ok (.aload_n 0, 1) := by decide +kernel
theorem dX9_over_9 : decode cX9_over 9 = .ok (.iload_n 2, 1) := by decide +kernel
theorem dX9_over_10 : decode cX9_over 10 = .ok (.invokevirtual 112, 3) := by decide +kernel
theorem dX9_over_13 : decode cX9_over 13 = .ok (.ifCond .ne 6, 3) := by decide +kernel
theorem dX9_over_16 : decode cX9_over 16 = .ok (.ldc 72, 2) := by decide +kernel
theorem dX9_over_18 : decode cX9_over 18 = .ok (.ireturn, 1) := by decide +kernel
theorem dX9_over_19 : decode cX9_over 19 = .ok (.aload_n 0, 1) := by decide +kernel
theorem dX9_over_20 : decode cX9_over 20 = .ok (.iload_n 1, 1) := by decide +kernel
theorem dX9_over_21 : decode cX9_over 21 = .ok (.iload_n 2, 1) := by decide +kernel
theorem dX9_over_22 : decode cX9_over 22 = .ok (.invokevirtual 201, 3) := by decide +kernel
theorem dX9_over_25 : decode cX9_over 25 = .ok (.aload_n 0, 1) := by decide +kernel
theorem dX9_over_26 : decode cX9_over 26 = .ok (.getfield 56, 3) := by decide +kernel
theorem dX9_over_29 : decode cX9_over 29 = .ok (.getfield 209, 3) := by decide +kernel
theorem dX9_over_32 : decode cX9_over 32 = .ok (.ireturn, 1) := by decide +kernel
theorem dX9_left_0 : decode cX9_left 0 = .ok (.iload_n 2, 1) := by decide +kernel
theorem dX9_left_1 : decode cX9_left 1 = .ok (.iconst 2, 1) := by decide +kernel
theorem dX9_left_2 : decode cX9_left 2 = .ok (.invokestatic 88, 3) := by decide +kernel
theorem dX9_left_5 : decode cX9_left 5 = .ok (.ifCond .eq 20, 3) := by decide +kernel
theorem dX9_left_8 : decode cX9_left 8 = .ok (.aload_n 0, 1) := by decide +kernel
theorem dX9_left_9 : decode cX9_left 9 = .ok (.iload_n 3, 1) := by decide +kernel
theorem dX9_left_10 : decode cX9_left 10 = .ok (.invokevirtual 112, 3) := by decide +kernel
theorem dX9_left_13 : decode cX9_left 13 = .ok (.ifCond .eq 12, 3) := by decide +kernel
theorem dX9_left_16 : decode cX9_left 16 = .ok (.iload_n 1, 1) := by decide +kernel
theorem dX9_left_17 : decode cX9_left 17 = .ok (.ifCond .lt 8, 3) := by decide +kernel
theorem dX9_left_20 : decode cX9_left 20 = .ok (.iload_n 1, 1) := by decide +kernel
theorem dX9_left_21 : decode cX9_left 21 = .ok (.iload_n 3, 1) := by decide +kernel
theorem dX9_left_22 : decode cX9_left 22 = .ok (.if_icmp .le 6, 3) := by decide +kernel
theorem dX9_left_25 : decode cX9_left 25 = .ok (.ldc 72, 2) := by decide +kernel
theorem dX9_left_27 : decode cX9_left 27 = .ok (.ireturn, 1) := by decide +kernel
theorem dX9_left_28 : decode cX9_left 28 = .ok (.aload_n 0, 1) := by decide +kernel
theorem dX9_left_29 : decode cX9_left 29 = .ok (.iload_n 2, 1) := by decide +kernel
theorem dX9_left_30 : decode cX9_left 30 = .ok (.iload_n 3, 1) := by decide +kernel
theorem dX9_left_31 : decode cX9_left 31 = .ok (.invokevirtual 201, 3) := by decide +kernel
theorem dX9_left_34 : decode cX9_left 34 = .ok (.aload_n 0, 1) := by decide +kernel
theorem dX9_left_35 : decode cX9_left 35 = .ok (.getfield 56, 3) := by decide +kernel
theorem dX9_left_38 : decode cX9_left 38 = .ok (.getfield 212, 3) := by decide +kernel
theorem dX9_left_41 : decode cX9_left 41 = .ok (.iload_n 1, 1) := by decide +kernel
theorem dX9_left_42 : decode cX9_left 42 = .ok (.iaload, 1) := by decide +kernel
theorem dX9_left_43 : decode cX9_left 43 = .ok (.ireturn, 1) := by decide +kernel
theorem dX9_oldest_0 : decode cX9_oldest 0 = .ok (.iload_n 1, 1) := by decide +kernel
theorem dX9_oldest_1 : decode cX9_oldest 1 = .ok (.iconst 2, 1) := by decide +kernel
theorem dX9_oldest_2 : decode cX9_oldest 2 = .ok (.invokestatic 88, 3) := by decide +kernel
theorem dX9_oldest_5 : decode cX9_oldest 5 = .ok (.ifCond .eq 11, 3) := by decide +kernel
theorem dX9_oldest_8 : decode cX9_oldest 8 = .ok (.aload_n 0, 1) := by decide +kernel
theorem dX9_oldest_9 : decode cX9_oldest 9 = .ok (.iload_n 2, 1) := by decide +kernel
theorem dX9_oldest_10 : decode cX9_oldest 10 = .ok (.invokevirtual 112, 3) := by decide +kernel
theorem dX9_oldest_13 : decode cX9_oldest 13 = .ok (.ifCond .ne 6, 3) := by decide +kernel
theorem dX9_oldest_16 : decode cX9_oldest 16 = .ok (.ldc 72, 2) := by decide +kernel
theorem dX9_oldest_18 : decode cX9_oldest 18 = .ok (.ireturn, 1) := by decide +kernel
theorem dX9_oldest_19 : decode cX9_oldest 19 = .ok (.aload_n 0, 1) := by decide +kernel
theorem dX9_oldest_20 : decode cX9_oldest 20 = .ok (.iload_n 1, 1) := by decide +kernel
theorem dX9_oldest_21 : decode cX9_oldest 21 = .ok (.iload_n 2, 1) := by decide +kernel
theorem dX9_oldest_22 : decode cX9_oldest 22 = .ok (.invokevirtual 201, 3) := by decide +kernel
theorem dX9_oldest_25 : decode cX9_oldest 25 = .ok (.aload_n 0, 1) := by decide +kernel
theorem dX9_oldest_26 : decode cX9_oldest 26 = .ok (.getfield 56, 3) := by decide +kernel
theorem dX9_oldest_29 : decode cX9_oldest 29 = .ok (.invokevirtual 215, 3) := by decide +kernel
theorem dX9_oldest_32 : decode cX9_oldest 32 = .ok (.ireturn, 1) := by decide +kernel
theorem dX9_payer_0 : decode cX9_payer 0 = .ok (.aload_n 0, 1) := by decide +kernel
theorem dX9_payer_1 : decode cX9_payer 1 = .ok (.iload_n 1, 1) := by decide +kernel
theorem dX9_payer_2 : decode cX9_payer 2 = .ok (.invokevirtual 112, 3) := by decide +kernel
theorem dX9_payer_5 : decode cX9_payer 5 = .ok (.ifCond .eq 11, 3) := by decide +kernel
theorem dX9_payer_8 : decode cX9_payer 8 = .ok (.iload_n 2, 1) := by decide +kernel
theorem dX9_payer_9 : decode cX9_payer 9 = .ok (.iconst 2, 1) := by decide +kernel
theorem dX9_payer_10 : decode cX9_payer 10 = .ok (.invokestatic 88, 3) := by decide +kernel
theorem dX9_payer_13 : decode cX9_payer 13 = .ok (.ifCond .ne 6, 3) := by decide +kernel
theorem dX9_payer_16 : decode cX9_payer 16 = .ok (.ldc 72, 2) := by decide +kernel
theorem dX9_payer_18 : decode cX9_payer 18 = .ok (.ireturn, 1) := by decide +kernel
theorem dX9_payer_19 : decode cX9_payer 19 = .ok (.aload_n 0, 1) := by decide +kernel
theorem dX9_payer_20 : decode cX9_payer 20 = .ok (.iload_n 2, 1) := by decide +kernel
theorem dX9_payer_21 : decode cX9_payer 21 = .ok (.aload_n 0, 1) := by decide +kernel
theorem dX9_payer_22 : decode cX9_payer 22 = .ok (.getfield 78, 3) := by decide +kernel
theorem dX9_payer_25 : decode cX9_payer 25 = .ok (.invokevirtual 201, 3) := by decide +kernel
theorem dX9_payer_28 : decode cX9_payer 28 = .ok (.aload_n 0, 1) := by decide +kernel
theorem dX9_payer_29 : decode cX9_payer 29 = .ok (.getfield 56, 3) := by decide +kernel
theorem dX9_payer_32 : decode cX9_payer 32 = .ok (.getfield 218, 3) := by decide +kernel
theorem dX9_payer_35 : decode cX9_payer 35 = .ok (.iload_n 1, 1) := by decide +kernel
theorem dX9_payer_36 : decode cX9_payer 36 = .ok (.iaload, 1) := by decide +kernel
theorem dX9_payer_37 : decode cX9_payer 37 = .ok (.ifCond .ne 6, 3) := by decide +kernel
theorem dX9_payer_40 : decode cX9_payer 40 = .ok (.ldc 98, 2) := by decide +kernel
theorem dX9_payer_42 : decode cX9_payer 42 = .ok (.ireturn, 1) := by decide +kernel
theorem dX9_payer_43 : decode cX9_payer 43 = .ok (.aload_n 0, 1) := by decide +kernel
theorem dX9_payer_44 : decode cX9_payer 44 = .ok (.getfield 49, 3) := by decide +kernel
theorem dX9_payer_47 : decode cX9_payer 47 = .ok (.aload_n 0, 1) := by decide +kernel
theorem dX9_payer_48 : decode cX9_payer 48 = .ok (.getfield 56, 3) := by decide +kernel
theorem dX9_payer_51 : decode cX9_payer 51 = .ok (.iload_n 1, 1) := by decide +kernel
theorem dX9_payer_52 : decode cX9_payer 52 = .ok (.invokevirtual 221, 3) := by decide +kernel
theorem dX9_payer_55 : decode cX9_payer 55 = .ok (.aload_n 0, 1) := by decide +kernel
theorem dX9_payer_56 : decode cX9_payer 56 = .ok (.getfield 78, 3) := by decide +kernel
theorem dX9_payer_59 : decode cX9_payer 59 = .ok (.invokevirtual 224, 3) := by decide +kernel
theorem dX9_payer_62 : decode cX9_payer 62 = .ok (.ireturn, 1) := by decide +kernel
theorem dX9_interest_0 : decode cX9_interest 0 = .ok (.iload_n 1, 1) := by decide +kernel
theorem dX9_interest_1 : decode cX9_interest 1 = .ok (.iconst 2, 1) := by decide +kernel
theorem dX9_interest_2 : decode cX9_interest 2 = .ok (.invokestatic 88, 3) := by decide +kernel
theorem dX9_interest_5 : decode cX9_interest 5 = .ok (.ifCond .eq 11, 3) := by decide +kernel
theorem dX9_interest_8 : decode cX9_interest 8 = .ok (.aload_n 0, 1) := by decide +kernel
theorem dX9_interest_9 : decode cX9_interest 9 = .ok (.iload_n 2, 1) := by decide +kernel
theorem dX9_interest_10 : decode cX9_interest 10 = .ok (.invokevirtual 112, 3) := by decide +kernel
theorem dX9_interest_13 : decode cX9_interest 13 = .ok (.ifCond .ne 6, 3) := by decide +kernel
theorem dX9_interest_16 : decode cX9_interest 16 = .ok (.ldc 72, 2) := by decide +kernel
theorem dX9_interest_18 : decode cX9_interest 18 = .ok (.ireturn, 1) := by decide +kernel
theorem dX9_interest_19 : decode cX9_interest 19 = .ok (.aload_n 0, 1) := by decide +kernel
theorem dX9_interest_20 : decode cX9_interest 20 = .ok (.iload_n 1, 1) := by decide +kernel
theorem dX9_interest_21 : decode cX9_interest 21 = .ok (.iload_n 2, 1) := by decide +kernel
theorem dX9_interest_22 : decode cX9_interest 22 = .ok (.invokevirtual 201, 3) := by decide +kernel
theorem dX9_interest_25 : decode cX9_interest 25 = .ok (.iconst 0, 1) := by decide +kernel
theorem dX9_interest_26 : decode cX9_interest 26 = .ok (.istore_n 3, 1) := by decide +kernel
theorem dX9_interest_27 : decode cX9_interest 27 = .ok (.iconst 4, 1) := by decide +kernel
theorem dX9_interest_28 : decode cX9_interest 28 = .ok (.istore 4, 2) := by decide +kernel
theorem dX9_interest_30 : decode cX9_interest 30 = .ok (.iload 4, 2) := by decide +kernel
theorem dX9_interest_32 : decode cX9_interest 32 = .ok (.iload_n 2, 1) := by decide +kernel
theorem dX9_interest_33 : decode cX9_interest 33 = .ok (.if_icmp .gt 43, 3) := by decide +kernel
theorem dX9_interest_36 : decode cX9_interest 36 = .ok (.aload_n 0, 1) := by decide +kernel
theorem dX9_interest_37 : decode cX9_interest 37 = .ok (.getfield 56, 3) := by decide +kernel
theorem dX9_interest_40 : decode cX9_interest 40 = .ok (.aload_n 0, 1) := by decide +kernel
theorem dX9_interest_41 : decode cX9_interest 41 = .ok (.getfield 49, 3) := by decide +kernel
theorem dX9_interest_44 : decode cX9_interest 44 = .ok (.iload 4, 2) := by decide +kernel
theorem dX9_interest_46 : decode cX9_interest 46 = .ok (.invokevirtual 227, 3) := by decide +kernel
theorem dX9_interest_49 : decode cX9_interest 49 = .ok (.invokevirtual 230, 3) := by decide +kernel
theorem dX9_interest_52 : decode cX9_interest 52 = .ok (.iload_n 3, 1) := by decide +kernel
theorem dX9_interest_53 : decode cX9_interest 53 = .ok (.aload_n 0, 1) := by decide +kernel
theorem dX9_interest_54 : decode cX9_interest 54 = .ok (.getfield 56, 3) := by decide +kernel
theorem dX9_interest_57 : decode cX9_interest 57 = .ok (.iload 4, 2) := by decide +kernel
theorem dX9_interest_59 : decode cX9_interest 59 = .ok (.iconst 4, 1) := by decide +kernel
theorem dX9_interest_60 : decode cX9_interest 60 = .ok (.isub, 1) := by decide +kernel
theorem dX9_interest_61 : decode cX9_interest 61 = .ok (.aload_n 0, 1) := by decide +kernel
theorem dX9_interest_62 : decode cX9_interest 62 = .ok (.getfield 233, 3) := by decide +kernel
theorem dX9_interest_65 : decode cX9_interest 65 = .ok (.invokevirtual 236, 3) := by decide +kernel
theorem dX9_interest_68 : decode cX9_interest 68 = .ok (.iadd, 1) := by decide +kernel
theorem dX9_interest_69 : decode cX9_interest 69 = .ok (.istore_n 3, 1) := by decide +kernel
theorem dX9_interest_70 : decode cX9_interest 70 = .ok (.iinc 4 1, 3) := by decide +kernel
theorem dX9_interest_73 : decode cX9_interest 73 = .ok (.goto (-43), 3) := by decide +kernel
theorem dX9_interest_76 : decode cX9_interest 76 = .ok (.iload_n 3, 1) := by decide +kernel
theorem dX9_interest_77 : decode cX9_interest 77 = .ok (.ireturn, 1) := by decide +kernel
theorem dX9_forgive_0 : decode cX9_forgive 0 = .ok (.iload_n 1, 1) := by decide +kernel
theorem dX9_forgive_1 : decode cX9_forgive 1 = .ok (.invokestatic 68, 3) := by decide +kernel
theorem dX9_forgive_4 : decode cX9_forgive 4 = .ok (.ifCond .eq 11, 3) := by decide +kernel
theorem dX9_forgive_7 : decode cX9_forgive 7 = .ok (.iload_n 2, 1) := by decide +kernel
theorem dX9_forgive_8 : decode cX9_forgive 8 = .ok (.iconst 2, 1) := by decide +kernel
theorem dX9_forgive_9 : decode cX9_forgive 9 = .ok (.invokestatic 88, 3) := by decide +kernel
theorem dX9_forgive_12 : decode cX9_forgive 12 = .ok (.ifCond .ne 6, 3) := by decide +kernel
theorem dX9_forgive_15 : decode cX9_forgive 15 = .ok (.ldc 72, 2) := by decide +kernel
theorem dX9_forgive_17 : decode cX9_forgive 17 = .ok (.ireturn, 1) := by decide +kernel
theorem dX9_forgive_18 : decode cX9_forgive 18 = .ok (.aload_n 0, 1) := by decide +kernel
theorem dX9_forgive_19 : decode cX9_forgive 19 = .ok (.getfield 60, 3) := by decide +kernel
theorem dX9_forgive_22 : decode cX9_forgive 22 = .ok (.iload_n 1, 1) := by decide +kernel
theorem dX9_forgive_23 : decode cX9_forgive 23 = .ok (.baload, 1) := by decide +kernel
theorem dX9_forgive_24 : decode cX9_forgive 24 = .ok (.ifCond .eq 7, 3) := by decide +kernel
theorem dX9_forgive_27 : decode cX9_forgive 27 = .ok (.iconst 1, 1) := by decide +kernel
theorem dX9_forgive_28 : decode cX9_forgive 28 = .ok (.goto 4, 3) := by decide +kernel
theorem dX9_forgive_31 : decode cX9_forgive 31 = .ok (.iconst 0, 1) := by decide +kernel
theorem dX9_forgive_32 : decode cX9_forgive 32 = .ok (.istore_n 3, 1) := by decide +kernel
theorem dX9_forgive_33 : decode cX9_forgive 33 = .ok (.aload_n 0, 1) := by decide +kernel
theorem dX9_forgive_34 : decode cX9_forgive 34 = .ok (.getfield 60, 3) := by decide +kernel
theorem dX9_forgive_37 : decode cX9_forgive 37 = .ok (.iload_n 1, 1) := by decide +kernel
theorem dX9_forgive_38 : decode cX9_forgive 38 = .ok (.iload_n 2, 1) := by decide +kernel
theorem dX9_forgive_39 : decode cX9_forgive 39 = .ok (.iconst 1, 1) := by decide +kernel
theorem dX9_forgive_40 : decode cX9_forgive 40 = .ok (.if_icmp .ne 7, 3) := by decide +kernel
theorem dX9_forgive_43 : decode cX9_forgive 43 = .ok (.iconst 1, 1) := by decide +kernel
theorem dX9_forgive_44 : decode cX9_forgive 44 = .ok (.goto 4, 3) := by decide +kernel
theorem dX9_forgive_47 : decode cX9_forgive 47 = .ok (.iconst 0, 1) := by decide +kernel
theorem dX9_forgive_48 : decode cX9_forgive 48 = .ok (.bastore, 1) := by decide +kernel
theorem dX9_forgive_49 : decode cX9_forgive 49 = .ok (.iload_n 3, 1) := by decide +kernel
theorem dX9_forgive_50 : decode cX9_forgive 50 = .ok (.ireturn, 1) := by decide +kernel
theorem dX9_rate_0 : decode cX9_rate 0 = .ok (.iload_n 1, 1) := by decide +kernel
theorem dX9_rate_1 : decode cX9_rate 1 = .ok (.ifCond .lt 10, 3) := by decide +kernel
theorem dX9_rate_4 : decode cX9_rate 4 = .ok (.iload_n 1, 1) := by decide +kernel
theorem dX9_rate_5 : decode cX9_rate 5 = .ok (.sipush 500, 3) := by decide +kernel
theorem dX9_rate_8 : decode cX9_rate 8 = .ok (.if_icmp .le 6, 3) := by decide +kernel
theorem dX9_rate_11 : decode cX9_rate 11 = .ok (.ldc 72, 2) := by decide +kernel
theorem dX9_rate_13 : decode cX9_rate 13 = .ok (.ireturn, 1) := by decide +kernel
theorem dX9_rate_14 : decode cX9_rate 14 = .ok (.aload_n 0, 1) := by decide +kernel
theorem dX9_rate_15 : decode cX9_rate 15 = .ok (.getfield 233, 3) := by decide +kernel
theorem dX9_rate_18 : decode cX9_rate 18 = .ok (.istore_n 2, 1) := by decide +kernel
theorem dX9_rate_19 : decode cX9_rate 19 = .ok (.aload_n 0, 1) := by decide +kernel
theorem dX9_rate_20 : decode cX9_rate 20 = .ok (.iload_n 1, 1) := by decide +kernel
theorem dX9_rate_21 : decode cX9_rate 21 = .ok (.putfield 233, 3) := by decide +kernel
theorem dX9_rate_24 : decode cX9_rate 24 = .ok (.iload_n 2, 1) := by decide +kernel
theorem dX9_rate_25 : decode cX9_rate 25 = .ok (.ireturn, 1) := by decide +kernel
theorem dX9_weeks_0 : decode cX9_weeks 0 = .ok (.iload_n 1, 1) := by decide +kernel
theorem dX9_weeks_1 : decode cX9_weeks 1 = .ok (.iconst 1, 1) := by decide +kernel
theorem dX9_weeks_2 : decode cX9_weeks 2 = .ok (.if_icmp .lt 21, 3) := by decide +kernel
theorem dX9_weeks_5 : decode cX9_weeks 5 = .ok (.iload_n 1, 1) := by decide +kernel
theorem dX9_weeks_6 : decode cX9_weeks 6 = .ok (.bipush 60, 2) := by decide +kernel
theorem dX9_weeks_8 : decode cX9_weeks 8 = .ok (.if_icmp .gt 15, 3) := by decide +kernel
theorem dX9_weeks_11 : decode cX9_weeks 11 = .ok (.aload_n 0, 1) := by decide +kernel
theorem dX9_weeks_12 : decode cX9_weeks 12 = .ok (.getfield 78, 3) := by decide +kernel
theorem dX9_weeks_15 : decode cX9_weeks 15 = .ok (.iload_n 1, 1) := by decide +kernel
theorem dX9_weeks_16 : decode cX9_weeks 16 = .ok (.iadd, 1) := by decide +kernel
theorem dX9_weeks_17 : decode cX9_weeks 17 = .ok (.invokestatic 68, 3) := by decide +kernel
theorem dX9_weeks_20 : decode cX9_weeks 20 = .ok (.ifCond .ne 6, 3) := by decide +kernel
theorem dX9_weeks_23 : decode cX9_weeks 23 = .ok (.ldc 72, 2) := by decide +kernel
theorem dX9_weeks_25 : decode cX9_weeks 25 = .ok (.ireturn, 1) := by decide +kernel
theorem dX9_weeks_26 : decode cX9_weeks 26 = .ok (.aload_n 0, 1) := by decide +kernel
theorem dX9_weeks_27 : decode cX9_weeks 27 = .ok (.dup, 1) := by decide +kernel
theorem dX9_weeks_28 : decode cX9_weeks 28 = .ok (.getfield 78, 3) := by decide +kernel
theorem dX9_weeks_31 : decode cX9_weeks 31 = .ok (.iload_n 1, 1) := by decide +kernel
theorem dX9_weeks_32 : decode cX9_weeks 32 = .ok (.iadd, 1) := by decide +kernel
theorem dX9_weeks_33 : decode cX9_weeks 33 = .ok (.putfield 78, 3) := by decide +kernel
theorem dX9_weeks_36 : decode cX9_weeks 36 = .ok (.aload_n 0, 1) := by decide +kernel
theorem dX9_weeks_37 : decode cX9_weeks 37 = .ok (.getfield 78, 3) := by decide +kernel
theorem dX9_weeks_40 : decode cX9_weeks 40 = .ok (.ireturn, 1) := by decide +kernel
theorem dX9_settle_0 : decode cX9_settle 0 = .ok (.iconst 0, 1) := by decide +kernel
theorem dX9_settle_1 : decode cX9_settle 1 = .ok (.istore_n 3, 1) := by decide +kernel
theorem dX9_settle_2 : decode cX9_settle 2 = .ok (.iload_n 3, 1) := by decide +kernel
theorem dX9_settle_3 : decode cX9_settle 3 = .ok (.iload_n 2, 1) := by decide +kernel
theorem dX9_settle_4 : decode cX9_settle 4 = .ok (.if_icmp .gt 25, 3) := by decide +kernel
theorem dX9_settle_7 : decode cX9_settle 7 = .ok (.aload_n 0, 1) := by decide +kernel
theorem dX9_settle_8 : decode cX9_settle 8 = .ok (.getfield 56, 3) := by decide +kernel
theorem dX9_settle_11 : decode cX9_settle 11 = .ok (.getfield 218, 3) := by decide +kernel
theorem dX9_settle_14 : decode cX9_settle 14 = .ok (.iload_n 3, 1) := by decide +kernel
theorem dX9_settle_15 : decode cX9_settle 15 = .ok (.aload_n 0, 1) := by decide +kernel
theorem dX9_settle_16 : decode cX9_settle 16 = .ok (.iload_n 3, 1) := by decide +kernel
theorem dX9_settle_17 : decode cX9_settle 17 = .ok (.iload_n 1, 1) := by decide +kernel
theorem dX9_settle_18 : decode cX9_settle 18 = .ok (.iload_n 2, 1) := by decide +kernel
theorem dX9_settle_19 : decode cX9_settle 19 = .ok (.invokevirtual 170, 3) := by decide +kernel
theorem dX9_settle_22 : decode cX9_settle 22 = .ok (.iastore, 1) := by decide +kernel
theorem dX9_settle_23 : decode cX9_settle 23 = .ok (.iinc 3 1, 3) := by decide +kernel
theorem dX9_settle_26 : decode cX9_settle 26 = .ok (.goto (-24), 3) := by decide +kernel
theorem dX9_settle_29 : decode cX9_settle 29 = .ok (.aload_n 0, 1) := by decide +kernel
theorem dX9_settle_30 : decode cX9_settle 30 = .ok (.getfield 56, 3) := by decide +kernel
theorem dX9_settle_33 : decode cX9_settle 33 = .ok (.iload_n 2, 1) := by decide +kernel
theorem dX9_settle_34 : decode cX9_settle 34 = .ok (.iconst 1, 1) := by decide +kernel
theorem dX9_settle_35 : decode cX9_settle 35 = .ok (.iadd, 1) := by decide +kernel
theorem dX9_settle_36 : decode cX9_settle 36 = .ok (.putfield 239, 3) := by decide +kernel
theorem dX9_settle_39 : decode cX9_settle 39 = .ok (.aload_n 0, 1) := by decide +kernel
theorem dX9_settle_40 : decode cX9_settle 40 = .ok (.getfield 56, 3) := by decide +kernel
theorem dX9_settle_43 : decode cX9_settle 43 = .ok (.aload_n 0, 1) := by decide +kernel
theorem dX9_settle_44 : decode cX9_settle 44 = .ok (.getfield 49, 3) := by decide +kernel
theorem dX9_settle_47 : decode cX9_settle 47 = .ok (.iload_n 2, 1) := by decide +kernel
theorem dX9_settle_48 : decode cX9_settle 48 = .ok (.invokevirtual 227, 3) := by decide +kernel
theorem dX9_settle_51 : decode cX9_settle 51 = .ok (.invokevirtual 230, 3) := by decide +kernel
theorem dX9_settle_54 : decode cX9_settle 54 = .ok (.return_, 1) := by decide +kernel
theorem dX9_sheet_0 : decode cX9_sheet 0 = .ok (.iload_n 1, 1) := by decide +kernel
theorem dX9_sheet_1 : decode cX9_sheet 1 = .ok (.iconst 2, 1) := by decide +kernel
theorem dX9_sheet_2 : decode cX9_sheet 2 = .ok (.invokestatic 88, 3) := by decide +kernel
theorem dX9_sheet_5 : decode cX9_sheet 5 = .ok (.ifCond .eq 9, 3) := by decide +kernel
theorem dX9_sheet_8 : decode cX9_sheet 8 = .ok (.iload_n 2, 1) := by decide +kernel
theorem dX9_sheet_9 : decode cX9_sheet 9 = .ok (.bipush 120, 2) := by decide +kernel
theorem dX9_sheet_11 : decode cX9_sheet 11 = .ok (.if_icmp .le 6, 3) := by decide +kernel
theorem dX9_sheet_14 : decode cX9_sheet 14 = .ok (.ldc 72, 2) := by decide +kernel
theorem dX9_sheet_16 : decode cX9_sheet 16 = .ok (.ireturn, 1) := by decide +kernel
theorem dX9_sheet_17 : decode cX9_sheet 17 = .ok (.iload_n 2, 1) := by decide +kernel
theorem dX9_sheet_18 : decode cX9_sheet 18 = .ok (.ifCond .ge 6, 3) := by decide +kernel
theorem dX9_sheet_21 : decode cX9_sheet 21 = .ok (.ldc 242, 2) := by decide +kernel
theorem dX9_sheet_23 : decode cX9_sheet 23 = .ok (.ireturn, 1) := by decide +kernel
theorem dX9_sheet_24 : decode cX9_sheet 24 = .ok (.aload_n 0, 1) := by decide +kernel
theorem dX9_sheet_25 : decode cX9_sheet 25 = .ok (.getfield 42, 3) := by decide +kernel
theorem dX9_sheet_28 : decode cX9_sheet 28 = .ok (.getfield 243, 3) := by decide +kernel
theorem dX9_sheet_31 : decode cX9_sheet 31 = .ok (.iload_n 1, 1) := by decide +kernel
theorem dX9_sheet_32 : decode cX9_sheet 32 = .ok (.aaload, 1) := by decide +kernel
theorem dX9_sheet_33 : decode cX9_sheet 33 = .ok (.iload_n 2, 1) := by decide +kernel
theorem dX9_sheet_34 : decode cX9_sheet 34 = .ok (.invokevirtual 247, 3) := by decide +kernel
theorem dX9_sheet_37 : decode cX9_sheet 37 = .ok (.iload_n 2, 1) := by decide +kernel
theorem dX9_sheet_38 : decode cX9_sheet 38 = .ok (.ireturn, 1) := by decide +kernel
theorem dX9_mark_0 : decode cX9_mark 0 = .ok (.iload_n 1, 1) := by decide +kernel
theorem dX9_mark_1 : decode cX9_mark 1 = .ok (.iconst 2, 1) := by decide +kernel
theorem dX9_mark_2 : decode cX9_mark 2 = .ok (.invokestatic 88, 3) := by decide +kernel
theorem dX9_mark_5 : decode cX9_mark 5 = .ok (.ifCond .ne 6, 3) := by decide +kernel
theorem dX9_mark_8 : decode cX9_mark 8 = .ok (.ldc 72, 2) := by decide +kernel
theorem dX9_mark_10 : decode cX9_mark 10 = .ok (.ireturn, 1) := by decide +kernel
theorem dX9_mark_11 : decode cX9_mark 11 = .ok (.aload_n 0, 1) := by decide +kernel
theorem dX9_mark_12 : decode cX9_mark 12 = .ok (.getfield 42, 3) := by decide +kernel
theorem dX9_mark_15 : decode cX9_mark 15 = .ok (.getfield 243, 3) := by decide +kernel
theorem dX9_mark_18 : decode cX9_mark 18 = .ok (.iload_n 1, 1) := by decide +kernel
theorem dX9_mark_19 : decode cX9_mark 19 = .ok (.aaload, 1) := by decide +kernel
theorem dX9_mark_20 : decode cX9_mark 20 = .ok (.astore 4, 2) := by decide +kernel
theorem dX9_mark_22 : decode cX9_mark 22 = .ok (.aload 4, 2) := by decide +kernel
theorem dX9_mark_24 : decode cX9_mark 24 = .ok (.invokevirtual 252, 3) := by decide +kernel
theorem dX9_mark_27 : decode cX9_mark 27 = .ok (.ifCond .eq 7, 3) := by decide +kernel
theorem dX9_mark_30 : decode cX9_mark 30 = .ok (.ldc_w 256, 3) := by decide +kernel
theorem dX9_mark_33 : decode cX9_mark 33 = .ok (.ireturn, 1) := by decide +kernel
theorem dX9_mark_34 : decode cX9_mark 34 = .ok (.iload_n 2, 1) := by decide +kernel
theorem dX9_mark_35 : decode cX9_mark 35 = .ok (.aload 4, 2) := by decide +kernel
theorem dX9_mark_37 : decode cX9_mark 37 = .ok (.getfield 257, 3) := by decide +kernel
theorem dX9_mark_40 : decode cX9_mark 40 = .ok (.invokestatic 88, 3) := by decide +kernel
theorem dX9_mark_43 : decode cX9_mark 43 = .ok (.ifCond .ne 7, 3) := by decide +kernel
theorem dX9_mark_46 : decode cX9_mark 46 = .ok (.ldc_w 258, 3) := by decide +kernel
theorem dX9_mark_49 : decode cX9_mark 49 = .ok (.ireturn, 1) := by decide +kernel
theorem dX9_mark_50 : decode cX9_mark 50 = .ok (.aload 4, 2) := by decide +kernel
theorem dX9_mark_52 : decode cX9_mark 52 = .ok (.getfield 259, 3) := by decide +kernel
theorem dX9_mark_55 : decode cX9_mark 55 = .ok (.iload_n 2, 1) := by decide +kernel
theorem dX9_mark_56 : decode cX9_mark 56 = .ok (.baload, 1) := by decide +kernel
theorem dX9_mark_57 : decode cX9_mark 57 = .ok (.istore 5, 2) := by decide +kernel
theorem dX9_mark_59 : decode cX9_mark 59 = .ok (.aload 4, 2) := by decide +kernel
theorem dX9_mark_61 : decode cX9_mark 61 = .ok (.getfield 259, 3) := by decide +kernel
theorem dX9_mark_64 : decode cX9_mark 64 = .ok (.iload_n 2, 1) := by decide +kernel
theorem dX9_mark_65 : decode cX9_mark 65 = .ok (.iload_n 3, 1) := by decide +kernel
theorem dX9_mark_66 : decode cX9_mark 66 = .ok (.i2b, 1) := by decide +kernel
theorem dX9_mark_67 : decode cX9_mark 67 = .ok (.bastore, 1) := by decide +kernel
theorem dX9_mark_68 : decode cX9_mark 68 = .ok (.iload 5, 2) := by decide +kernel
theorem dX9_mark_70 : decode cX9_mark 70 = .ok (.ireturn, 1) := by decide +kernel
theorem dX9_copy_0 : decode cX9_copy 0 = .ok (.iload_n 1, 1) := by decide +kernel
theorem dX9_copy_1 : decode cX9_copy 1 = .ok (.iconst 2, 1) := by decide +kernel
theorem dX9_copy_2 : decode cX9_copy 2 = .ok (.invokestatic 88, 3) := by decide +kernel
theorem dX9_copy_5 : decode cX9_copy 5 = .ok (.ifCond .eq 11, 3) := by decide +kernel
theorem dX9_copy_8 : decode cX9_copy 8 = .ok (.iload_n 3, 1) := by decide +kernel
theorem dX9_copy_9 : decode cX9_copy 9 = .ok (.iconst 2, 1) := by decide +kernel
theorem dX9_copy_10 : decode cX9_copy 10 = .ok (.invokestatic 88, 3) := by decide +kernel
theorem dX9_copy_13 : decode cX9_copy 13 = .ok (.ifCond .ne 6, 3) := by decide +kernel
theorem dX9_copy_16 : decode cX9_copy 16 = .ok (.ldc 72, 2) := by decide +kernel
theorem dX9_copy_18 : decode cX9_copy 18 = .ok (.ireturn, 1) := by decide +kernel
theorem dX9_copy_19 : decode cX9_copy 19 = .ok (.aload_n 0, 1) := by decide +kernel
theorem dX9_copy_20 : decode cX9_copy 20 = .ok (.getfield 42, 3) := by decide +kernel
theorem dX9_copy_23 : decode cX9_copy 23 = .ok (.getfield 243, 3) := by decide +kernel
theorem dX9_copy_26 : decode cX9_copy 26 = .ok (.iload_n 1, 1) := by decide +kernel
theorem dX9_copy_27 : decode cX9_copy 27 = .ok (.aaload, 1) := by decide +kernel
theorem dX9_copy_28 : decode cX9_copy 28 = .ok (.astore 6, 2) := by decide +kernel
theorem dX9_copy_30 : decode cX9_copy 30 = .ok (.aload_n 0, 1) := by decide +kernel
theorem dX9_copy_31 : decode cX9_copy 31 = .ok (.getfield 42, 3) := by decide +kernel
theorem dX9_copy_34 : decode cX9_copy 34 = .ok (.getfield 243, 3) := by decide +kernel
theorem dX9_copy_37 : decode cX9_copy 37 = .ok (.iload_n 3, 1) := by decide +kernel
theorem dX9_copy_38 : decode cX9_copy 38 = .ok (.aaload, 1) := by decide +kernel
theorem dX9_copy_39 : decode cX9_copy 39 = .ok (.astore 7, 2) := by decide +kernel
theorem dX9_copy_41 : decode cX9_copy 41 = .ok (.aload 6, 2) := by decide +kernel
theorem dX9_copy_43 : decode cX9_copy 43 = .ok (.invokevirtual 252, 3) := by decide +kernel
theorem dX9_copy_46 : decode cX9_copy 46 = .ok (.ifCond .ne 11, 3) := by decide +kernel
theorem dX9_copy_49 : decode cX9_copy 49 = .ok (.aload 7, 2) := by decide +kernel
theorem dX9_copy_51 : decode cX9_copy 51 = .ok (.invokevirtual 252, 3) := by decide +kernel
theorem dX9_copy_54 : decode cX9_copy 54 = .ok (.ifCond .eq 7, 3) := by decide +kernel
theorem dX9_copy_57 : decode cX9_copy 57 = .ok (.ldc_w 256, 3) := by decide +kernel
theorem dX9_copy_60 : decode cX9_copy 60 = .ok (.ireturn, 1) := by decide +kernel
theorem dX9_copy_61 : decode cX9_copy 61 = .ok (.aload 6, 2) := by decide +kernel
theorem dX9_copy_63 : decode cX9_copy 63 = .ok (.iload_n 2, 1) := by decide +kernel
theorem dX9_copy_64 : decode cX9_copy 64 = .ok (.iload 5, 2) := by decide +kernel
theorem dX9_copy_66 : decode cX9_copy 66 = .ok (.invokevirtual 263, 3) := by decide +kernel
theorem dX9_copy_69 : decode cX9_copy 69 = .ok (.ifCond .eq 15, 3) := by decide +kernel
theorem dX9_copy_72 : decode cX9_copy 72 = .ok (.aload 7, 2) := by decide +kernel
theorem dX9_copy_74 : decode cX9_copy 74 = .ok (.iload 4, 2) := by decide +kernel
theorem dX9_copy_76 : decode cX9_copy 76 = .ok (.iload 5, 2) := by decide +kernel
theorem dX9_copy_78 : decode cX9_copy 78 = .ok (.invokevirtual 263, 3) := by decide +kernel
theorem dX9_copy_81 : decode cX9_copy 81 = .ok (.ifCond .ne 7, 3) := by decide +kernel
theorem dX9_copy_84 : decode cX9_copy 84 = .ok (.ldc_w 258, 3) := by decide +kernel
theorem dX9_copy_87 : decode cX9_copy 87 = .ok (.ireturn, 1) := by decide +kernel
theorem dX9_copy_88 : decode cX9_copy 88 = .ok (.aload 6, 2) := by decide +kernel
theorem dX9_copy_90 : decode cX9_copy 90 = .ok (.getfield 259, 3) := by decide +kernel
theorem dX9_copy_93 : decode cX9_copy 93 = .ok (.iload_n 2, 1) := by decide +kernel
theorem dX9_copy_94 : decode cX9_copy 94 = .ok (.aload 7, 2) := by decide +kernel
theorem dX9_copy_96 : decode cX9_copy 96 = .ok (.getfield 259, 3) := by decide +kernel
theorem dX9_copy_99 : decode cX9_copy 99 = .ok (.iload 4, 2) := by decide +kernel
theorem dX9_copy_101 : decode cX9_copy 101 = .ok (.iload 5, 2) := by decide +kernel
theorem dX9_copy_103 : decode cX9_copy 103 = .ok (.invokestatic 266, 3) := by decide +kernel
theorem dX9_copy_106 : decode cX9_copy 106 = .ok (.iload 5, 2) := by decide +kernel
theorem dX9_copy_108 : decode cX9_copy 108 = .ok (.ireturn, 1) := by decide +kernel
theorem dX9_lose_0 : decode cX9_lose 0 = .ok (.iload_n 1, 1) := by decide +kernel
theorem dX9_lose_1 : decode cX9_lose 1 = .ok (.iconst 2, 1) := by decide +kernel
theorem dX9_lose_2 : decode cX9_lose 2 = .ok (.invokestatic 88, 3) := by decide +kernel
theorem dX9_lose_5 : decode cX9_lose 5 = .ok (.ifCond .ne 6, 3) := by decide +kernel
theorem dX9_lose_8 : decode cX9_lose 8 = .ok (.ldc 72, 2) := by decide +kernel
theorem dX9_lose_10 : decode cX9_lose 10 = .ok (.ireturn, 1) := by decide +kernel
theorem dX9_lose_11 : decode cX9_lose 11 = .ok (.aload_n 0, 1) := by decide +kernel
theorem dX9_lose_12 : decode cX9_lose 12 = .ok (.getfield 42, 3) := by decide +kernel
theorem dX9_lose_15 : decode cX9_lose 15 = .ok (.getfield 243, 3) := by decide +kernel
theorem dX9_lose_18 : decode cX9_lose 18 = .ok (.iload_n 1, 1) := by decide +kernel
theorem dX9_lose_19 : decode cX9_lose 19 = .ok (.aaload, 1) := by decide +kernel
theorem dX9_lose_20 : decode cX9_lose 20 = .ok (.astore_n 2, 1) := by decide +kernel
theorem dX9_lose_21 : decode cX9_lose 21 = .ok (.aload_n 2, 1) := by decide +kernel
theorem dX9_lose_22 : decode cX9_lose 22 = .ok (.invokevirtual 252, 3) := by decide +kernel
theorem dX9_lose_25 : decode cX9_lose 25 = .ok (.ifCond .eq 7, 3) := by decide +kernel
theorem dX9_lose_28 : decode cX9_lose 28 = .ok (.ldc_w 256, 3) := by decide +kernel
theorem dX9_lose_31 : decode cX9_lose 31 = .ok (.ireturn, 1) := by decide +kernel
theorem dX9_lose_32 : decode cX9_lose 32 = .ok (.aload_n 2, 1) := by decide +kernel
theorem dX9_lose_33 : decode cX9_lose 33 = .ok (.getfield 257, 3) := by decide +kernel
theorem dX9_lose_36 : decode cX9_lose 36 = .ok (.istore_n 3, 1) := by decide +kernel
theorem dX9_lose_37 : decode cX9_lose 37 = .ok (.aload_n 2, 1) := by decide +kernel
theorem dX9_lose_38 : decode cX9_lose 38 = .ok (.iconst (-1), 1) := by decide +kernel
theorem dX9_lose_39 : decode cX9_lose 39 = .ok (.putfield 257, 3) := by decide +kernel
theorem dX9_lose_42 : decode cX9_lose 42 = .ok (.iload_n 3, 1) := by decide +kernel
theorem dX9_lose_43 : decode cX9_lose 43 = .ok (.ireturn, 1) := by decide +kernel
theorem dX9_count_0 : decode cX9_count 0 = .ok (.iload_n 1, 1) := by decide +kernel
theorem dX9_count_1 : decode cX9_count 1 = .ok (.tableswitch 109 0 7 #[47, 55, 63, 71, 79, 84, 89, 101], 47) := by decide +kernel
theorem dX9_count_48 : decode cX9_count 48 = .ok (.aload_n 0, 1) := by decide +kernel
theorem dX9_count_49 : decode cX9_count 49 = .ok (.getfield 10, 3) := by decide +kernel
theorem dX9_count_52 : decode cX9_count 52 = .ok (.getfield 73, 3) := by decide +kernel
theorem dX9_count_55 : decode cX9_count 55 = .ok (.ireturn, 1) := by decide +kernel
theorem dX9_count_56 : decode cX9_count 56 = .ok (.aload_n 0, 1) := by decide +kernel
theorem dX9_count_57 : decode cX9_count 57 = .ok (.getfield 10, 3) := by decide +kernel
theorem dX9_count_60 : decode cX9_count 60 = .ok (.invokevirtual 272, 3) := by decide +kernel
theorem dX9_count_63 : decode cX9_count 63 = .ok (.ireturn, 1) := by decide +kernel
theorem dX9_count_64 : decode cX9_count 64 = .ok (.aload_n 0, 1) := by decide +kernel
theorem dX9_count_65 : decode cX9_count 65 = .ok (.getfield 35, 3) := by decide +kernel
theorem dX9_count_68 : decode cX9_count 68 = .ok (.getfield 153, 3) := by decide +kernel
theorem dX9_count_71 : decode cX9_count 71 = .ok (.ireturn, 1) := by decide +kernel
theorem dX9_count_72 : decode cX9_count 72 = .ok (.aload_n 0, 1) := by decide +kernel
theorem dX9_count_73 : decode cX9_count 73 = .ok (.getfield 49, 3) := by decide +kernel
theorem dX9_count_76 : decode cX9_count 76 = .ok (.getfield 191, 3) := by decide +kernel
theorem dX9_count_79 : decode cX9_count 79 = .ok (.ireturn, 1) := by decide +kernel
theorem dX9_count_80 : decode cX9_count 80 = .ok (.aload_n 0, 1) := by decide +kernel
theorem dX9_count_81 : decode cX9_count 81 = .ok (.getfield 78, 3) := by decide +kernel
theorem dX9_count_84 : decode cX9_count 84 = .ok (.ireturn, 1) := by decide +kernel
theorem dX9_count_85 : decode cX9_count 85 = .ok (.aload_n 0, 1) := by decide +kernel
theorem dX9_count_86 : decode cX9_count 86 = .ok (.invokevirtual 275, 3) := by decide +kernel
theorem dX9_count_89 : decode cX9_count 89 = .ok (.ireturn, 1) := by decide +kernel
theorem dX9_count_90 : decode cX9_count 90 = .ok (.aload_n 0, 1) := by decide +kernel
theorem dX9_count_91 : decode cX9_count 91 = .ok (.getfield 42, 3) := by decide +kernel
theorem dX9_count_94 : decode cX9_count 94 = .ok (.aload_n 0, 1) := by decide +kernel
theorem dX9_count_95 : decode cX9_count 95 = .ok (.getfield 78, 3) := by decide +kernel
theorem dX9_count_98 : decode cX9_count 98 = .ok (.invokevirtual 278, 3) := by decide +kernel
theorem dX9_count_101 : decode cX9_count 101 = .ok (.ireturn, 1) := by decide +kernel
theorem dX9_count_102 : decode cX9_count 102 = .ok (.aload_n 0, 1) := by decide +kernel
theorem dX9_count_103 : decode cX9_count 103 = .ok (.getfield 19, 3) := by decide +kernel
theorem dX9_count_106 : decode cX9_count 106 = .ok (.getfield 141, 3) := by decide +kernel
theorem dX9_count_109 : decode cX9_count 109 = .ok (.ireturn, 1) := by decide +kernel
theorem dX9_count_110 : decode cX9_count 110 = .ok (.ldc 72, 2) := by decide +kernel
theorem dX9_count_112 : decode cX9_count 112 = .ok (.ireturn, 1) := by decide +kernel
theorem dX9_forgivenWeeks_0 : decode cX9_forgivenWeeks 0 = .ok (.iconst 0, 1) := by decide +kernel
theorem dX9_forgivenWeeks_1 : decode cX9_forgivenWeeks 1 = .ok (.istore_n 1, 1) := by decide +kernel
theorem dX9_forgivenWeeks_2 : decode cX9_forgivenWeeks 2 = .ok (.iconst 0, 1) := by decide +kernel
theorem dX9_forgivenWeeks_3 : decode cX9_forgivenWeeks 3 = .ok (.istore_n 2, 1) := by decide +kernel
theorem dX9_forgivenWeeks_4 : decode cX9_forgivenWeeks 4 = .ok (.iload_n 2, 1) := by decide +kernel
theorem dX9_forgivenWeeks_5 : decode cX9_forgivenWeeks 5 = .ok (.bipush 120, 2) := by decide +kernel
theorem dX9_forgivenWeeks_7 : decode cX9_forgivenWeeks 7 = .ok (.if_icmp .ge 21, 3) := by decide +kernel
theorem dX9_forgivenWeeks_10 : decode cX9_forgivenWeeks 10 = .ok (.aload_n 0, 1) := by decide +kernel
theorem dX9_forgivenWeeks_11 : decode cX9_forgivenWeeks 11 = .ok (.getfield 60, 3) := by decide +kernel
theorem dX9_forgivenWeeks_14 : decode cX9_forgivenWeeks 14 = .ok (.iload_n 2, 1) := by decide +kernel
theorem dX9_forgivenWeeks_15 : decode cX9_forgivenWeeks 15 = .ok (.baload, 1) := by decide +kernel
theorem dX9_forgivenWeeks_16 : decode cX9_forgivenWeeks 16 = .ok (.ifCond .eq 6, 3) := by decide +kernel
theorem dX9_forgivenWeeks_19 : decode cX9_forgivenWeeks 19 = .ok (.iinc 1 1, 3) := by decide +kernel
theorem dX9_forgivenWeeks_22 : decode cX9_forgivenWeeks 22 = .ok (.iinc 2 1, 3) := by decide +kernel
theorem dX9_forgivenWeeks_25 : decode cX9_forgivenWeeks 25 = .ok (.goto (-21), 3) := by decide +kernel
theorem dX9_forgivenWeeks_28 : decode cX9_forgivenWeeks 28 = .ok (.iload_n 1, 1) := by decide +kernel
theorem dX9_forgivenWeeks_29 : decode cX9_forgivenWeeks 29 = .ok (.ireturn, 1) := by decide +kernel
theorem dX9_isBelow_0 : decode cX9_isBelow 0 = .ok (.iload_n 0, 1) := by decide +kernel
theorem dX9_isBelow_1 : decode cX9_isBelow 1 = .ok (.ifCond .lt 12, 3) := by decide +kernel
theorem dX9_isBelow_4 : decode cX9_isBelow 4 = .ok (.iload_n 0, 1) := by decide +kernel
theorem dX9_isBelow_5 : decode cX9_isBelow 5 = .ok (.iload_n 1, 1) := by decide +kernel
theorem dX9_isBelow_6 : decode cX9_isBelow 6 = .ok (.if_icmp .ge 7, 3) := by decide +kernel
theorem dX9_isBelow_9 : decode cX9_isBelow 9 = .ok (.iconst 1, 1) := by decide +kernel
theorem dX9_isBelow_10 : decode cX9_isBelow 10 = .ok (.goto 4, 3) := by decide +kernel
theorem dX9_isBelow_13 : decode cX9_isBelow 13 = .ok (.iconst 0, 1) := by decide +kernel
theorem dX9_isBelow_14 : decode cX9_isBelow 14 = .ok (.ireturn, 1) := by decide +kernel
theorem dX9_isWeek_0 : decode cX9_isWeek 0 = .ok (.iload_n 0, 1) := by decide +kernel
theorem dX9_isWeek_1 : decode cX9_isWeek 1 = .ok (.bipush 120, 2) := by decide +kernel
theorem dX9_isWeek_3 : decode cX9_isWeek 3 = .ok (.invokestatic 88, 3) := by decide +kernel
theorem dX9_isWeek_6 : decode cX9_isWeek 6 = .ok (.ireturn, 1) := by decide +kernel
theorem dX9_areNights_0 : decode cX9_areNights 0 = .ok (.iload_n 0, 1) := by decide +kernel
theorem dX9_areNights_1 : decode cX9_areNights 1 = .ok (.ifCond .lt 13, 3) := by decide +kernel
theorem dX9_areNights_4 : decode cX9_areNights 4 = .ok (.iload_n 0, 1) := by decide +kernel
theorem dX9_areNights_5 : decode cX9_areNights 5 = .ok (.bipush 7, 2) := by decide +kernel
theorem dX9_areNights_7 : decode cX9_areNights 7 = .ok (.if_icmp .gt 7, 3) := by decide +kernel
theorem dX9_areNights_10 : decode cX9_areNights 10 = .ok (.iconst 1, 1) := by decide +kernel
theorem dX9_areNights_11 : decode cX9_areNights 11 = .ok (.goto 4, 3) := by decide +kernel
theorem dX9_areNights_14 : decode cX9_areNights 14 = .ok (.iconst 0, 1) := by decide +kernel
theorem dX9_areNights_15 : decode cX9_areNights 15 = .ok (.ireturn, 1) := by decide +kernel
theorem dX9_isPast_0 : decode cX9_isPast 0 = .ok (.iload_n 1, 1) := by decide +kernel
theorem dX9_isPast_1 : decode cX9_isPast 1 = .ok (.ifCond .lt 15, 3) := by decide +kernel
theorem dX9_isPast_4 : decode cX9_isPast 4 = .ok (.iload_n 1, 1) := by decide +kernel
theorem dX9_isPast_5 : decode cX9_isPast 5 = .ok (.aload_n 0, 1) := by decide +kernel
theorem dX9_isPast_6 : decode cX9_isPast 6 = .ok (.getfield 78, 3) := by decide +kernel
theorem dX9_isPast_9 : decode cX9_isPast 9 = .ok (.if_icmp .gt 7, 3) := by decide +kernel
theorem dX9_isPast_12 : decode cX9_isPast 12 = .ok (.iconst 1, 1) := by decide +kernel
theorem dX9_isPast_13 : decode cX9_isPast 13 = .ok (.goto 4, 3) := by decide +kernel
theorem dX9_isPast_16 : decode cX9_isPast 16 = .ok (.iconst 0, 1) := by decide +kernel
theorem dX9_isPast_17 : decode cX9_isPast 17 = .ok (.ireturn, 1) := by decide +kernel
theorem dX10_init_0 : decode cX10_init 0 = .ok (.aload_n 0, 1) := by decide +kernel
theorem dX10_init_1 : decode cX10_init 1 = .ok (.invokespecial 1, 3) := by decide +kernel
theorem dX10_init_4 : decode cX10_init 4 = .ok (.aload_n 0, 1) := by decide +kernel
theorem dX10_init_5 : decode cX10_init 5 = .ok (.bipush 80, 2) := by decide +kernel
theorem dX10_init_7 : decode cX10_init 7 = .ok (.newarray .int, 2) := by decide +kernel
theorem dX10_init_9 : decode cX10_init 9 = .ok (.putfield 7, 3) := by decide +kernel
theorem dX10_init_12 : decode cX10_init 12 = .ok (.aload_n 0, 1) := by decide +kernel
theorem dX10_init_13 : decode cX10_init 13 = .ok (.bipush 80, 2) := by decide +kernel
theorem dX10_init_15 : decode cX10_init 15 = .ok (.newarray .int, 2) := by decide +kernel
theorem dX10_init_17 : decode cX10_init 17 = .ok (.putfield 13, 3) := by decide +kernel
theorem dX10_init_20 : decode cX10_init 20 = .ok (.aload_n 0, 1) := by decide +kernel
theorem dX10_init_21 : decode cX10_init 21 = .ok (.bipush 80, 2) := by decide +kernel
theorem dX10_init_23 : decode cX10_init 23 = .ok (.newarray .int, 2) := by decide +kernel
theorem dX10_init_25 : decode cX10_init 25 = .ok (.putfield 16, 3) := by decide +kernel
theorem dX10_init_28 : decode cX10_init 28 = .ok (.aload_n 0, 1) := by decide +kernel
theorem dX10_init_29 : decode cX10_init 29 = .ok (.bipush 80, 2) := by decide +kernel
theorem dX10_init_31 : decode cX10_init 31 = .ok (.newarray .int, 2) := by decide +kernel
theorem dX10_init_33 : decode cX10_init 33 = .ok (.putfield 19, 3) := by decide +kernel
theorem dX10_init_36 : decode cX10_init 36 = .ok (.aload_n 0, 1) := by decide +kernel
theorem dX10_init_37 : decode cX10_init 37 = .ok (.bipush 80, 2) := by decide +kernel
theorem dX10_init_39 : decode cX10_init 39 = .ok (.newarray .int, 2) := by decide +kernel
theorem dX10_init_41 : decode cX10_init 41 = .ok (.putfield 22, 3) := by decide +kernel
theorem dX10_init_44 : decode cX10_init 44 = .ok (.aload_n 0, 1) := by decide +kernel
theorem dX10_init_45 : decode cX10_init 45 = .ok (.bipush 120, 2) := by decide +kernel
theorem dX10_init_47 : decode cX10_init 47 = .ok (.newarray .int, 2) := by decide +kernel
theorem dX10_init_49 : decode cX10_init 49 = .ok (.putfield 25, 3) := by decide +kernel
theorem dX10_init_52 : decode cX10_init 52 = .ok (.aload_n 0, 1) := by decide +kernel
theorem dX10_init_53 : decode cX10_init 53 = .ok (.bipush 120, 2) := by decide +kernel
theorem dX10_init_55 : decode cX10_init 55 = .ok (.newarray .boolean, 2) := by decide +kernel
theorem dX10_init_57 : decode cX10_init 57 = .ok (.putfield 28, 3) := by decide +kernel
theorem dX10_init_60 : decode cX10_init 60 = .ok (.aload_n 0, 1) := by decide +kernel
theorem dX10_init_61 : decode cX10_init 61 = .ok (.bipush 8, 2) := by decide +kernel
theorem dX10_init_63 : decode cX10_init 63 = .ok (.newarray .int, 2) := by decide +kernel
theorem dX10_init_65 : decode cX10_init 65 = .ok (.putfield 32, 3) := by decide +kernel
theorem dX10_init_68 : decode cX10_init 68 = .ok (.aload_n 0, 1) := by decide +kernel
theorem dX10_init_69 : decode cX10_init 69 = .ok (.bipush 8, 2) := by decide +kernel
theorem dX10_init_71 : decode cX10_init 71 = .ok (.newarray .int, 2) := by decide +kernel
theorem dX10_init_73 : decode cX10_init 73 = .ok (.putfield 35, 3) := by decide +kernel
theorem dX10_init_76 : decode cX10_init 76 = .ok (.aload_n 0, 1) := by decide +kernel
theorem dX10_init_77 : decode cX10_init 77 = .ok (.bipush 8, 2) := by decide +kernel
theorem dX10_init_79 : decode cX10_init 79 = .ok (.newarray .int, 2) := by decide +kernel
theorem dX10_init_81 : decode cX10_init 81 = .ok (.putfield 38, 3) := by decide +kernel
theorem dX10_init_84 : decode cX10_init 84 = .ok (.aload_n 0, 1) := by decide +kernel
theorem dX10_init_85 : decode cX10_init 85 = .ok (.bipush 8, 2) := by decide +kernel
theorem dX10_init_87 : decode cX10_init 87 = .ok (.newarray .int, 2) := by decide +kernel
theorem dX10_init_89 : decode cX10_init 89 = .ok (.putfield 41, 3) := by decide +kernel
theorem dX10_init_92 : decode cX10_init 92 = .ok (.aload_n 0, 1) := by decide +kernel
theorem dX10_init_93 : decode cX10_init 93 = .ok (.bipush 8, 2) := by decide +kernel
theorem dX10_init_95 : decode cX10_init 95 = .ok (.newarray .int, 2) := by decide +kernel
theorem dX10_init_97 : decode cX10_init 97 = .ok (.putfield 44, 3) := by decide +kernel
theorem dX10_init_100 : decode cX10_init 100 = .ok (.aload_n 0, 1) := by decide +kernel
theorem dX10_init_101 : decode cX10_init 101 = .ok (.bipush 8, 2) := by decide +kernel
theorem dX10_init_103 : decode cX10_init 103 = .ok (.newarray .int, 2) := by decide +kernel
theorem dX10_init_105 : decode cX10_init 105 = .ok (.putfield 47, 3) := by decide +kernel
theorem dX10_init_108 : decode cX10_init 108 = .ok (.aload_n 0, 1) := by decide +kernel
theorem dX10_init_109 : decode cX10_init 109 = .ok (.bipush 8, 2) := by decide +kernel
theorem dX10_init_111 : decode cX10_init 111 = .ok (.newarray .int, 2) := by decide +kernel
theorem dX10_init_113 : decode cX10_init 113 = .ok (.putfield 50, 3) := by decide +kernel
theorem dX10_init_116 : decode cX10_init 116 = .ok (.aload_n 0, 1) := by decide +kernel
theorem dX10_init_117 : decode cX10_init 117 = .ok (.bipush 8, 2) := by decide +kernel
theorem dX10_init_119 : decode cX10_init 119 = .ok (.newarray .int, 2) := by decide +kernel
theorem dX10_init_121 : decode cX10_init 121 = .ok (.putfield 53, 3) := by decide +kernel
theorem dX10_init_124 : decode cX10_init 124 = .ok (.aload_n 0, 1) := by decide +kernel
theorem dX10_init_125 : decode cX10_init 125 = .ok (.bipush 100, 2) := by decide +kernel
theorem dX10_init_127 : decode cX10_init 127 = .ok (.newarray .int, 2) := by decide +kernel
theorem dX10_init_129 : decode cX10_init 129 = .ok (.putfield 56, 3) := by decide +kernel
theorem dX10_init_132 : decode cX10_init 132 = .ok (.aload_n 0, 1) := by decide +kernel
theorem dX10_init_133 : decode cX10_init 133 = .ok (.bipush 100, 2) := by decide +kernel
theorem dX10_init_135 : decode cX10_init 135 = .ok (.newarray .int, 2) := by decide +kernel
theorem dX10_init_137 : decode cX10_init 137 = .ok (.putfield 59, 3) := by decide +kernel
theorem dX10_init_140 : decode cX10_init 140 = .ok (.aload_n 0, 1) := by decide +kernel
theorem dX10_init_141 : decode cX10_init 141 = .ok (.bipush 100, 2) := by decide +kernel
theorem dX10_init_143 : decode cX10_init 143 = .ok (.newarray .int, 2) := by decide +kernel
theorem dX10_init_145 : decode cX10_init 145 = .ok (.putfield 62, 3) := by decide +kernel
theorem dX10_init_148 : decode cX10_init 148 = .ok (.aload_n 0, 1) := by decide +kernel
theorem dX10_init_149 : decode cX10_init 149 = .ok (.iconst 1, 1) := by decide +kernel
theorem dX10_init_150 : decode cX10_init 150 = .ok (.putfield 65, 3) := by decide +kernel
theorem dX10_init_153 : decode cX10_init 153 = .ok (.aload_n 0, 1) := by decide +kernel
theorem dX10_init_154 : decode cX10_init 154 = .ok (.bipush 72, 2) := by decide +kernel
theorem dX10_init_156 : decode cX10_init 156 = .ok (.newarray .int, 2) := by decide +kernel
theorem dX10_init_158 : decode cX10_init 158 = .ok (.putfield 69, 3) := by decide +kernel
theorem dX10_init_161 : decode cX10_init 161 = .ok (.aload_n 0, 1) := by decide +kernel
theorem dX10_init_162 : decode cX10_init 162 = .ok (.iconst 2, 1) := by decide +kernel
theorem dX10_init_163 : decode cX10_init 163 = .ok (.newarray .int, 2) := by decide +kernel
theorem dX10_init_165 : decode cX10_init 165 = .ok (.putfield 72, 3) := by decide +kernel
theorem dX10_init_168 : decode cX10_init 168 = .ok (.aload_n 0, 1) := by decide +kernel
theorem dX10_init_169 : decode cX10_init 169 = .ok (.sipush 240, 3) := by decide +kernel
theorem dX10_init_172 : decode cX10_init 172 = .ok (.newarray .int, 2) := by decide +kernel
theorem dX10_init_174 : decode cX10_init 174 = .ok (.putfield 75, 3) := by decide +kernel
theorem dX10_init_177 : decode cX10_init 177 = .ok (.aload_n 0, 1) := by decide +kernel
theorem dX10_init_178 : decode cX10_init 178 = .ok (.bipush 7, 2) := by decide +kernel
theorem dX10_init_180 : decode cX10_init 180 = .ok (.newarray .int, 2) := by decide +kernel
theorem dX10_init_182 : decode cX10_init 182 = .ok (.putfield 78, 3) := by decide +kernel
theorem dX10_init_185 : decode cX10_init 185 = .ok (.aload_n 0, 1) := by decide +kernel
theorem dX10_init_186 : decode cX10_init 186 = .ok (.bipush 120, 2) := by decide +kernel
theorem dX10_init_188 : decode cX10_init 188 = .ok (.newarray .int, 2) := by decide +kernel
theorem dX10_init_190 : decode cX10_init 190 = .ok (.putfield 81, 3) := by decide +kernel
theorem dX10_init_193 : decode cX10_init 193 = .ok (.aload_n 0, 1) := by decide +kernel
theorem dX10_init_194 : decode cX10_init 194 = .ok (.bipush 120, 2) := by decide +kernel
theorem dX10_init_196 : decode cX10_init 196 = .ok (.newarray .int, 2) := by decide +kernel
theorem dX10_init_198 : decode cX10_init 198 = .ok (.putfield 84, 3) := by decide +kernel
theorem dX10_init_201 : decode cX10_init 201 = .ok (.aload_n 0, 1) := by decide +kernel
theorem dX10_init_202 : decode cX10_init 202 = .ok (.bipush 120, 2) := by decide +kernel
theorem dX10_init_204 : decode cX10_init 204 = .ok (.newarray .int, 2) := by decide +kernel
theorem dX10_init_206 : decode cX10_init 206 = .ok (.putfield 87, 3) := by decide +kernel
theorem dX10_init_209 : decode cX10_init 209 = .ok (.iconst 0, 1) := by decide +kernel
theorem dX10_init_210 : decode cX10_init 210 = .ok (.istore_n 1, 1) := by decide +kernel
theorem dX10_init_211 : decode cX10_init 211 = .ok (.iload_n 1, 1) := by decide +kernel
theorem dX10_init_212 : decode cX10_init 212 = .ok (.bipush 120, 2) := by decide +kernel
theorem dX10_init_214 : decode cX10_init 214 = .ok (.if_icmp .ge 16, 3) := by decide +kernel
theorem dX10_init_217 : decode cX10_init 217 = .ok (.aload_n 0, 1) := by decide +kernel
theorem dX10_init_218 : decode cX10_init 218 = .ok (.getfield 25, 3) := by decide +kernel
theorem dX10_init_221 : decode cX10_init 221 = .ok (.iload_n 1, 1) := by decide +kernel
theorem dX10_init_222 : decode cX10_init 222 = .ok (.iconst (-1), 1) := by decide +kernel
theorem dX10_init_223 : decode cX10_init 223 = .ok (.iastore, 1) := by decide +kernel
theorem dX10_init_224 : decode cX10_init 224 = .ok (.iinc 1 1, 3) := by decide +kernel
theorem dX10_init_227 : decode cX10_init 227 = .ok (.goto (-16), 3) := by decide +kernel
theorem dX10_init_230 : decode cX10_init 230 = .ok (.aload_n 0, 1) := by decide +kernel
theorem dX10_init_231 : decode cX10_init 231 = .ok (.getfield 72, 3) := by decide +kernel
theorem dX10_init_234 : decode cX10_init 234 = .ok (.iconst 0, 1) := by decide +kernel
theorem dX10_init_235 : decode cX10_init 235 = .ok (.iconst (-1), 1) := by decide +kernel
theorem dX10_init_236 : decode cX10_init 236 = .ok (.iastore, 1) := by decide +kernel
theorem dX10_init_237 : decode cX10_init 237 = .ok (.aload_n 0, 1) := by decide +kernel
theorem dX10_init_238 : decode cX10_init 238 = .ok (.getfield 72, 3) := by decide +kernel
theorem dX10_init_241 : decode cX10_init 241 = .ok (.iconst 1, 1) := by decide +kernel
theorem dX10_init_242 : decode cX10_init 242 = .ok (.iconst (-1), 1) := by decide +kernel
theorem dX10_init_243 : decode cX10_init 243 = .ok (.iastore, 1) := by decide +kernel
theorem dX10_init_244 : decode cX10_init 244 = .ok (.return_, 1) := by decide +kernel
theorem dX10_isIn_0 : decode cX10_isIn 0 = .ok (.iload_n 0, 1) := by decide +kernel
theorem dX10_isIn_1 : decode cX10_isIn 1 = .ok (.iload_n 1, 1) := by decide +kernel
theorem dX10_isIn_2 : decode cX10_isIn 2 = .ok (.if_icmp .lt 12, 3) := by decide +kernel
theorem dX10_isIn_5 : decode cX10_isIn 5 = .ok (.iload_n 0, 1) := by decide +kernel
theorem dX10_isIn_6 : decode cX10_isIn 6 = .ok (.iload_n 2, 1) := by decide +kernel
theorem dX10_isIn_7 : decode cX10_isIn 7 = .ok (.if_icmp .gt 7, 3) := by decide +kernel
theorem dX10_isIn_10 : decode cX10_isIn 10 = .ok (.iconst 1, 1) := by decide +kernel
theorem dX10_isIn_11 : decode cX10_isIn 11 = .ok (.goto 4, 3) := by decide +kernel
theorem dX10_isIn_14 : decode cX10_isIn 14 = .ok (.iconst 0, 1) := by decide +kernel
theorem dX10_isIn_15 : decode cX10_isIn 15 = .ok (.ireturn, 1) := by decide +kernel
theorem dX10_isWeek_0 : decode cX10_isWeek 0 = .ok (.iload_n 0, 1) := by decide +kernel
theorem dX10_isWeek_1 : decode cX10_isWeek 1 = .ok (.iconst 0, 1) := by decide +kernel
theorem dX10_isWeek_2 : decode cX10_isWeek 2 = .ok (.bipush 119, 2) := by decide +kernel
theorem dX10_isWeek_4 : decode cX10_isWeek 4 = .ok (.invokestatic 90, 3) := by decide +kernel
theorem dX10_isWeek_7 : decode cX10_isWeek 7 = .ok (.ireturn, 1) := by decide +kernel
theorem dX10_isPast_0 : decode cX10_isPast 0 = .ok (.iload_n 1, 1) := by decide +kernel
theorem dX10_isPast_1 : decode cX10_isPast 1 = .ok (.iconst 0, 1) := by decide +kernel
theorem dX10_isPast_2 : decode cX10_isPast 2 = .ok (.aload_n 0, 1) := by decide +kernel
theorem dX10_isPast_3 : decode cX10_isPast 3 = .ok (.getfield 94, 3) := by decide +kernel
theorem dX10_isPast_6 : decode cX10_isPast 6 = .ok (.invokestatic 90, 3) := by decide +kernel
theorem dX10_isPast_9 : decode cX10_isPast 9 = .ok (.ireturn, 1) := by decide +kernel
theorem dX10_isValue_0 : decode cX10_isValue 0 = .ok (.iload_n 0, 1) := by decide +kernel
theorem dX10_isValue_1 : decode cX10_isValue 1 = .ok (.tableswitch 62 0 3 #[31, 54, 38, 54], 31) := by decide +kernel
theorem dX10_isValue_32 : decode cX10_isValue 32 = .ok (.iload_n 1, 1) := by decide +kernel
theorem dX10_isValue_33 : decode cX10_isValue 33 = .ok (.iconst 0, 1) := by decide +kernel
theorem dX10_isValue_34 : decode cX10_isValue 34 = .ok (.iconst 5, 1) := by decide +kernel
theorem dX10_isValue_35 : decode cX10_isValue 35 = .ok (.invokestatic 90, 3) := by decide +kernel
theorem dX10_isValue_38 : decode cX10_isValue 38 = .ok (.ireturn, 1) := by decide +kernel
theorem dX10_isValue_39 : decode cX10_isValue 39 = .ok (.iload_n 1, 1) := by decide +kernel
theorem dX10_isValue_40 : decode cX10_isValue 40 = .ok (.iconst 1, 1) := by decide +kernel
theorem dX10_isValue_41 : decode cX10_isValue 41 = .ok (.if_icmp .eq 8, 3) := by decide +kernel
theorem dX10_isValue_44 : decode cX10_isValue 44 = .ok (.iload_n 1, 1) := by decide +kernel
theorem dX10_isValue_45 : decode cX10_isValue 45 = .ok (.iconst (-1), 1) := by decide +kernel
theorem dX10_isValue_46 : decode cX10_isValue 46 = .ok (.if_icmp .ne 7, 3) := by decide +kernel
theorem dX10_isValue_49 : decode cX10_isValue 49 = .ok (.iconst 1, 1) := by decide +kernel
theorem dX10_isValue_50 : decode cX10_isValue 50 = .ok (.goto 4, 3) := by decide +kernel
theorem dX10_isValue_53 : decode cX10_isValue 53 = .ok (.iconst 0, 1) := by decide +kernel
theorem dX10_isValue_54 : decode cX10_isValue 54 = .ok (.ireturn, 1) := by decide +kernel
theorem dX10_isValue_55 : decode cX10_isValue 55 = .ok (.iload_n 1, 1) := by decide +kernel
theorem dX10_isValue_56 : decode cX10_isValue 56 = .ok (.iconst 0, 1) := by decide +kernel
theorem dX10_isValue_57 : decode cX10_isValue 57 = .ok (.ldc 97, 2) := by decide +kernel
theorem dX10_isValue_59 : decode cX10_isValue 59 = .ok (.invokestatic 90, 3) := by decide +kernel
theorem dX10_isValue_62 : decode cX10_isValue 62 = .ok (.ireturn, 1) := by decide +kernel
theorem dX10_isValue_63 : decode cX10_isValue 63 = .ok (.iconst 0, 1) := by decide +kernel
theorem dX10_isValue_64 : decode cX10_isValue 64 = .ok (.ireturn, 1) := by decide +kernel
theorem dX10_change_0 : decode cX10_change 0 = .ok (.iload_n 1, 1) := by decide +kernel
theorem dX10_change_1 : decode cX10_change 1 = .ok (.iload_n 2, 1) := by decide +kernel
theorem dX10_change_2 : decode cX10_change 2 = .ok (.invokestatic 98, 3) := by decide +kernel
theorem dX10_change_5 : decode cX10_change 5 = .ok (.ifCond .eq 10, 3) := by decide +kernel
theorem dX10_change_8 : decode cX10_change 8 = .ok (.iload_n 3, 1) := by decide +kernel
theorem dX10_change_9 : decode cX10_change 9 = .ok (.invokestatic 102, 3) := by decide +kernel
theorem dX10_change_12 : decode cX10_change 12 = .ok (.ifCond .ne 6, 3) := by decide +kernel
theorem dX10_change_15 : decode cX10_change 15 = .ok (.ldc 106, 2) := by decide +kernel
theorem dX10_change_17 : decode cX10_change 17 = .ok (.ireturn, 1) := by decide +kernel
theorem dX10_change_18 : decode cX10_change 18 = .ok (.aload_n 0, 1) := by decide +kernel
theorem dX10_change_19 : decode cX10_change 19 = .ok (.getfield 107, 3) := by decide +kernel
theorem dX10_change_22 : decode cX10_change 22 = .ok (.bipush 80, 2) := by decide +kernel
theorem dX10_change_24 : decode cX10_change 24 = .ok (.if_icmp .ne 6, 3) := by decide +kernel
theorem dX10_change_27 : decode cX10_change 27 = .ok (.ldc 110, 2) := by decide +kernel
theorem dX10_change_29 : decode cX10_change 29 = .ok (.ireturn, 1) := by decide +kernel
theorem dX10_change_30 : decode cX10_change 30 = .ok (.aload_n 0, 1) := by decide +kernel
theorem dX10_change_31 : decode cX10_change 31 = .ok (.getfield 7, 3) := by decide +kernel
theorem dX10_change_34 : decode cX10_change 34 = .ok (.aload_n 0, 1) := by decide +kernel
theorem dX10_change_35 : decode cX10_change 35 = .ok (.getfield 107, 3) := by decide +kernel
theorem dX10_change_38 : decode cX10_change 38 = .ok (.iload_n 1, 1) := by decide +kernel
theorem dX10_change_39 : decode cX10_change 39 = .ok (.iastore, 1) := by decide +kernel
theorem dX10_change_40 : decode cX10_change 40 = .ok (.aload_n 0, 1) := by decide +kernel
theorem dX10_change_41 : decode cX10_change 41 = .ok (.getfield 13, 3) := by decide +kernel
theorem dX10_change_44 : decode cX10_change 44 = .ok (.aload_n 0, 1) := by decide +kernel
theorem dX10_change_45 : decode cX10_change 45 = .ok (.getfield 107, 3) := by decide +kernel
theorem dX10_change_48 : decode cX10_change 48 = .ok (.iload_n 2, 1) := by decide +kernel
theorem dX10_change_49 : decode cX10_change 49 = .ok (.iastore, 1) := by decide +kernel
theorem dX10_change_50 : decode cX10_change 50 = .ok (.aload_n 0, 1) := by decide +kernel
theorem dX10_change_51 : decode cX10_change 51 = .ok (.getfield 16, 3) := by decide +kernel
theorem dX10_change_54 : decode cX10_change 54 = .ok (.aload_n 0, 1) := by decide +kernel
theorem dX10_change_55 : decode cX10_change 55 = .ok (.getfield 107, 3) := by decide +kernel
theorem dX10_change_58 : decode cX10_change 58 = .ok (.iload_n 3, 1) := by decide +kernel
theorem dX10_change_59 : decode cX10_change 59 = .ok (.iastore, 1) := by decide +kernel
theorem dX10_change_60 : decode cX10_change 60 = .ok (.aload_n 0, 1) := by decide +kernel
theorem dX10_change_61 : decode cX10_change 61 = .ok (.getfield 19, 3) := by decide +kernel
theorem dX10_change_64 : decode cX10_change 64 = .ok (.aload_n 0, 1) := by decide +kernel
theorem dX10_change_65 : decode cX10_change 65 = .ok (.getfield 107, 3) := by decide +kernel
theorem dX10_change_68 : decode cX10_change 68 = .ok (.aload_n 0, 1) := by decide +kernel
theorem dX10_change_69 : decode cX10_change 69 = .ok (.getfield 94, 3) := by decide +kernel
theorem dX10_change_72 : decode cX10_change 72 = .ok (.iastore, 1) := by decide +kernel
theorem dX10_change_73 : decode cX10_change 73 = .ok (.aload_n 0, 1) := by decide +kernel
theorem dX10_change_74 : decode cX10_change 74 = .ok (.getfield 22, 3) := by decide +kernel
theorem dX10_change_77 : decode cX10_change 77 = .ok (.aload_n 0, 1) := by decide +kernel
theorem dX10_change_78 : decode cX10_change 78 = .ok (.getfield 107, 3) := by decide +kernel
theorem dX10_change_81 : decode cX10_change 81 = .ok (.iconst (-1), 1) := by decide +kernel
theorem dX10_change_82 : decode cX10_change 82 = .ok (.iastore, 1) := by decide +kernel
theorem dX10_change_83 : decode cX10_change 83 = .ok (.aload_n 0, 1) := by decide +kernel
theorem dX10_change_84 : decode cX10_change 84 = .ok (.dup, 1) := by decide +kernel
theorem dX10_change_85 : decode cX10_change 85 = .ok (.getfield 107, 3) := by decide +kernel
theorem dX10_change_88 : decode cX10_change 88 = .ok (.iconst 1, 1) := by decide +kernel
theorem dX10_change_89 : decode cX10_change 89 = .ok (.iadd, 1) := by decide +kernel
theorem dX10_change_90 : decode cX10_change 90 = .ok (.putfield 107, 3) := by decide +kernel
theorem dX10_change_93 : decode cX10_change 93 = .ok (.aload_n 0, 1) := by decide +kernel
theorem dX10_change_94 : decode cX10_change 94 = .ok (.getfield 107, 3) := by decide +kernel
theorem dX10_change_97 : decode cX10_change 97 = .ok (.iconst 1, 1) := by decide +kernel
theorem dX10_change_98 : decode cX10_change 98 = .ok (.isub, 1) := by decide +kernel
theorem dX10_change_99 : decode cX10_change 99 = .ok (.ireturn, 1) := by decide +kernel
theorem dX10_isChange_0 : decode cX10_isChange 0 = .ok (.iload_n 1, 1) := by decide +kernel
theorem dX10_isChange_1 : decode cX10_isChange 1 = .ok (.iconst 0, 1) := by decide +kernel
theorem dX10_isChange_2 : decode cX10_isChange 2 = .ok (.aload_n 0, 1) := by decide +kernel
theorem dX10_isChange_3 : decode cX10_isChange 3 = .ok (.getfield 107, 3) := by decide +kernel
theorem dX10_isChange_6 : decode cX10_isChange 6 = .ok (.iconst 1, 1) := by decide +kernel
theorem dX10_isChange_7 : decode cX10_isChange 7 = .ok (.isub, 1) := by decide +kernel
theorem dX10_isChange_8 : decode cX10_isChange 8 = .ok (.invokestatic 90, 3) := by decide +kernel
theorem dX10_isChange_11 : decode cX10_isChange 11 = .ok (.ireturn, 1) := by decide +kernel
theorem dX10_isOf_0 : decode cX10_isOf 0 = .ok (.aload_n 0, 1) := by decide +kernel
theorem dX10_isOf_1 : decode cX10_isOf 1 = .ok (.iload_n 1, 1) := by decide +kernel
theorem dX10_isOf_2 : decode cX10_isOf 2 = .ok (.invokevirtual 111, 3) := by decide +kernel
theorem dX10_isOf_5 : decode cX10_isOf 5 = .ok (.ifCond .eq 12, 3) := by decide +kernel
theorem dX10_isOf_8 : decode cX10_isOf 8 = .ok (.iload_n 2, 1) := by decide +kernel
theorem dX10_isOf_9 : decode cX10_isOf 9 = .ok (.iconst 0, 1) := by decide +kernel
theorem dX10_isOf_10 : decode cX10_isOf 10 = .ok (.iconst 3, 1) := by decide +kernel
theorem dX10_isOf_11 : decode cX10_isOf 11 = .ok (.invokestatic 90, 3) := by decide +kernel
theorem dX10_isOf_14 : decode cX10_isOf 14 = .ok (.ifCond .ne 6, 3) := by decide +kernel
theorem dX10_isOf_17 : decode cX10_isOf 17 = .ok (.ldc 106, 2) := by decide +kernel
theorem dX10_isOf_19 : decode cX10_isOf 19 = .ok (.ireturn, 1) := by decide +kernel
theorem dX10_isOf_20 : decode cX10_isOf 20 = .ok (.iload_n 2, 1) := by decide +kernel
theorem dX10_isOf_21 : decode cX10_isOf 21 = .ok (.ifCond .eq 28, 3) := by decide +kernel
theorem dX10_isOf_24 : decode cX10_isOf 24 = .ok (.aload_n 0, 1) := by decide +kernel
theorem dX10_isOf_25 : decode cX10_isOf 25 = .ok (.getfield 7, 3) := by decide +kernel
theorem dX10_isOf_28 : decode cX10_isOf 28 = .ok (.iload_n 1, 1) := by decide +kernel
theorem dX10_isOf_29 : decode cX10_isOf 29 = .ok (.iaload, 1) := by decide +kernel
theorem dX10_isOf_30 : decode cX10_isOf 30 = .ok (.iload_n 2, 1) := by decide +kernel
theorem dX10_isOf_31 : decode cX10_isOf 31 = .ok (.if_icmp .eq 18, 3) := by decide +kernel
theorem dX10_isOf_34 : decode cX10_isOf 34 = .ok (.iload_n 2, 1) := by decide +kernel
theorem dX10_isOf_35 : decode cX10_isOf 35 = .ok (.iconst 1, 1) := by decide +kernel
theorem dX10_isOf_36 : decode cX10_isOf 36 = .ok (.if_icmp .ne 17, 3) := by decide +kernel
theorem dX10_isOf_39 : decode cX10_isOf 39 = .ok (.aload_n 0, 1) := by decide +kernel
theorem dX10_isOf_40 : decode cX10_isOf 40 = .ok (.getfield 7, 3) := by decide +kernel
theorem dX10_isOf_43 : decode cX10_isOf 43 = .ok (.iload_n 1, 1) := by decide +kernel
theorem dX10_isOf_44 : decode cX10_isOf 44 = .ok (.iaload, 1) := by decide +kernel
theorem dX10_isOf_45 : decode cX10_isOf 45 = .ok (.iconst 3, 1) := by decide +kernel
theorem dX10_isOf_46 : decode cX10_isOf 46 = .ok (.if_icmp .ne 7, 3) := by decide +kernel
theorem dX10_isOf_49 : decode cX10_isOf 49 = .ok (.iconst 1, 1) := by decide +kernel
theorem dX10_isOf_50 : decode cX10_isOf 50 = .ok (.goto 4, 3) := by decide +kernel
theorem dX10_isOf_53 : decode cX10_isOf 53 = .ok (.iconst 0, 1) := by decide +kernel
theorem dX10_isOf_54 : decode cX10_isOf 54 = .ok (.ireturn, 1) := by decide +kernel
theorem dX10_takeBack_0 : decode cX10_takeBack 0 = .ok (.aload_n 0, 1) := by decide +kernel
theorem dX10_takeBack_1 : decode cX10_takeBack 1 = .ok (.iload_n 1, 1) := by decide +kernel
theorem dX10_takeBack_2 : decode cX10_takeBack 2 = .ok (.invokevirtual 111, 3) := by decide +kernel
theorem dX10_takeBack_5 : decode cX10_takeBack 5 = .ok (.ifCond .ne 6, 3) := by decide +kernel
theorem dX10_takeBack_8 : decode cX10_takeBack 8 = .ok (.ldc 106, 2) := by decide +kernel
theorem dX10_takeBack_10 : decode cX10_takeBack 10 = .ok (.ireturn, 1) := by decide +kernel
theorem dX10_takeBack_11 : decode cX10_takeBack 11 = .ok (.aload_n 0, 1) := by decide +kernel
theorem dX10_takeBack_12 : decode cX10_takeBack 12 = .ok (.getfield 22, 3) := by decide +kernel
theorem dX10_takeBack_15 : decode cX10_takeBack 15 = .ok (.iload_n 1, 1) := by decide +kernel
theorem dX10_takeBack_16 : decode cX10_takeBack 16 = .ok (.iaload, 1) := by decide +kernel
theorem dX10_takeBack_17 : decode cX10_takeBack 17 = .ok (.ifCond .lt 6, 3) := by decide +kernel
theorem dX10_takeBack_20 : decode cX10_takeBack 20 = .ok (.ldc 114, 2) := by decide +kernel
theorem dX10_takeBack_22 : decode cX10_takeBack 22 = .ok (.ireturn, 1) := by decide +kernel
theorem dX10_takeBack_23 : decode cX10_takeBack 23 = .ok (.aload_n 0, 1) := by decide +kernel
theorem dX10_takeBack_24 : decode cX10_takeBack 24 = .ok (.getfield 22, 3) := by decide +kernel
theorem dX10_takeBack_27 : decode cX10_takeBack 27 = .ok (.iload_n 1, 1) := by decide +kernel
theorem dX10_takeBack_28 : decode cX10_takeBack 28 = .ok (.aload_n 0, 1) := by decide +kernel
theorem dX10_takeBack_29 : decode cX10_takeBack 29 = .ok (.getfield 94, 3) := by decide +kernel
theorem dX10_takeBack_32 : decode cX10_takeBack 32 = .ok (.iastore, 1) := by decide +kernel
theorem dX10_takeBack_33 : decode cX10_takeBack 33 = .ok (.iconst 1, 1) := by decide +kernel
theorem dX10_takeBack_34 : decode cX10_takeBack 34 = .ok (.ireturn, 1) := by decide +kernel
theorem dX10_told_0 : decode cX10_told 0 = .ok (.aload_n 0, 1) := by decide +kernel
theorem dX10_told_1 : decode cX10_told 1 = .ok (.iload_n 1, 1) := by decide +kernel
theorem dX10_told_2 : decode cX10_told 2 = .ok (.invokevirtual 111, 3) := by decide +kernel
theorem dX10_told_5 : decode cX10_told 5 = .ok (.ifCond .eq 12, 3) := by decide +kernel
theorem dX10_told_8 : decode cX10_told 8 = .ok (.iload_n 2, 1) := by decide +kernel
theorem dX10_told_9 : decode cX10_told 9 = .ok (.iconst 0, 1) := by decide +kernel
theorem dX10_told_10 : decode cX10_told 10 = .ok (.iconst 4, 1) := by decide +kernel
theorem dX10_told_11 : decode cX10_told 11 = .ok (.invokestatic 90, 3) := by decide +kernel
theorem dX10_told_14 : decode cX10_told 14 = .ok (.ifCond .ne 6, 3) := by decide +kernel
theorem dX10_told_17 : decode cX10_told 17 = .ok (.ldc 106, 2) := by decide +kernel
theorem dX10_told_19 : decode cX10_told 19 = .ok (.ireturn, 1) := by decide +kernel
theorem dX10_told_20 : decode cX10_told 20 = .ok (.iload_n 2, 1) := by decide +kernel
theorem dX10_told_21 : decode cX10_told 21 = .ok (.tableswitch 59 0 3 #[31, 38, 45, 52], 31) := by decide +kernel
theorem dX10_told_52 : decode cX10_told 52 = .ok (.aload_n 0, 1) := by decide +kernel
theorem dX10_told_53 : decode cX10_told 53 = .ok (.getfield 7, 3) := by decide +kernel
theorem dX10_told_56 : decode cX10_told 56 = .ok (.iload_n 1, 1) := by decide +kernel
theorem dX10_told_57 : decode cX10_told 57 = .ok (.iaload, 1) := by decide +kernel
theorem dX10_told_58 : decode cX10_told 58 = .ok (.ireturn, 1) := by decide +kernel
theorem dX10_told_59 : decode cX10_told 59 = .ok (.aload_n 0, 1) := by decide +kernel
theorem dX10_told_60 : decode cX10_told 60 = .ok (.getfield 13, 3) := by decide +kernel
theorem dX10_told_63 : decode cX10_told 63 = .ok (.iload_n 1, 1) := by decide +kernel
theorem dX10_told_64 : decode cX10_told 64 = .ok (.iaload, 1) := by decide +kernel
theorem dX10_told_65 : decode cX10_told 65 = .ok (.ireturn, 1) := by decide +kernel
theorem dX10_told_66 : decode cX10_told 66 = .ok (.aload_n 0, 1) := by decide +kernel
theorem dX10_told_67 : decode cX10_told 67 = .ok (.getfield 16, 3) := by decide +kernel
theorem dX10_told_70 : decode cX10_told 70 = .ok (.iload_n 1, 1) := by decide +kernel
theorem dX10_told_71 : decode cX10_told 71 = .ok (.iaload, 1) := by decide +kernel
theorem dX10_told_72 : decode cX10_told 72 = .ok (.ireturn, 1) := by decide +kernel
theorem dX10_told_73 : decode cX10_told 73 = .ok (.aload_n 0, 1) := by decide +kernel
theorem dX10_told_74 : decode cX10_told 74 = .ok (.getfield 19, 3) := by decide +kernel
theorem dX10_told_77 : decode cX10_told 77 = .ok (.iload_n 1, 1) := by decide +kernel
theorem dX10_told_78 : decode cX10_told 78 = .ok (.iaload, 1) := by decide +kernel
theorem dX10_told_79 : decode cX10_told 79 = .ok (.ireturn, 1) := by decide +kernel
theorem dX10_told_80 : decode cX10_told 80 = .ok (.aload_n 0, 1) := by decide +kernel
theorem dX10_told_81 : decode cX10_told 81 = .ok (.getfield 22, 3) := by decide +kernel
theorem dX10_told_84 : decode cX10_told 84 = .ok (.iload_n 1, 1) := by decide +kernel
theorem dX10_told_85 : decode cX10_told 85 = .ok (.iaload, 1) := by decide +kernel
theorem dX10_told_86 : decode cX10_told 86 = .ok (.ifCond .ge 8, 3) := by decide +kernel
theorem dX10_told_89 : decode cX10_told 89 = .ok (.ldc 115, 2) := by decide +kernel
theorem dX10_told_91 : decode cX10_told 91 = .ok (.goto 9, 3) := by decide +kernel
theorem dX10_told_94 : decode cX10_told 94 = .ok (.aload_n 0, 1) := by decide +kernel
theorem dX10_told_95 : decode cX10_told 95 = .ok (.getfield 22, 3) := by decide +kernel
theorem dX10_told_98 : decode cX10_told 98 = .ok (.iload_n 1, 1) := by decide +kernel
theorem dX10_told_99 : decode cX10_told 99 = .ok (.iaload, 1) := by decide +kernel
theorem dX10_told_100 : decode cX10_told 100 = .ok (.ireturn, 1) := by decide +kernel
theorem dX10_holds_0 : decode cX10_holds 0 = .ok (.aload_n 0, 1) := by decide +kernel
theorem dX10_holds_1 : decode cX10_holds 1 = .ok (.getfield 19, 3) := by decide +kernel
theorem dX10_holds_4 : decode cX10_holds 4 = .ok (.iload_n 1, 1) := by decide +kernel
theorem dX10_holds_5 : decode cX10_holds 5 = .ok (.iaload, 1) := by decide +kernel
theorem dX10_holds_6 : decode cX10_holds 6 = .ok (.iload_n 2, 1) := by decide +kernel
theorem dX10_holds_7 : decode cX10_holds 7 = .ok (.if_icmp .gt 36, 3) := by decide +kernel
theorem dX10_holds_10 : decode cX10_holds 10 = .ok (.aload_n 0, 1) := by decide +kernel
theorem dX10_holds_11 : decode cX10_holds 11 = .ok (.getfield 22, 3) := by decide +kernel
theorem dX10_holds_14 : decode cX10_holds 14 = .ok (.iload_n 1, 1) := by decide +kernel
theorem dX10_holds_15 : decode cX10_holds 15 = .ok (.iaload, 1) := by decide +kernel
theorem dX10_holds_16 : decode cX10_holds 16 = .ok (.ifCond .lt 13, 3) := by decide +kernel
theorem dX10_holds_19 : decode cX10_holds 19 = .ok (.aload_n 0, 1) := by decide +kernel
theorem dX10_holds_20 : decode cX10_holds 20 = .ok (.getfield 22, 3) := by decide +kernel
theorem dX10_holds_23 : decode cX10_holds 23 = .ok (.iload_n 1, 1) := by decide +kernel
theorem dX10_holds_24 : decode cX10_holds 24 = .ok (.iaload, 1) := by decide +kernel
theorem dX10_holds_25 : decode cX10_holds 25 = .ok (.iload_n 2, 1) := by decide +kernel
theorem dX10_holds_26 : decode cX10_holds 26 = .ok (.if_icmp .le 17, 3) := by decide +kernel
theorem dX10_holds_29 : decode cX10_holds 29 = .ok (.aload_n 0, 1) := by decide +kernel
theorem dX10_holds_30 : decode cX10_holds 30 = .ok (.getfield 16, 3) := by decide +kernel
theorem dX10_holds_33 : decode cX10_holds 33 = .ok (.iload_n 1, 1) := by decide +kernel
theorem dX10_holds_34 : decode cX10_holds 34 = .ok (.iaload, 1) := by decide +kernel
theorem dX10_holds_35 : decode cX10_holds 35 = .ok (.iload_n 3, 1) := by decide +kernel
theorem dX10_holds_36 : decode cX10_holds 36 = .ok (.if_icmp .gt 7, 3) := by decide +kernel
theorem dX10_holds_39 : decode cX10_holds 39 = .ok (.iconst 1, 1) := by decide +kernel
theorem dX10_holds_40 : decode cX10_holds 40 = .ok (.goto 4, 3) := by decide +kernel
theorem dX10_holds_43 : decode cX10_holds 43 = .ok (.iconst 0, 1) := by decide +kernel
theorem dX10_holds_44 : decode cX10_holds 44 = .ok (.ireturn, 1) := by decide +kernel
theorem dX10_latest_0 : decode cX10_latest 0 = .ok (.iconst (-1), 1) := by decide +kernel
theorem dX10_latest_1 : decode cX10_latest 1 = .ok (.istore 4, 2) := by decide +kernel
theorem dX10_latest_3 : decode cX10_latest 3 = .ok (.iconst 0, 1) := by decide +kernel
theorem dX10_latest_4 : decode cX10_latest 4 = .ok (.istore 5, 2) := by decide +kernel
theorem dX10_latest_6 : decode cX10_latest 6 = .ok (.iload 5, 2) := by decide +kernel
theorem dX10_latest_8 : decode cX10_latest 8 = .ok (.aload_n 0, 1) := by decide +kernel
theorem dX10_latest_9 : decode cX10_latest 9 = .ok (.getfield 107, 3) := by decide +kernel
theorem dX10_latest_12 : decode cX10_latest 12 = .ok (.if_icmp .ge 57, 3) := by decide +kernel
theorem dX10_latest_15 : decode cX10_latest 15 = .ok (.aload_n 0, 1) := by decide +kernel
theorem dX10_latest_16 : decode cX10_latest 16 = .ok (.getfield 7, 3) := by decide +kernel
theorem dX10_latest_19 : decode cX10_latest 19 = .ok (.iload 5, 2) := by decide +kernel
theorem dX10_latest_21 : decode cX10_latest 21 = .ok (.iaload, 1) := by decide +kernel
theorem dX10_latest_22 : decode cX10_latest 22 = .ok (.iload_n 1, 1) := by decide +kernel
theorem dX10_latest_23 : decode cX10_latest 23 = .ok (.if_icmp .ne 40, 3) := by decide +kernel
theorem dX10_latest_26 : decode cX10_latest 26 = .ok (.aload_n 0, 1) := by decide +kernel
theorem dX10_latest_27 : decode cX10_latest 27 = .ok (.iload 5, 2) := by decide +kernel
theorem dX10_latest_29 : decode cX10_latest 29 = .ok (.iload_n 2, 1) := by decide +kernel
theorem dX10_latest_30 : decode cX10_latest 30 = .ok (.iload_n 3, 1) := by decide +kernel
theorem dX10_latest_31 : decode cX10_latest 31 = .ok (.invokevirtual 116, 3) := by decide +kernel
theorem dX10_latest_34 : decode cX10_latest 34 = .ok (.ifCond .eq 29, 3) := by decide +kernel
theorem dX10_latest_37 : decode cX10_latest 37 = .ok (.iload 4, 2) := by decide +kernel
theorem dX10_latest_39 : decode cX10_latest 39 = .ok (.ifCond .lt 20, 3) := by decide +kernel
theorem dX10_latest_42 : decode cX10_latest 42 = .ok (.aload_n 0, 1) := by decide +kernel
theorem dX10_latest_43 : decode cX10_latest 43 = .ok (.getfield 16, 3) := by decide +kernel
theorem dX10_latest_46 : decode cX10_latest 46 = .ok (.iload 5, 2) := by decide +kernel
theorem dX10_latest_48 : decode cX10_latest 48 = .ok (.iaload, 1) := by decide +kernel
theorem dX10_latest_49 : decode cX10_latest 49 = .ok (.aload_n 0, 1) := by decide +kernel
theorem dX10_latest_50 : decode cX10_latest 50 = .ok (.getfield 16, 3) := by decide +kernel
theorem dX10_latest_53 : decode cX10_latest 53 = .ok (.iload 4, 2) := by decide +kernel
theorem dX10_latest_55 : decode cX10_latest 55 = .ok (.iaload, 1) := by decide +kernel
theorem dX10_latest_56 : decode cX10_latest 56 = .ok (.if_icmp .lt 7, 3) := by decide +kernel
theorem dX10_latest_59 : decode cX10_latest 59 = .ok (.iload 5, 2) := by decide +kernel
theorem dX10_latest_61 : decode cX10_latest 61 = .ok (.istore 4, 2) := by decide +kernel
theorem dX10_latest_63 : decode cX10_latest 63 = .ok (.iinc 5 1, 3) := by decide +kernel
theorem dX10_latest_66 : decode cX10_latest 66 = .ok (.goto (-60), 3) := by decide +kernel
theorem dX10_latest_69 : decode cX10_latest 69 = .ok (.iload 4, 2) := by decide +kernel
theorem dX10_latest_71 : decode cX10_latest 71 = .ok (.ifCond .ge 7, 3) := by decide +kernel
theorem dX10_latest_74 : decode cX10_latest 74 = .ok (.iconst (-1), 1) := by decide +kernel
theorem dX10_latest_75 : decode cX10_latest 75 = .ok (.goto 10, 3) := by decide +kernel
theorem dX10_latest_78 : decode cX10_latest 78 = .ok (.aload_n 0, 1) := by decide +kernel
theorem dX10_latest_79 : decode cX10_latest 79 = .ok (.getfield 13, 3) := by decide +kernel
theorem dX10_latest_82 : decode cX10_latest 82 = .ok (.iload 4, 2) := by decide +kernel
theorem dX10_latest_84 : decode cX10_latest 84 = .ok (.iaload, 1) := by decide +kernel
theorem dX10_latest_85 : decode cX10_latest 85 = .ok (.ireturn, 1) := by decide +kernel
theorem dX10_income_0 : decode cX10_income 0 = .ok (.aload_n 0, 1) := by decide +kernel
theorem dX10_income_1 : decode cX10_income 1 = .ok (.iconst 3, 1) := by decide +kernel
theorem dX10_income_2 : decode cX10_income 2 = .ok (.iload_n 1, 1) := by decide +kernel
theorem dX10_income_3 : decode cX10_income 3 = .ok (.iload_n 2, 1) := by decide +kernel
theorem dX10_income_4 : decode cX10_income 4 = .ok (.invokevirtual 119, 3) := by decide +kernel
theorem dX10_income_7 : decode cX10_income 7 = .ok (.istore_n 3, 1) := by decide +kernel
theorem dX10_income_8 : decode cX10_income 8 = .ok (.iload_n 3, 1) := by decide +kernel
theorem dX10_income_9 : decode cX10_income 9 = .ok (.ifCond .ge 13, 3) := by decide +kernel
theorem dX10_income_12 : decode cX10_income 12 = .ok (.aload_n 0, 1) := by decide +kernel
theorem dX10_income_13 : decode cX10_income 13 = .ok (.iconst 1, 1) := by decide +kernel
theorem dX10_income_14 : decode cX10_income 14 = .ok (.iload_n 1, 1) := by decide +kernel
theorem dX10_income_15 : decode cX10_income 15 = .ok (.iload_n 2, 1) := by decide +kernel
theorem dX10_income_16 : decode cX10_income 16 = .ok (.invokevirtual 119, 3) := by decide +kernel
theorem dX10_income_19 : decode cX10_income 19 = .ok (.goto 4, 3) := by decide +kernel
theorem dX10_income_22 : decode cX10_income 22 = .ok (.iload_n 3, 1) := by decide +kernel
theorem dX10_income_23 : decode cX10_income 23 = .ok (.istore_n 3, 1) := by decide +kernel
theorem dX10_income_24 : decode cX10_income 24 = .ok (.iload_n 3, 1) := by decide +kernel
theorem dX10_income_25 : decode cX10_income 25 = .ok (.ifCond .ge 7, 3) := by decide +kernel
theorem dX10_income_28 : decode cX10_income 28 = .ok (.iconst 0, 1) := by decide +kernel
theorem dX10_income_29 : decode cX10_income 29 = .ok (.goto 4, 3) := by decide +kernel
theorem dX10_income_32 : decode cX10_income 32 = .ok (.iload_n 3, 1) := by decide +kernel
theorem dX10_income_33 : decode cX10_income 33 = .ok (.ireturn, 1) := by decide +kernel
theorem dX10_children_0 : decode cX10_children 0 = .ok (.iconst 0, 1) := by decide +kernel
theorem dX10_children_1 : decode cX10_children 1 = .ok (.istore_n 3, 1) := by decide +kernel
theorem dX10_children_2 : decode cX10_children 2 = .ok (.iconst 0, 1) := by decide +kernel
theorem dX10_children_3 : decode cX10_children 3 = .ok (.istore 4, 2) := by decide +kernel
theorem dX10_children_5 : decode cX10_children 5 = .ok (.iload 4, 2) := by decide +kernel
theorem dX10_children_7 : decode cX10_children 7 = .ok (.aload_n 0, 1) := by decide +kernel
theorem dX10_children_8 : decode cX10_children 8 = .ok (.getfield 107, 3) := by decide +kernel
theorem dX10_children_11 : decode cX10_children 11 = .ok (.if_icmp .ge 45, 3) := by decide +kernel
theorem dX10_children_14 : decode cX10_children 14 = .ok (.iload_n 3, 1) := by decide +kernel
theorem dX10_children_15 : decode cX10_children 15 = .ok (.aload_n 0, 1) := by decide +kernel
theorem dX10_children_16 : decode cX10_children 16 = .ok (.getfield 7, 3) := by decide +kernel
theorem dX10_children_19 : decode cX10_children 19 = .ok (.iload 4, 2) := by decide +kernel
theorem dX10_children_21 : decode cX10_children 21 = .ok (.iaload, 1) := by decide +kernel
theorem dX10_children_22 : decode cX10_children 22 = .ok (.iconst 2, 1) := by decide +kernel
theorem dX10_children_23 : decode cX10_children 23 = .ok (.if_icmp .ne 24, 3) := by decide +kernel
theorem dX10_children_26 : decode cX10_children 26 = .ok (.aload_n 0, 1) := by decide +kernel
theorem dX10_children_27 : decode cX10_children 27 = .ok (.iload 4, 2) := by decide +kernel
theorem dX10_children_29 : decode cX10_children 29 = .ok (.iload_n 1, 1) := by decide +kernel
theorem dX10_children_30 : decode cX10_children 30 = .ok (.iload_n 2, 1) := by decide +kernel
theorem dX10_children_31 : decode cX10_children 31 = .ok (.invokevirtual 116, 3) := by decide +kernel
theorem dX10_children_34 : decode cX10_children 34 = .ok (.ifCond .eq 13, 3) := by decide +kernel
theorem dX10_children_37 : decode cX10_children 37 = .ok (.aload_n 0, 1) := by decide +kernel
theorem dX10_children_38 : decode cX10_children 38 = .ok (.getfield 13, 3) := by decide +kernel
theorem dX10_children_41 : decode cX10_children 41 = .ok (.iload 4, 2) := by decide +kernel
theorem dX10_children_43 : decode cX10_children 43 = .ok (.iaload, 1) := by decide +kernel
theorem dX10_children_44 : decode cX10_children 44 = .ok (.goto 4, 3) := by decide +kernel
theorem dX10_children_47 : decode cX10_children 47 = .ok (.iconst 0, 1) := by decide +kernel
theorem dX10_children_48 : decode cX10_children 48 = .ok (.iadd, 1) := by decide +kernel
theorem dX10_children_49 : decode cX10_children 49 = .ok (.istore_n 3, 1) := by decide +kernel
theorem dX10_children_50 : decode cX10_children 50 = .ok (.iinc 4 1, 3) := by decide +kernel
theorem dX10_children_53 : decode cX10_children 53 = .ok (.goto (-48), 3) := by decide +kernel
theorem dX10_children_56 : decode cX10_children 56 = .ok (.iload_n 3, 1) := by decide +kernel
theorem dX10_children_57 : decode cX10_children 57 = .ok (.ifCond .ge 7, 3) := by decide +kernel
theorem dX10_children_60 : decode cX10_children 60 = .ok (.iconst 0, 1) := by decide +kernel
theorem dX10_children_61 : decode cX10_children 61 = .ok (.goto 13, 3) := by decide +kernel
theorem dX10_children_64 : decode cX10_children 64 = .ok (.iload_n 3, 1) := by decide +kernel
theorem dX10_children_65 : decode cX10_children 65 = .ok (.iconst 4, 1) := by decide +kernel
theorem dX10_children_66 : decode cX10_children 66 = .ok (.if_icmp .le 7, 3) := by decide +kernel
theorem dX10_children_69 : decode cX10_children 69 = .ok (.iconst 4, 1) := by decide +kernel
theorem dX10_children_70 : decode cX10_children 70 = .ok (.goto 4, 3) := by decide +kernel
theorem dX10_children_73 : decode cX10_children 73 = .ok (.iload_n 3, 1) := by decide +kernel
theorem dX10_children_74 : decode cX10_children 74 = .ok (.ireturn, 1) := by decide +kernel
theorem dX10_others_0 : decode cX10_others 0 = .ok (.aload_n 0, 1) := by decide +kernel
theorem dX10_others_1 : decode cX10_others 1 = .ok (.iconst 0, 1) := by decide +kernel
theorem dX10_others_2 : decode cX10_others 2 = .ok (.iload_n 1, 1) := by decide +kernel
theorem dX10_others_3 : decode cX10_others 3 = .ok (.iload_n 2, 1) := by decide +kernel
theorem dX10_others_4 : decode cX10_others 4 = .ok (.invokevirtual 119, 3) := by decide +kernel
theorem dX10_others_7 : decode cX10_others 7 = .ok (.istore_n 3, 1) := by decide +kernel
theorem dX10_others_8 : decode cX10_others 8 = .ok (.iload_n 3, 1) := by decide +kernel
theorem dX10_others_9 : decode cX10_others 9 = .ok (.ifCond .ge 7, 3) := by decide +kernel
theorem dX10_others_12 : decode cX10_others 12 = .ok (.iconst 0, 1) := by decide +kernel
theorem dX10_others_13 : decode cX10_others 13 = .ok (.goto 4, 3) := by decide +kernel
theorem dX10_others_16 : decode cX10_others 16 = .ok (.iload_n 3, 1) := by decide +kernel
theorem dX10_others_17 : decode cX10_others 17 = .ok (.ireturn, 1) := by decide +kernel
theorem dX10_known_0 : decode cX10_known 0 = .ok (.aload_n 0, 1) := by decide +kernel
theorem dX10_known_1 : decode cX10_known 1 = .ok (.iload_n 1, 1) := by decide +kernel
theorem dX10_known_2 : decode cX10_known 2 = .ok (.invokevirtual 123, 3) := by decide +kernel
theorem dX10_known_5 : decode cX10_known 5 = .ok (.ifCond .eq 19, 3) := by decide +kernel
theorem dX10_known_8 : decode cX10_known 8 = .ok (.iload_n 2, 1) := by decide +kernel
theorem dX10_known_9 : decode cX10_known 9 = .ok (.invokestatic 102, 3) := by decide +kernel
theorem dX10_known_12 : decode cX10_known 12 = .ok (.ifCond .eq 12, 3) := by decide +kernel
theorem dX10_known_15 : decode cX10_known 15 = .ok (.iload_n 3, 1) := by decide +kernel
theorem dX10_known_16 : decode cX10_known 16 = .ok (.iconst 0, 1) := by decide +kernel
theorem dX10_known_17 : decode cX10_known 17 = .ok (.iconst 2, 1) := by decide +kernel
theorem dX10_known_18 : decode cX10_known 18 = .ok (.invokestatic 90, 3) := by decide +kernel
theorem dX10_known_21 : decode cX10_known 21 = .ok (.ifCond .ne 6, 3) := by decide +kernel
theorem dX10_known_24 : decode cX10_known 24 = .ok (.ldc 106, 2) := by decide +kernel
theorem dX10_known_26 : decode cX10_known 26 = .ok (.ireturn, 1) := by decide +kernel
theorem dX10_known_27 : decode cX10_known 27 = .ok (.iload_n 3, 1) := by decide +kernel
theorem dX10_known_28 : decode cX10_known 28 = .ok (.ifCond .ne 12, 3) := by decide +kernel
theorem dX10_known_31 : decode cX10_known 31 = .ok (.aload_n 0, 1) := by decide +kernel
theorem dX10_known_32 : decode cX10_known 32 = .ok (.iload_n 1, 1) := by decide +kernel
theorem dX10_known_33 : decode cX10_known 33 = .ok (.iload_n 2, 1) := by decide +kernel
theorem dX10_known_34 : decode cX10_known 34 = .ok (.invokevirtual 126, 3) := by decide +kernel
theorem dX10_known_37 : decode cX10_known 37 = .ok (.goto 23, 3) := by decide +kernel
theorem dX10_known_40 : decode cX10_known 40 = .ok (.iload_n 3, 1) := by decide +kernel
theorem dX10_known_41 : decode cX10_known 41 = .ok (.iconst 1, 1) := by decide +kernel
theorem dX10_known_42 : decode cX10_known 42 = .ok (.if_icmp .ne 12, 3) := by decide +kernel
theorem dX10_known_45 : decode cX10_known 45 = .ok (.aload_n 0, 1) := by decide +kernel
theorem dX10_known_46 : decode cX10_known 46 = .ok (.iload_n 1, 1) := by decide +kernel
theorem dX10_known_47 : decode cX10_known 47 = .ok (.iload_n 2, 1) := by decide +kernel
theorem dX10_known_48 : decode cX10_known 48 = .ok (.invokevirtual 130, 3) := by decide +kernel
theorem dX10_known_51 : decode cX10_known 51 = .ok (.goto 9, 3) := by decide +kernel
theorem dX10_known_54 : decode cX10_known 54 = .ok (.aload_n 0, 1) := by decide +kernel
theorem dX10_known_55 : decode cX10_known 55 = .ok (.iload_n 1, 1) := by decide +kernel
theorem dX10_known_56 : decode cX10_known 56 = .ok (.iload_n 2, 1) := by decide +kernel
theorem dX10_known_57 : decode cX10_known 57 = .ok (.invokevirtual 133, 3) := by decide +kernel
theorem dX10_known_60 : decode cX10_known 60 = .ok (.ireturn, 1) := by decide +kernel
theorem dX10_school_0 : decode cX10_school 0 = .ok (.iload_n 1, 1) := by decide +kernel
theorem dX10_school_1 : decode cX10_school 1 = .ok (.invokestatic 102, 3) := by decide +kernel
theorem dX10_school_4 : decode cX10_school 4 = .ok (.ifCond .eq 19, 3) := by decide +kernel
theorem dX10_school_7 : decode cX10_school 7 = .ok (.iload_n 2, 1) := by decide +kernel
theorem dX10_school_8 : decode cX10_school 8 = .ok (.ldc 115, 2) := by decide +kernel
theorem dX10_school_10 : decode cX10_school 10 = .ok (.if_icmp .eq 16, 3) := by decide +kernel
theorem dX10_school_13 : decode cX10_school 13 = .ok (.iload_n 2, 1) := by decide +kernel
theorem dX10_school_14 : decode cX10_school 14 = .ok (.iconst 0, 1) := by decide +kernel
theorem dX10_school_15 : decode cX10_school 15 = .ok (.bipush 7, 2) := by decide +kernel
theorem dX10_school_17 : decode cX10_school 17 = .ok (.invokestatic 90, 3) := by decide +kernel
theorem dX10_school_20 : decode cX10_school 20 = .ok (.ifCond .ne 6, 3) := by decide +kernel
theorem dX10_school_23 : decode cX10_school 23 = .ok (.ldc 106, 2) := by decide +kernel
theorem dX10_school_25 : decode cX10_school 25 = .ok (.ireturn, 1) := by decide +kernel
theorem dX10_school_26 : decode cX10_school 26 = .ok (.aload_n 0, 1) := by decide +kernel
theorem dX10_school_27 : decode cX10_school 27 = .ok (.getfield 25, 3) := by decide +kernel
theorem dX10_school_30 : decode cX10_school 30 = .ok (.iload_n 1, 1) := by decide +kernel
theorem dX10_school_31 : decode cX10_school 31 = .ok (.iaload, 1) := by decide +kernel
theorem dX10_school_32 : decode cX10_school 32 = .ok (.istore_n 3, 1) := by decide +kernel
theorem dX10_school_33 : decode cX10_school 33 = .ok (.aload_n 0, 1) := by decide +kernel
theorem dX10_school_34 : decode cX10_school 34 = .ok (.getfield 25, 3) := by decide +kernel
theorem dX10_school_37 : decode cX10_school 37 = .ok (.iload_n 1, 1) := by decide +kernel
theorem dX10_school_38 : decode cX10_school 38 = .ok (.iload_n 2, 1) := by decide +kernel
theorem dX10_school_39 : decode cX10_school 39 = .ok (.ldc 115, 2) := by decide +kernel
theorem dX10_school_41 : decode cX10_school 41 = .ok (.if_icmp .ne 7, 3) := by decide +kernel
theorem dX10_school_44 : decode cX10_school 44 = .ok (.iconst (-1), 1) := by decide +kernel
theorem dX10_school_45 : decode cX10_school 45 = .ok (.goto 4, 3) := by decide +kernel
theorem dX10_school_48 : decode cX10_school 48 = .ok (.iload_n 2, 1) := by decide +kernel
theorem dX10_school_49 : decode cX10_school 49 = .ok (.iastore, 1) := by decide +kernel
theorem dX10_school_50 : decode cX10_school 50 = .ok (.iload_n 3, 1) := by decide +kernel
theorem dX10_school_51 : decode cX10_school 51 = .ok (.ifCond .ge 8, 3) := by decide +kernel
theorem dX10_school_54 : decode cX10_school 54 = .ok (.ldc 115, 2) := by decide +kernel
theorem dX10_school_56 : decode cX10_school 56 = .ok (.goto 4, 3) := by decide +kernel
theorem dX10_school_59 : decode cX10_school 59 = .ok (.iload_n 3, 1) := by decide +kernel
theorem dX10_school_60 : decode cX10_school 60 = .ok (.ireturn, 1) := by decide +kernel
theorem dX10_diary_0 : decode cX10_diary 0 = .ok (.iload_n 2, 1) := by decide +kernel
theorem dX10_diary_1 : decode cX10_diary 1 = .ok (.aload_n 0, 1) := by decide +kernel
theorem dX10_diary_2 : decode cX10_diary 2 = .ok (.getfield 72, 3) := by decide +kernel
theorem dX10_diary_5 : decode cX10_diary 5 = .ok (.iload_n 1, 1) := by decide +kernel
theorem dX10_diary_6 : decode cX10_diary 6 = .ok (.iaload, 1) := by decide +kernel
theorem dX10_diary_7 : decode cX10_diary 7 = .ok (.if_icmp .lt 5, 3) := by decide +kernel
theorem dX10_diary_10 : decode cX10_diary 10 = .ok (.iconst (-1), 1) := by decide +kernel
theorem dX10_diary_11 : decode cX10_diary 11 = .ok (.ireturn, 1) := by decide +kernel
theorem dX10_diary_12 : decode cX10_diary 12 = .ok (.aload_n 0, 1) := by decide +kernel
theorem dX10_diary_13 : decode cX10_diary 13 = .ok (.getfield 75, 3) := by decide +kernel
theorem dX10_diary_16 : decode cX10_diary 16 = .ok (.bipush 120, 2) := by decide +kernel
theorem dX10_diary_18 : decode cX10_diary 18 = .ok (.iload_n 1, 1) := by decide +kernel
theorem dX10_diary_19 : decode cX10_diary 19 = .ok (.imul, 1) := by decide +kernel
theorem dX10_diary_20 : decode cX10_diary 20 = .ok (.iload_n 2, 1) := by decide +kernel
theorem dX10_diary_21 : decode cX10_diary 21 = .ok (.iadd, 1) := by decide +kernel
theorem dX10_diary_22 : decode cX10_diary 22 = .ok (.iaload, 1) := by decide +kernel
theorem dX10_diary_23 : decode cX10_diary 23 = .ok (.istore_n 3, 1) := by decide +kernel
theorem dX10_diary_24 : decode cX10_diary 24 = .ok (.iload_n 3, 1) := by decide +kernel
theorem dX10_diary_25 : decode cX10_diary 25 = .ok (.iconst 0, 1) := by decide +kernel
theorem dX10_diary_26 : decode cX10_diary 26 = .ok (.bipush 7, 2) := by decide +kernel
theorem dX10_diary_28 : decode cX10_diary 28 = .ok (.invokestatic 90, 3) := by decide +kernel
theorem dX10_diary_31 : decode cX10_diary 31 = .ok (.ifCond .eq 7, 3) := by decide +kernel
theorem dX10_diary_34 : decode cX10_diary 34 = .ok (.iload_n 3, 1) := by decide +kernel
theorem dX10_diary_35 : decode cX10_diary 35 = .ok (.goto 4, 3) := by decide +kernel
theorem dX10_diary_38 : decode cX10_diary 38 = .ok (.iconst (-1), 1) := by decide +kernel
theorem dX10_diary_39 : decode cX10_diary 39 = .ok (.ireturn, 1) := by decide +kernel
theorem dX10_end_0 : decode cX10_end 0 = .ok (.aload_n 0, 1) := by decide +kernel
theorem dX10_end_1 : decode cX10_end 1 = .ok (.getfield 25, 3) := by decide +kernel
theorem dX10_end_4 : decode cX10_end 4 = .ok (.iload_n 1, 1) := by decide +kernel
theorem dX10_end_5 : decode cX10_end 5 = .ok (.iaload, 1) := by decide +kernel
theorem dX10_end_6 : decode cX10_end 6 = .ok (.ifCond .lt 10, 3) := by decide +kernel
theorem dX10_end_9 : decode cX10_end 9 = .ok (.aload_n 0, 1) := by decide +kernel
theorem dX10_end_10 : decode cX10_end 10 = .ok (.getfield 25, 3) := by decide +kernel
theorem dX10_end_13 : decode cX10_end 13 = .ok (.iload_n 1, 1) := by decide +kernel
theorem dX10_end_14 : decode cX10_end 14 = .ok (.iaload, 1) := by decide +kernel
theorem dX10_end_15 : decode cX10_end 15 = .ok (.ireturn, 1) := by decide +kernel
theorem dX10_end_16 : decode cX10_end 16 = .ok (.aload_n 0, 1) := by decide +kernel
theorem dX10_end_17 : decode cX10_end 17 = .ok (.iconst 0, 1) := by decide +kernel
theorem dX10_end_18 : decode cX10_end 18 = .ok (.iload_n 1, 1) := by decide +kernel
theorem dX10_end_19 : decode cX10_end 19 = .ok (.invokevirtual 136, 3) := by decide +kernel
theorem dX10_end_22 : decode cX10_end 22 = .ok (.istore_n 3, 1) := by decide +kernel
theorem dX10_end_23 : decode cX10_end 23 = .ok (.aload_n 0, 1) := by decide +kernel
theorem dX10_end_24 : decode cX10_end 24 = .ok (.iconst 1, 1) := by decide +kernel
theorem dX10_end_25 : decode cX10_end 25 = .ok (.iload_n 1, 1) := by decide +kernel
theorem dX10_end_26 : decode cX10_end 26 = .ok (.invokevirtual 136, 3) := by decide +kernel
theorem dX10_end_29 : decode cX10_end 29 = .ok (.istore 4, 2) := by decide +kernel
theorem dX10_end_31 : decode cX10_end 31 = .ok (.iload_n 3, 1) := by decide +kernel
theorem dX10_end_32 : decode cX10_end 32 = .ok (.ifCond .lt 8, 3) := by decide +kernel
theorem dX10_end_35 : decode cX10_end 35 = .ok (.iload 4, 2) := by decide +kernel
theorem dX10_end_37 : decode cX10_end 37 = .ok (.ifCond .ge 27, 3) := by decide +kernel
theorem dX10_end_40 : decode cX10_end 40 = .ok (.iload_n 3, 1) := by decide +kernel
theorem dX10_end_41 : decode cX10_end 41 = .ok (.ifCond .ge 8, 3) := by decide +kernel
theorem dX10_end_44 : decode cX10_end 44 = .ok (.iload 4, 2) := by decide +kernel
theorem dX10_end_46 : decode cX10_end 46 = .ok (.goto 4, 3) := by decide +kernel
theorem dX10_end_49 : decode cX10_end 49 = .ok (.iload_n 3, 1) := by decide +kernel
theorem dX10_end_50 : decode cX10_end 50 = .ok (.istore 5, 2) := by decide +kernel
theorem dX10_end_52 : decode cX10_end 52 = .ok (.iload 5, 2) := by decide +kernel
theorem dX10_end_54 : decode cX10_end 54 = .ok (.ifCond .ge 7, 3) := by decide +kernel
theorem dX10_end_57 : decode cX10_end 57 = .ok (.iconst 0, 1) := by decide +kernel
theorem dX10_end_58 : decode cX10_end 58 = .ok (.goto 5, 3) := by decide +kernel
theorem dX10_end_61 : decode cX10_end 61 = .ok (.iload 5, 2) := by decide +kernel
theorem dX10_end_63 : decode cX10_end 63 = .ok (.ireturn, 1) := by decide +kernel
theorem dX10_end_64 : decode cX10_end 64 = .ok (.iload_n 3, 1) := by decide +kernel
theorem dX10_end_65 : decode cX10_end 65 = .ok (.iload 4, 2) := by decide +kernel
theorem dX10_end_67 : decode cX10_end 67 = .ok (.if_icmp .ge 7, 3) := by decide +kernel
theorem dX10_end_70 : decode cX10_end 70 = .ok (.iconst 1, 1) := by decide +kernel
theorem dX10_end_71 : decode cX10_end 71 = .ok (.goto 4, 3) := by decide +kernel
theorem dX10_end_74 : decode cX10_end 74 = .ok (.iconst 0, 1) := by decide +kernel
theorem dX10_end_75 : decode cX10_end 75 = .ok (.iload_n 2, 1) := by decide +kernel
theorem dX10_end_76 : decode cX10_end 76 = .ok (.if_icmp .ne 8, 3) := by decide +kernel
theorem dX10_end_79 : decode cX10_end 79 = .ok (.iload 4, 2) := by decide +kernel
theorem dX10_end_81 : decode cX10_end 81 = .ok (.goto 4, 3) := by decide +kernel
theorem dX10_end_84 : decode cX10_end 84 = .ok (.iload_n 3, 1) := by decide +kernel
theorem dX10_end_85 : decode cX10_end 85 = .ok (.ireturn, 1) := by decide +kernel
theorem dX10_nights_0 : decode cX10_nights 0 = .ok (.iload_n 1, 1) := by decide +kernel
theorem dX10_nights_1 : decode cX10_nights 1 = .ok (.invokestatic 102, 3) := by decide +kernel
theorem dX10_nights_4 : decode cX10_nights 4 = .ok (.ifCond .eq 12, 3) := by decide +kernel
theorem dX10_nights_7 : decode cX10_nights 7 = .ok (.iload_n 2, 1) := by decide +kernel
theorem dX10_nights_8 : decode cX10_nights 8 = .ok (.iconst 0, 1) := by decide +kernel
theorem dX10_nights_9 : decode cX10_nights 9 = .ok (.iconst 2, 1) := by decide +kernel
theorem dX10_nights_10 : decode cX10_nights 10 = .ok (.invokestatic 90, 3) := by decide +kernel
theorem dX10_nights_13 : decode cX10_nights 13 = .ok (.ifCond .ne 6, 3) := by decide +kernel
theorem dX10_nights_16 : decode cX10_nights 16 = .ok (.ldc 106, 2) := by decide +kernel
theorem dX10_nights_18 : decode cX10_nights 18 = .ok (.ireturn, 1) := by decide +kernel
theorem dX10_nights_19 : decode cX10_nights 19 = .ok (.iload_n 2, 1) := by decide +kernel
theorem dX10_nights_20 : decode cX10_nights 20 = .ok (.iconst 2, 1) := by decide +kernel
theorem dX10_nights_21 : decode cX10_nights 21 = .ok (.if_icmp .ge 19, 3) := by decide +kernel
theorem dX10_nights_24 : decode cX10_nights 24 = .ok (.aload_n 0, 1) := by decide +kernel
theorem dX10_nights_25 : decode cX10_nights 25 = .ok (.iload_n 1, 1) := by decide +kernel
theorem dX10_nights_26 : decode cX10_nights 26 = .ok (.iload_n 2, 1) := by decide +kernel
theorem dX10_nights_27 : decode cX10_nights 27 = .ok (.iconst 1, 1) := by decide +kernel
theorem dX10_nights_28 : decode cX10_nights 28 = .ok (.if_icmp .ne 7, 3) := by decide +kernel
theorem dX10_nights_31 : decode cX10_nights 31 = .ok (.iconst 1, 1) := by decide +kernel
theorem dX10_nights_32 : decode cX10_nights 32 = .ok (.goto 4, 3) := by decide +kernel
theorem dX10_nights_35 : decode cX10_nights 35 = .ok (.iconst 0, 1) := by decide +kernel
theorem dX10_nights_36 : decode cX10_nights 36 = .ok (.invokevirtual 139, 3) := by decide +kernel
theorem dX10_nights_39 : decode cX10_nights 39 = .ok (.ireturn, 1) := by decide +kernel
theorem dX10_nights_40 : decode cX10_nights 40 = .ok (.aload_n 0, 1) := by decide +kernel
theorem dX10_nights_41 : decode cX10_nights 41 = .ok (.iconst 0, 1) := by decide +kernel
theorem dX10_nights_42 : decode cX10_nights 42 = .ok (.iload_n 1, 1) := by decide +kernel
theorem dX10_nights_43 : decode cX10_nights 43 = .ok (.invokevirtual 136, 3) := by decide +kernel
theorem dX10_nights_46 : decode cX10_nights 46 = .ok (.istore_n 3, 1) := by decide +kernel
theorem dX10_nights_47 : decode cX10_nights 47 = .ok (.aload_n 0, 1) := by decide +kernel
theorem dX10_nights_48 : decode cX10_nights 48 = .ok (.iconst 1, 1) := by decide +kernel
theorem dX10_nights_49 : decode cX10_nights 49 = .ok (.iload_n 1, 1) := by decide +kernel
theorem dX10_nights_50 : decode cX10_nights 50 = .ok (.invokevirtual 136, 3) := by decide +kernel
theorem dX10_nights_53 : decode cX10_nights 53 = .ok (.istore 4, 2) := by decide +kernel
theorem dX10_nights_55 : decode cX10_nights 55 = .ok (.aload_n 0, 1) := by decide +kernel
theorem dX10_nights_56 : decode cX10_nights 56 = .ok (.getfield 25, 3) := by decide +kernel
theorem dX10_nights_59 : decode cX10_nights 59 = .ok (.iload_n 1, 1) := by decide +kernel
theorem dX10_nights_60 : decode cX10_nights 60 = .ok (.iaload, 1) := by decide +kernel
theorem dX10_nights_61 : decode cX10_nights 61 = .ok (.ifCond .ge 22, 3) := by decide +kernel
theorem dX10_nights_64 : decode cX10_nights 64 = .ok (.iload_n 3, 1) := by decide +kernel
theorem dX10_nights_65 : decode cX10_nights 65 = .ok (.ifCond .lt 18, 3) := by decide +kernel
theorem dX10_nights_68 : decode cX10_nights 68 = .ok (.iload 4, 2) := by decide +kernel
theorem dX10_nights_70 : decode cX10_nights 70 = .ok (.ifCond .lt 13, 3) := by decide +kernel
theorem dX10_nights_73 : decode cX10_nights 73 = .ok (.iload_n 3, 1) := by decide +kernel
theorem dX10_nights_74 : decode cX10_nights 74 = .ok (.iload 4, 2) := by decide +kernel
theorem dX10_nights_76 : decode cX10_nights 76 = .ok (.if_icmp .eq 7, 3) := by decide +kernel
theorem dX10_nights_79 : decode cX10_nights 79 = .ok (.iconst 1, 1) := by decide +kernel
theorem dX10_nights_80 : decode cX10_nights 80 = .ok (.goto 4, 3) := by decide +kernel
theorem dX10_nights_83 : decode cX10_nights 83 = .ok (.iconst 0, 1) := by decide +kernel
theorem dX10_nights_84 : decode cX10_nights 84 = .ok (.ireturn, 1) := by decide +kernel
theorem dX10_four_0 : decode cX10_four 0 = .ok (.bipush 24, 2) := by decide +kernel
theorem dX10_four_2 : decode cX10_four 2 = .ok (.istore_n 2, 1) := by decide +kernel
theorem dX10_four_3 : decode cX10_four 3 = .ok (.iload_n 2, 1) := by decide +kernel
theorem dX10_four_4 : decode cX10_four 4 = .ok (.ifCond .lt 35, 3) := by decide +kernel
theorem dX10_four_7 : decode cX10_four 7 = .ok (.aload_n 0, 1) := by decide +kernel
theorem dX10_four_8 : decode cX10_four 8 = .ok (.getfield 69, 3) := by decide +kernel
theorem dX10_four_11 : decode cX10_four 11 = .ok (.aload_n 0, 1) := by decide +kernel
theorem dX10_four_12 : decode cX10_four 12 = .ok (.getfield 143, 3) := by decide +kernel
theorem dX10_four_15 : decode cX10_four 15 = .ok (.iload_n 1, 1) := by decide +kernel
theorem dX10_four_16 : decode cX10_four 16 = .ok (.iload_n 2, 1) := by decide +kernel
theorem dX10_four_17 : decode cX10_four 17 = .ok (.ishr, 1) := by decide +kernel
theorem dX10_four_18 : decode cX10_four 18 = .ok (.sipush 255, 3) := by decide +kernel
theorem dX10_four_21 : decode cX10_four 21 = .ok (.iand, 1) := by decide +kernel
theorem dX10_four_22 : decode cX10_four 22 = .ok (.iastore, 1) := by decide +kernel
theorem dX10_four_23 : decode cX10_four 23 = .ok (.aload_n 0, 1) := by decide +kernel
theorem dX10_four_24 : decode cX10_four 24 = .ok (.dup, 1) := by decide +kernel
theorem dX10_four_25 : decode cX10_four 25 = .ok (.getfield 143, 3) := by decide +kernel
theorem dX10_four_28 : decode cX10_four 28 = .ok (.iconst 1, 1) := by decide +kernel
theorem dX10_four_29 : decode cX10_four 29 = .ok (.iadd, 1) := by decide +kernel
theorem dX10_four_30 : decode cX10_four 30 = .ok (.putfield 143, 3) := by decide +kernel
theorem dX10_four_33 : decode cX10_four 33 = .ok (.iinc 2 (-8), 3) := by decide +kernel
theorem dX10_four_36 : decode cX10_four 36 = .ok (.goto (-33), 3) := by decide +kernel
theorem dX10_four_39 : decode cX10_four 39 = .ok (.return_, 1) := by decide +kernel
theorem dX10_feed_0 : decode cX10_feed 0 = .ok (.aload_n 0, 1) := by decide +kernel
theorem dX10_feed_1 : decode cX10_feed 1 = .ok (.getfield 143, 3) := by decide +kernel
theorem dX10_feed_4 : decode cX10_feed 4 = .ok (.bipush 12, 2) := by decide +kernel
theorem dX10_feed_6 : decode cX10_feed 6 = .ok (.iadd, 1) := by decide +kernel
theorem dX10_feed_7 : decode cX10_feed 7 = .ok (.bipush 72, 2) := by decide +kernel
theorem dX10_feed_9 : decode cX10_feed 9 = .ok (.if_icmp .le 6, 3) := by decide +kernel
theorem dX10_feed_12 : decode cX10_feed 12 = .ok (.ldc 110, 2) := by decide +kernel
theorem dX10_feed_14 : decode cX10_feed 14 = .ok (.ireturn, 1) := by decide +kernel
theorem dX10_feed_15 : decode cX10_feed 15 = .ok (.aload_n 0, 1) := by decide +kernel
theorem dX10_feed_16 : decode cX10_feed 16 = .ok (.iload_n 1, 1) := by decide +kernel
theorem dX10_feed_17 : decode cX10_feed 17 = .ok (.invokevirtual 146, 3) := by decide +kernel
theorem dX10_feed_20 : decode cX10_feed 20 = .ok (.aload_n 0, 1) := by decide +kernel
theorem dX10_feed_21 : decode cX10_feed 21 = .ok (.iload_n 2, 1) := by decide +kernel
theorem dX10_feed_22 : decode cX10_feed 22 = .ok (.invokevirtual 146, 3) := by decide +kernel
theorem dX10_feed_25 : decode cX10_feed 25 = .ok (.aload_n 0, 1) := by decide +kernel
theorem dX10_feed_26 : decode cX10_feed 26 = .ok (.iload_n 3, 1) := by decide +kernel
theorem dX10_feed_27 : decode cX10_feed 27 = .ok (.invokevirtual 146, 3) := by decide +kernel
theorem dX10_feed_30 : decode cX10_feed 30 = .ok (.aload_n 0, 1) := by decide +kernel
theorem dX10_feed_31 : decode cX10_feed 31 = .ok (.getfield 143, 3) := by decide +kernel
theorem dX10_feed_34 : decode cX10_feed 34 = .ok (.ireturn, 1) := by decide +kernel
theorem dX10_trim_0 : decode cX10_trim 0 = .ok (.iload_n 1, 1) := by decide +kernel
theorem dX10_trim_1 : decode cX10_trim 1 = .ok (.iconst 0, 1) := by decide +kernel
theorem dX10_trim_2 : decode cX10_trim 2 = .ok (.aload_n 0, 1) := by decide +kernel
theorem dX10_trim_3 : decode cX10_trim 3 = .ok (.getfield 143, 3) := by decide +kernel
theorem dX10_trim_6 : decode cX10_trim 6 = .ok (.invokestatic 90, 3) := by decide +kernel
theorem dX10_trim_9 : decode cX10_trim 9 = .ok (.ifCond .ne 6, 3) := by decide +kernel
theorem dX10_trim_12 : decode cX10_trim 12 = .ok (.ldc 106, 2) := by decide +kernel
theorem dX10_trim_14 : decode cX10_trim 14 = .ok (.ireturn, 1) := by decide +kernel
theorem dX10_trim_15 : decode cX10_trim 15 = .ok (.aload_n 0, 1) := by decide +kernel
theorem dX10_trim_16 : decode cX10_trim 16 = .ok (.iload_n 1, 1) := by decide +kernel
theorem dX10_trim_17 : decode cX10_trim 17 = .ok (.putfield 143, 3) := by decide +kernel
theorem dX10_trim_20 : decode cX10_trim 20 = .ok (.iload_n 1, 1) := by decide +kernel
theorem dX10_trim_21 : decode cX10_trim 21 = .ok (.ireturn, 1) := by decide +kernel
theorem dX10_next_0 : decode cX10_next 0 = .ok (.aload_n 0, 1) := by decide +kernel
theorem dX10_next_1 : decode cX10_next 1 = .ok (.getfield 150, 3) := by decide +kernel
theorem dX10_next_4 : decode cX10_next 4 = .ok (.aload_n 0, 1) := by decide +kernel
theorem dX10_next_5 : decode cX10_next 5 = .ok (.getfield 143, 3) := by decide +kernel
theorem dX10_next_8 : decode cX10_next 8 = .ok (.if_icmp .ge 30, 3) := by decide +kernel
theorem dX10_next_11 : decode cX10_next 11 = .ok (.aload_n 0, 1) := by decide +kernel
theorem dX10_next_12 : decode cX10_next 12 = .ok (.getfield 69, 3) := by decide +kernel
theorem dX10_next_15 : decode cX10_next 15 = .ok (.aload_n 0, 1) := by decide +kernel
theorem dX10_next_16 : decode cX10_next 16 = .ok (.getfield 150, 3) := by decide +kernel
theorem dX10_next_19 : decode cX10_next 19 = .ok (.iaload, 1) := by decide +kernel
theorem dX10_next_20 : decode cX10_next 20 = .ok (.bipush 32, 2) := by decide +kernel
theorem dX10_next_22 : decode cX10_next 22 = .ok (.if_icmp .ne 16, 3) := by decide +kernel
theorem dX10_next_25 : decode cX10_next 25 = .ok (.aload_n 0, 1) := by decide +kernel
theorem dX10_next_26 : decode cX10_next 26 = .ok (.dup, 1) := by decide +kernel
theorem dX10_next_27 : decode cX10_next 27 = .ok (.getfield 150, 3) := by decide +kernel
theorem dX10_next_30 : decode cX10_next 30 = .ok (.iconst 1, 1) := by decide +kernel
theorem dX10_next_31 : decode cX10_next 31 = .ok (.iadd, 1) := by decide +kernel
theorem dX10_next_32 : decode cX10_next 32 = .ok (.putfield 150, 3) := by decide +kernel
theorem dX10_next_35 : decode cX10_next 35 = .ok (.goto (-35), 3) := by decide +kernel
theorem dX10_next_38 : decode cX10_next 38 = .ok (.aload_n 0, 1) := by decide +kernel
theorem dX10_next_39 : decode cX10_next 39 = .ok (.aload_n 0, 1) := by decide +kernel
theorem dX10_next_40 : decode cX10_next 40 = .ok (.getfield 150, 3) := by decide +kernel
theorem dX10_next_43 : decode cX10_next 43 = .ok (.putfield 153, 3) := by decide +kernel
theorem dX10_next_46 : decode cX10_next 46 = .ok (.aload_n 0, 1) := by decide +kernel
theorem dX10_next_47 : decode cX10_next 47 = .ok (.getfield 150, 3) := by decide +kernel
theorem dX10_next_50 : decode cX10_next 50 = .ok (.aload_n 0, 1) := by decide +kernel
theorem dX10_next_51 : decode cX10_next 51 = .ok (.getfield 143, 3) := by decide +kernel
theorem dX10_next_54 : decode cX10_next 54 = .ok (.if_icmp .ge 30, 3) := by decide +kernel
theorem dX10_next_57 : decode cX10_next 57 = .ok (.aload_n 0, 1) := by decide +kernel
theorem dX10_next_58 : decode cX10_next 58 = .ok (.getfield 69, 3) := by decide +kernel
theorem dX10_next_61 : decode cX10_next 61 = .ok (.aload_n 0, 1) := by decide +kernel
theorem dX10_next_62 : decode cX10_next 62 = .ok (.getfield 150, 3) := by decide +kernel
theorem dX10_next_65 : decode cX10_next 65 = .ok (.iaload, 1) := by decide +kernel
theorem dX10_next_66 : decode cX10_next 66 = .ok (.bipush 32, 2) := by decide +kernel
theorem dX10_next_68 : decode cX10_next 68 = .ok (.if_icmp .eq 16, 3) := by decide +kernel
theorem dX10_next_71 : decode cX10_next 71 = .ok (.aload_n 0, 1) := by decide +kernel
theorem dX10_next_72 : decode cX10_next 72 = .ok (.dup, 1) := by decide +kernel
theorem dX10_next_73 : decode cX10_next 73 = .ok (.getfield 150, 3) := by decide +kernel
theorem dX10_next_76 : decode cX10_next 76 = .ok (.iconst 1, 1) := by decide +kernel
theorem dX10_next_77 : decode cX10_next 77 = .ok (.iadd, 1) := by decide +kernel
theorem dX10_next_78 : decode cX10_next 78 = .ok (.putfield 150, 3) := by decide +kernel
theorem dX10_next_81 : decode cX10_next 81 = .ok (.goto (-35), 3) := by decide +kernel
theorem dX10_next_84 : decode cX10_next 84 = .ok (.aload_n 0, 1) := by decide +kernel
theorem dX10_next_85 : decode cX10_next 85 = .ok (.aload_n 0, 1) := by decide +kernel
theorem dX10_next_86 : decode cX10_next 86 = .ok (.getfield 150, 3) := by decide +kernel
theorem dX10_next_89 : decode cX10_next 89 = .ok (.aload_n 0, 1) := by decide +kernel
theorem dX10_next_90 : decode cX10_next 90 = .ok (.getfield 153, 3) := by decide +kernel
theorem dX10_next_93 : decode cX10_next 93 = .ok (.isub, 1) := by decide +kernel
theorem dX10_next_94 : decode cX10_next 94 = .ok (.putfield 156, 3) := by decide +kernel
theorem dX10_next_97 : decode cX10_next 97 = .ok (.return_, 1) := by decide +kernel
theorem dX10_here_0 : decode cX10_here 0 = .ok (.aload_n 0, 1) := by decide +kernel
theorem dX10_here_1 : decode cX10_here 1 = .ok (.getfield 156, 3) := by decide +kernel
theorem dX10_here_4 : decode cX10_here 4 = .ok (.ifCond .ne 10, 3) := by decide +kernel
theorem dX10_here_7 : decode cX10_here 7 = .ok (.aload_n 0, 1) := by decide +kernel
theorem dX10_here_8 : decode cX10_here 8 = .ok (.getfield 143, 3) := by decide +kernel
theorem dX10_here_11 : decode cX10_here 11 = .ok (.goto 7, 3) := by decide +kernel
theorem dX10_here_14 : decode cX10_here 14 = .ok (.aload_n 0, 1) := by decide +kernel
theorem dX10_here_15 : decode cX10_here 15 = .ok (.getfield 153, 3) := by decide +kernel
theorem dX10_here_18 : decode cX10_here 18 = .ok (.ireturn, 1) := by decide +kernel
theorem dX10_isWord_0 : decode cX10_isWord 0 = .ok (.aload_n 0, 1) := by decide +kernel
theorem dX10_isWord_1 : decode cX10_isWord 1 = .ok (.getfield 156, 3) := by decide +kernel
theorem dX10_isWord_4 : decode cX10_isWord 4 = .ok (.iload 5, 2) := by decide +kernel
theorem dX10_isWord_6 : decode cX10_isWord 6 = .ok (.ifCond .ne 7, 3) := by decide +kernel
theorem dX10_isWord_9 : decode cX10_isWord 9 = .ok (.iconst 4, 1) := by decide +kernel
theorem dX10_isWord_10 : decode cX10_isWord 10 = .ok (.goto 4, 3) := by decide +kernel
theorem dX10_isWord_13 : decode cX10_isWord 13 = .ok (.iconst 5, 1) := by decide +kernel
theorem dX10_isWord_14 : decode cX10_isWord 14 = .ok (.if_icmp .ne 50, 3) := by decide +kernel
theorem dX10_isWord_17 : decode cX10_isWord 17 = .ok (.aload_n 0, 1) := by decide +kernel
theorem dX10_isWord_18 : decode cX10_isWord 18 = .ok (.getfield 69, 3) := by decide +kernel
theorem dX10_isWord_21 : decode cX10_isWord 21 = .ok (.aload_n 0, 1) := by decide +kernel
theorem dX10_isWord_22 : decode cX10_isWord 22 = .ok (.getfield 153, 3) := by decide +kernel
theorem dX10_isWord_25 : decode cX10_isWord 25 = .ok (.iaload, 1) := by decide +kernel
theorem dX10_isWord_26 : decode cX10_isWord 26 = .ok (.iload_n 1, 1) := by decide +kernel
theorem dX10_isWord_27 : decode cX10_isWord 27 = .ok (.if_icmp .ne 37, 3) := by decide +kernel
theorem dX10_isWord_30 : decode cX10_isWord 30 = .ok (.aload_n 0, 1) := by decide +kernel
theorem dX10_isWord_31 : decode cX10_isWord 31 = .ok (.getfield 69, 3) := by decide +kernel
theorem dX10_isWord_34 : decode cX10_isWord 34 = .ok (.aload_n 0, 1) := by decide +kernel
theorem dX10_isWord_35 : decode cX10_isWord 35 = .ok (.getfield 153, 3) := by decide +kernel
theorem dX10_isWord_38 : decode cX10_isWord 38 = .ok (.iconst 1, 1) := by decide +kernel
theorem dX10_isWord_39 : decode cX10_isWord 39 = .ok (.iadd, 1) := by decide +kernel
theorem dX10_isWord_40 : decode cX10_isWord 40 = .ok (.iaload, 1) := by decide +kernel
theorem dX10_isWord_41 : decode cX10_isWord 41 = .ok (.iload_n 2, 1) := by decide +kernel
theorem dX10_isWord_42 : decode cX10_isWord 42 = .ok (.if_icmp .ne 22, 3) := by decide +kernel
theorem dX10_isWord_45 : decode cX10_isWord 45 = .ok (.aload_n 0, 1) := by decide +kernel
theorem dX10_isWord_46 : decode cX10_isWord 46 = .ok (.getfield 69, 3) := by decide +kernel
theorem dX10_isWord_49 : decode cX10_isWord 49 = .ok (.aload_n 0, 1) := by decide +kernel
theorem dX10_isWord_50 : decode cX10_isWord 50 = .ok (.getfield 153, 3) := by decide +kernel
theorem dX10_isWord_53 : decode cX10_isWord 53 = .ok (.iconst 2, 1) := by decide +kernel
theorem dX10_isWord_54 : decode cX10_isWord 54 = .ok (.iadd, 1) := by decide +kernel
theorem dX10_isWord_55 : decode cX10_isWord 55 = .ok (.iaload, 1) := by decide +kernel
theorem dX10_isWord_56 : decode cX10_isWord 56 = .ok (.iload_n 3, 1) := by decide +kernel
theorem dX10_isWord_57 : decode cX10_isWord 57 = .ok (.if_icmp .ne 7, 3) := by decide +kernel
theorem dX10_isWord_60 : decode cX10_isWord 60 = .ok (.iconst 1, 1) := by decide +kernel
theorem dX10_isWord_61 : decode cX10_isWord 61 = .ok (.goto 4, 3) := by decide +kernel
theorem dX10_isWord_64 : decode cX10_isWord 64 = .ok (.iconst 0, 1) := by decide +kernel
theorem dX10_isWord_65 : decode cX10_isWord 65 = .ok (.istore 6, 2) := by decide +kernel
theorem dX10_isWord_67 : decode cX10_isWord 67 = .ok (.iload 6, 2) := by decide +kernel
theorem dX10_isWord_69 : decode cX10_isWord 69 = .ok (.ifCond .eq 44, 3) := by decide +kernel
theorem dX10_isWord_72 : decode cX10_isWord 72 = .ok (.aload_n 0, 1) := by decide +kernel
theorem dX10_isWord_73 : decode cX10_isWord 73 = .ok (.getfield 69, 3) := by decide +kernel
theorem dX10_isWord_76 : decode cX10_isWord 76 = .ok (.aload_n 0, 1) := by decide +kernel
theorem dX10_isWord_77 : decode cX10_isWord 77 = .ok (.getfield 153, 3) := by decide +kernel
theorem dX10_isWord_80 : decode cX10_isWord 80 = .ok (.iconst 3, 1) := by decide +kernel
theorem dX10_isWord_81 : decode cX10_isWord 81 = .ok (.iadd, 1) := by decide +kernel
theorem dX10_isWord_82 : decode cX10_isWord 82 = .ok (.iaload, 1) := by decide +kernel
theorem dX10_isWord_83 : decode cX10_isWord 83 = .ok (.iload 4, 2) := by decide +kernel
theorem dX10_isWord_85 : decode cX10_isWord 85 = .ok (.if_icmp .ne 28, 3) := by decide +kernel
theorem dX10_isWord_88 : decode cX10_isWord 88 = .ok (.iload 5, 2) := by decide +kernel
theorem dX10_isWord_90 : decode cX10_isWord 90 = .ok (.ifCond .eq 19, 3) := by decide +kernel
theorem dX10_isWord_93 : decode cX10_isWord 93 = .ok (.aload_n 0, 1) := by decide +kernel
theorem dX10_isWord_94 : decode cX10_isWord 94 = .ok (.getfield 69, 3) := by decide +kernel
theorem dX10_isWord_97 : decode cX10_isWord 97 = .ok (.aload_n 0, 1) := by decide +kernel
theorem dX10_isWord_98 : decode cX10_isWord 98 = .ok (.getfield 153, 3) := by decide +kernel
theorem dX10_isWord_101 : decode cX10_isWord 101 = .ok (.iconst 4, 1) := by decide +kernel
theorem dX10_isWord_102 : decode cX10_isWord 102 = .ok (.iadd, 1) := by decide +kernel
theorem dX10_isWord_103 : decode cX10_isWord 103 = .ok (.iaload, 1) := by decide +kernel
theorem dX10_isWord_104 : decode cX10_isWord 104 = .ok (.iload 5, 2) := by decide +kernel
theorem dX10_isWord_106 : decode cX10_isWord 106 = .ok (.if_icmp .ne 7, 3) := by decide +kernel
theorem dX10_isWord_109 : decode cX10_isWord 109 = .ok (.iconst 1, 1) := by decide +kernel
theorem dX10_isWord_110 : decode cX10_isWord 110 = .ok (.goto 4, 3) := by decide +kernel
theorem dX10_isWord_113 : decode cX10_isWord 113 = .ok (.iconst 0, 1) := by decide +kernel
theorem dX10_isWord_114 : decode cX10_isWord 114 = .ok (.ireturn, 1) := by decide +kernel
theorem dX10_number_0 : decode cX10_number 0 = .ok (.iconst 0, 1) := by decide +kernel
theorem dX10_number_1 : decode cX10_number 1 = .ok (.istore_n 1, 1) := by decide +kernel
theorem dX10_number_2 : decode cX10_number 2 = .ok (.aload_n 0, 1) := by decide +kernel
theorem dX10_number_3 : decode cX10_number 3 = .ok (.getfield 153, 3) := by decide +kernel
theorem dX10_number_6 : decode cX10_number 6 = .ok (.istore_n 2, 1) := by decide +kernel
theorem dX10_number_7 : decode cX10_number 7 = .ok (.iload_n 2, 1) := by decide +kernel
theorem dX10_number_8 : decode cX10_number 8 = .ok (.aload_n 0, 1) := by decide +kernel
theorem dX10_number_9 : decode cX10_number 9 = .ok (.getfield 153, 3) := by decide +kernel
theorem dX10_number_12 : decode cX10_number 12 = .ok (.aload_n 0, 1) := by decide +kernel
theorem dX10_number_13 : decode cX10_number 13 = .ok (.getfield 156, 3) := by decide +kernel
theorem dX10_number_16 : decode cX10_number 16 = .ok (.iadd, 1) := by decide +kernel
theorem dX10_number_17 : decode cX10_number 17 = .ok (.if_icmp .ge 55, 3) := by decide +kernel
theorem dX10_number_20 : decode cX10_number 20 = .ok (.aload_n 0, 1) := by decide +kernel
theorem dX10_number_21 : decode cX10_number 21 = .ok (.getfield 69, 3) := by decide +kernel
theorem dX10_number_24 : decode cX10_number 24 = .ok (.iload_n 2, 1) := by decide +kernel
theorem dX10_number_25 : decode cX10_number 25 = .ok (.iaload, 1) := by decide +kernel
theorem dX10_number_26 : decode cX10_number 26 = .ok (.bipush 48, 2) := by decide +kernel
theorem dX10_number_28 : decode cX10_number 28 = .ok (.bipush 57, 2) := by decide +kernel
theorem dX10_number_30 : decode cX10_number 30 = .ok (.invokestatic 90, 3) := by decide +kernel
theorem dX10_number_33 : decode cX10_number 33 = .ok (.ifCond .ne 5, 3) := by decide +kernel
theorem dX10_number_36 : decode cX10_number 36 = .ok (.iconst (-1), 1) := by decide +kernel
theorem dX10_number_37 : decode cX10_number 37 = .ok (.ireturn, 1) := by decide +kernel
theorem dX10_number_38 : decode cX10_number 38 = .ok (.bipush 10, 2) := by decide +kernel
theorem dX10_number_40 : decode cX10_number 40 = .ok (.iload_n 1, 1) := by decide +kernel
theorem dX10_number_41 : decode cX10_number 41 = .ok (.imul, 1) := by decide +kernel
theorem dX10_number_42 : decode cX10_number 42 = .ok (.aload_n 0, 1) := by decide +kernel
theorem dX10_number_43 : decode cX10_number 43 = .ok (.getfield 69, 3) := by decide +kernel
theorem dX10_number_46 : decode cX10_number 46 = .ok (.iload_n 2, 1) := by decide +kernel
theorem dX10_number_47 : decode cX10_number 47 = .ok (.iaload, 1) := by decide +kernel
theorem dX10_number_48 : decode cX10_number 48 = .ok (.iadd, 1) := by decide +kernel
theorem dX10_number_49 : decode cX10_number 49 = .ok (.bipush 48, 2) := by decide +kernel
theorem dX10_number_51 : decode cX10_number 51 = .ok (.isub, 1) := by decide +kernel
theorem dX10_number_52 : decode cX10_number 52 = .ok (.istore_n 1, 1) := by decide +kernel
theorem dX10_number_53 : decode cX10_number 53 = .ok (.iload_n 1, 1) := by decide +kernel
theorem dX10_number_54 : decode cX10_number 54 = .ok (.ldc 159, 2) := by decide +kernel
theorem dX10_number_56 : decode cX10_number 56 = .ok (.if_icmp .le 8, 3) := by decide +kernel
theorem dX10_number_59 : decode cX10_number 59 = .ok (.ldc 159, 2) := by decide +kernel
theorem dX10_number_61 : decode cX10_number 61 = .ok (.goto 4, 3) := by decide +kernel
theorem dX10_number_64 : decode cX10_number 64 = .ok (.iload_n 1, 1) := by decide +kernel
theorem dX10_number_65 : decode cX10_number 65 = .ok (.istore_n 1, 1) := by decide +kernel
theorem dX10_number_66 : decode cX10_number 66 = .ok (.iinc 2 1, 3) := by decide +kernel
theorem dX10_number_69 : decode cX10_number 69 = .ok (.goto (-62), 3) := by decide +kernel
theorem dX10_number_72 : decode cX10_number 72 = .ok (.aload_n 0, 1) := by decide +kernel
theorem dX10_number_73 : decode cX10_number 73 = .ok (.getfield 156, 3) := by decide +kernel
theorem dX10_number_76 : decode cX10_number 76 = .ok (.ifCond .ne 7, 3) := by decide +kernel
theorem dX10_number_79 : decode cX10_number 79 = .ok (.iconst (-1), 1) := by decide +kernel
theorem dX10_number_80 : decode cX10_number 80 = .ok (.goto 4, 3) := by decide +kernel
theorem dX10_number_83 : decode cX10_number 83 = .ok (.iload_n 1, 1) := by decide +kernel
theorem dX10_number_84 : decode cX10_number 84 = .ok (.ireturn, 1) := by decide +kernel
theorem dX10_isNumber_0 : decode cX10_isNumber 0 = .ok (.aload_n 0, 1) := by decide +kernel
theorem dX10_isNumber_1 : decode cX10_isNumber 1 = .ok (.invokevirtual 160, 3) := by decide +kernel
theorem dX10_isNumber_4 : decode cX10_isNumber 4 = .ok (.aload_n 0, 1) := by decide +kernel
theorem dX10_isNumber_5 : decode cX10_isNumber 5 = .ok (.aload_n 0, 1) := by decide +kernel
theorem dX10_isNumber_6 : decode cX10_isNumber 6 = .ok (.invokevirtual 163, 3) := by decide +kernel
theorem dX10_isNumber_9 : decode cX10_isNumber 9 = .ok (.putfield 167, 3) := by decide +kernel
theorem dX10_isNumber_12 : decode cX10_isNumber 12 = .ok (.aload_n 0, 1) := by decide +kernel
theorem dX10_isNumber_13 : decode cX10_isNumber 13 = .ok (.getfield 167, 3) := by decide +kernel
theorem dX10_isNumber_16 : decode cX10_isNumber 16 = .ok (.iload_n 1, 1) := by decide +kernel
theorem dX10_isNumber_17 : decode cX10_isNumber 17 = .ok (.iload_n 2, 1) := by decide +kernel
theorem dX10_isNumber_18 : decode cX10_isNumber 18 = .ok (.invokestatic 90, 3) := by decide +kernel
theorem dX10_isNumber_21 : decode cX10_isNumber 21 = .ok (.ireturn, 1) := by decide +kernel
theorem dX10_isTake_0 : decode cX10_isTake 0 = .ok (.aload_n 0, 1) := by decide +kernel
theorem dX10_isTake_1 : decode cX10_isTake 1 = .ok (.bipush 116, 2) := by decide +kernel
theorem dX10_isTake_3 : decode cX10_isTake 3 = .ok (.bipush 97, 2) := by decide +kernel
theorem dX10_isTake_5 : decode cX10_isTake 5 = .ok (.bipush 107, 2) := by decide +kernel
theorem dX10_isTake_7 : decode cX10_isTake 7 = .ok (.bipush 101, 2) := by decide +kernel
theorem dX10_isTake_9 : decode cX10_isTake 9 = .ok (.iconst 0, 1) := by decide +kernel
theorem dX10_isTake_10 : decode cX10_isTake 10 = .ok (.invokevirtual 170, 3) := by decide +kernel
theorem dX10_isTake_13 : decode cX10_isTake 13 = .ok (.ireturn, 1) := by decide +kernel
theorem dX10_readOver_0 : decode cX10_readOver 0 = .ok (.aload_n 0, 1) := by decide +kernel
theorem dX10_readOver_1 : decode cX10_readOver 1 = .ok (.iconst 1, 1) := by decide +kernel
theorem dX10_readOver_2 : decode cX10_readOver 2 = .ok (.ldc 97, 2) := by decide +kernel
theorem dX10_readOver_4 : decode cX10_readOver 4 = .ok (.invokevirtual 174, 3) := by decide +kernel
theorem dX10_readOver_7 : decode cX10_readOver 7 = .ok (.ifCond .ne 5, 3) := by decide +kernel
theorem dX10_readOver_10 : decode cX10_readOver 10 = .ok (.iconst 0, 1) := by decide +kernel
theorem dX10_readOver_11 : decode cX10_readOver 11 = .ok (.ireturn, 1) := by decide +kernel
theorem dX10_readOver_12 : decode cX10_readOver 12 = .ok (.aload_n 0, 1) := by decide +kernel
theorem dX10_readOver_13 : decode cX10_readOver 13 = .ok (.getfield 38, 3) := by decide +kernel
theorem dX10_readOver_16 : decode cX10_readOver 16 = .ok (.iload_n 1, 1) := by decide +kernel
theorem dX10_readOver_17 : decode cX10_readOver 17 = .ok (.aload_n 0, 1) := by decide +kernel
theorem dX10_readOver_18 : decode cX10_readOver 18 = .ok (.getfield 167, 3) := by decide +kernel
theorem dX10_readOver_21 : decode cX10_readOver 21 = .ok (.iastore, 1) := by decide +kernel
theorem dX10_readOver_22 : decode cX10_readOver 22 = .ok (.aload_n 0, 1) := by decide +kernel
theorem dX10_readOver_23 : decode cX10_readOver 23 = .ok (.invokevirtual 160, 3) := by decide +kernel
theorem dX10_readOver_26 : decode cX10_readOver 26 = .ok (.aload_n 0, 1) := by decide +kernel
theorem dX10_readOver_27 : decode cX10_readOver 27 = .ok (.invokevirtual 177, 3) := by decide +kernel
theorem dX10_readOver_30 : decode cX10_readOver 30 = .ok (.ifCond .eq 13, 3) := by decide +kernel
theorem dX10_readOver_33 : decode cX10_readOver 33 = .ok (.aload_n 0, 1) := by decide +kernel
theorem dX10_readOver_34 : decode cX10_readOver 34 = .ok (.iconst 0, 1) := by decide +kernel
theorem dX10_readOver_35 : decode cX10_readOver 35 = .ok (.bipush 60, 2) := by decide +kernel
theorem dX10_readOver_37 : decode cX10_readOver 37 = .ok (.invokevirtual 174, 3) := by decide +kernel
theorem dX10_readOver_40 : decode cX10_readOver 40 = .ok (.ifCond .ne 5, 3) := by decide +kernel
theorem dX10_readOver_43 : decode cX10_readOver 43 = .ok (.iconst 0, 1) := by decide +kernel
theorem dX10_readOver_44 : decode cX10_readOver 44 = .ok (.ireturn, 1) := by decide +kernel
theorem dX10_readOver_45 : decode cX10_readOver 45 = .ok (.aload_n 0, 1) := by decide +kernel
theorem dX10_readOver_46 : decode cX10_readOver 46 = .ok (.getfield 41, 3) := by decide +kernel
theorem dX10_readOver_49 : decode cX10_readOver 49 = .ok (.iload_n 1, 1) := by decide +kernel
theorem dX10_readOver_50 : decode cX10_readOver 50 = .ok (.aload_n 0, 1) := by decide +kernel
theorem dX10_readOver_51 : decode cX10_readOver 51 = .ok (.getfield 167, 3) := by decide +kernel
theorem dX10_readOver_54 : decode cX10_readOver 54 = .ok (.iastore, 1) := by decide +kernel
theorem dX10_readOver_55 : decode cX10_readOver 55 = .ok (.aload_n 0, 1) := by decide +kernel
theorem dX10_readOver_56 : decode cX10_readOver 56 = .ok (.invokevirtual 160, 3) := by decide +kernel
theorem dX10_readOver_59 : decode cX10_readOver 59 = .ok (.iconst 1, 1) := by decide +kernel
theorem dX10_readOver_60 : decode cX10_readOver 60 = .ok (.ireturn, 1) := by decide +kernel
theorem dX10_readLaw_0 : decode cX10_readLaw 0 = .ok (.aload_n 0, 1) := by decide +kernel
theorem dX10_readLaw_1 : decode cX10_readLaw 1 = .ok (.iconst 0, 1) := by decide +kernel
theorem dX10_readLaw_2 : decode cX10_readLaw 2 = .ok (.putfield 150, 3) := by decide +kernel
theorem dX10_readLaw_5 : decode cX10_readLaw 5 = .ok (.aload_n 0, 1) := by decide +kernel
theorem dX10_readLaw_6 : decode cX10_readLaw 6 = .ok (.invokevirtual 160, 3) := by decide +kernel
theorem dX10_readLaw_9 : decode cX10_readLaw 9 = .ok (.aload_n 0, 1) := by decide +kernel
theorem dX10_readLaw_10 : decode cX10_readLaw 10 = .ok (.invokevirtual 177, 3) := by decide +kernel
theorem dX10_readLaw_13 : decode cX10_readLaw 13 = .ok (.ifCond .eq 13, 3) := by decide +kernel
theorem dX10_readLaw_16 : decode cX10_readLaw 16 = .ok (.aload_n 0, 1) := by decide +kernel
theorem dX10_readLaw_17 : decode cX10_readLaw 17 = .ok (.iconst 0, 1) := by decide +kernel
theorem dX10_readLaw_18 : decode cX10_readLaw 18 = .ok (.bipush 60, 2) := by decide +kernel
theorem dX10_readLaw_20 : decode cX10_readLaw 20 = .ok (.invokevirtual 174, 3) := by decide +kernel
theorem dX10_readLaw_23 : decode cX10_readLaw 23 = .ok (.ifCond .ne 5, 3) := by decide +kernel
theorem dX10_readLaw_26 : decode cX10_readLaw 26 = .ok (.iconst 0, 1) := by decide +kernel
theorem dX10_readLaw_27 : decode cX10_readLaw 27 = .ok (.ireturn, 1) := by decide +kernel
theorem dX10_readLaw_28 : decode cX10_readLaw 28 = .ok (.aload_n 0, 1) := by decide +kernel
theorem dX10_readLaw_29 : decode cX10_readLaw 29 = .ok (.getfield 35, 3) := by decide +kernel
theorem dX10_readLaw_32 : decode cX10_readLaw 32 = .ok (.iload_n 1, 1) := by decide +kernel
theorem dX10_readLaw_33 : decode cX10_readLaw 33 = .ok (.aload_n 0, 1) := by decide +kernel
theorem dX10_readLaw_34 : decode cX10_readLaw 34 = .ok (.getfield 167, 3) := by decide +kernel
theorem dX10_readLaw_37 : decode cX10_readLaw 37 = .ok (.iastore, 1) := by decide +kernel
theorem dX10_readLaw_38 : decode cX10_readLaw 38 = .ok (.aload_n 0, 1) := by decide +kernel
theorem dX10_readLaw_39 : decode cX10_readLaw 39 = .ok (.getfield 38, 3) := by decide +kernel
theorem dX10_readLaw_42 : decode cX10_readLaw 42 = .ok (.iload_n 1, 1) := by decide +kernel
theorem dX10_readLaw_43 : decode cX10_readLaw 43 = .ok (.iconst (-1), 1) := by decide +kernel
theorem dX10_readLaw_44 : decode cX10_readLaw 44 = .ok (.iastore, 1) := by decide +kernel
theorem dX10_readLaw_45 : decode cX10_readLaw 45 = .ok (.aload_n 0, 1) := by decide +kernel
theorem dX10_readLaw_46 : decode cX10_readLaw 46 = .ok (.getfield 41, 3) := by decide +kernel
theorem dX10_readLaw_49 : decode cX10_readLaw 49 = .ok (.iload_n 1, 1) := by decide +kernel
theorem dX10_readLaw_50 : decode cX10_readLaw 50 = .ok (.iconst 0, 1) := by decide +kernel
theorem dX10_readLaw_51 : decode cX10_readLaw 51 = .ok (.iastore, 1) := by decide +kernel
theorem dX10_readLaw_52 : decode cX10_readLaw 52 = .ok (.aload_n 0, 1) := by decide +kernel
theorem dX10_readLaw_53 : decode cX10_readLaw 53 = .ok (.getfield 44, 3) := by decide +kernel
theorem dX10_readLaw_56 : decode cX10_readLaw 56 = .ok (.iload_n 1, 1) := by decide +kernel
theorem dX10_readLaw_57 : decode cX10_readLaw 57 = .ok (.iconst 0, 1) := by decide +kernel
theorem dX10_readLaw_58 : decode cX10_readLaw 58 = .ok (.iastore, 1) := by decide +kernel
theorem dX10_readLaw_59 : decode cX10_readLaw 59 = .ok (.aload_n 0, 1) := by decide +kernel
theorem dX10_readLaw_60 : decode cX10_readLaw 60 = .ok (.getfield 47, 3) := by decide +kernel
theorem dX10_readLaw_63 : decode cX10_readLaw 63 = .ok (.iload_n 1, 1) := by decide +kernel
theorem dX10_readLaw_64 : decode cX10_readLaw 64 = .ok (.iconst 0, 1) := by decide +kernel
theorem dX10_readLaw_65 : decode cX10_readLaw 65 = .ok (.iastore, 1) := by decide +kernel
theorem dX10_readLaw_66 : decode cX10_readLaw 66 = .ok (.aload_n 0, 1) := by decide +kernel
theorem dX10_readLaw_67 : decode cX10_readLaw 67 = .ok (.getfield 50, 3) := by decide +kernel
theorem dX10_readLaw_70 : decode cX10_readLaw 70 = .ok (.iload_n 1, 1) := by decide +kernel
theorem dX10_readLaw_71 : decode cX10_readLaw 71 = .ok (.iconst 0, 1) := by decide +kernel
theorem dX10_readLaw_72 : decode cX10_readLaw 72 = .ok (.iastore, 1) := by decide +kernel
theorem dX10_readLaw_73 : decode cX10_readLaw 73 = .ok (.aload_n 0, 1) := by decide +kernel
theorem dX10_readLaw_74 : decode cX10_readLaw 74 = .ok (.getfield 53, 3) := by decide +kernel
theorem dX10_readLaw_77 : decode cX10_readLaw 77 = .ok (.iload_n 1, 1) := by decide +kernel
theorem dX10_readLaw_78 : decode cX10_readLaw 78 = .ok (.iconst (-1), 1) := by decide +kernel
theorem dX10_readLaw_79 : decode cX10_readLaw 79 = .ok (.iastore, 1) := by decide +kernel
theorem dX10_readLaw_80 : decode cX10_readLaw 80 = .ok (.aload_n 0, 1) := by decide +kernel
theorem dX10_readLaw_81 : decode cX10_readLaw 81 = .ok (.invokevirtual 160, 3) := by decide +kernel
theorem dX10_readLaw_84 : decode cX10_readLaw 84 = .ok (.aload_n 0, 1) := by decide +kernel
theorem dX10_readLaw_85 : decode cX10_readLaw 85 = .ok (.bipush 111, 2) := by decide +kernel
theorem dX10_readLaw_87 : decode cX10_readLaw 87 = .ok (.bipush 118, 2) := by decide +kernel
theorem dX10_readLaw_89 : decode cX10_readLaw 89 = .ok (.bipush 101, 2) := by decide +kernel
theorem dX10_readLaw_91 : decode cX10_readLaw 91 = .ok (.bipush 114, 2) := by decide +kernel
theorem dX10_readLaw_93 : decode cX10_readLaw 93 = .ok (.iconst 0, 1) := by decide +kernel
theorem dX10_readLaw_94 : decode cX10_readLaw 94 = .ok (.invokevirtual 170, 3) := by decide +kernel
theorem dX10_readLaw_97 : decode cX10_readLaw 97 = .ok (.ifCond .eq 13, 3) := by decide +kernel
theorem dX10_readLaw_100 : decode cX10_readLaw 100 = .ok (.aload_n 0, 1) := by decide +kernel
theorem dX10_readLaw_101 : decode cX10_readLaw 101 = .ok (.iload_n 1, 1) := by decide +kernel
theorem dX10_readLaw_102 : decode cX10_readLaw 102 = .ok (.invokevirtual 181, 3) := by decide +kernel
theorem dX10_readLaw_105 : decode cX10_readLaw 105 = .ok (.ifCond .ne 5, 3) := by decide +kernel
theorem dX10_readLaw_108 : decode cX10_readLaw 108 = .ok (.iconst 0, 1) := by decide +kernel
theorem dX10_readLaw_109 : decode cX10_readLaw 109 = .ok (.ireturn, 1) := by decide +kernel
theorem dX10_readLaw_110 : decode cX10_readLaw 110 = .ok (.aload_n 0, 1) := by decide +kernel
theorem dX10_readLaw_111 : decode cX10_readLaw 111 = .ok (.bipush 110, 2) := by decide +kernel
theorem dX10_readLaw_113 : decode cX10_readLaw 113 = .ok (.bipush 105, 2) := by decide +kernel
theorem dX10_readLaw_115 : decode cX10_readLaw 115 = .ok (.bipush 103, 2) := by decide +kernel
theorem dX10_readLaw_117 : decode cX10_readLaw 117 = .ok (.bipush 104, 2) := by decide +kernel
theorem dX10_readLaw_119 : decode cX10_readLaw 119 = .ok (.bipush 116, 2) := by decide +kernel
theorem dX10_readLaw_121 : decode cX10_readLaw 121 = .ok (.invokevirtual 170, 3) := by decide +kernel
theorem dX10_readLaw_124 : decode cX10_readLaw 124 = .ok (.ifCond .eq 29, 3) := by decide +kernel
theorem dX10_readLaw_127 : decode cX10_readLaw 127 = .ok (.aload_n 0, 1) := by decide +kernel
theorem dX10_readLaw_128 : decode cX10_readLaw 128 = .ok (.iconst 0, 1) := by decide +kernel
theorem dX10_readLaw_129 : decode cX10_readLaw 129 = .ok (.bipush 14, 2) := by decide +kernel
theorem dX10_readLaw_131 : decode cX10_readLaw 131 = .ok (.invokevirtual 174, 3) := by decide +kernel
theorem dX10_readLaw_134 : decode cX10_readLaw 134 = .ok (.ifCond .ne 5, 3) := by decide +kernel
theorem dX10_readLaw_137 : decode cX10_readLaw 137 = .ok (.iconst 0, 1) := by decide +kernel
theorem dX10_readLaw_138 : decode cX10_readLaw 138 = .ok (.ireturn, 1) := by decide +kernel
theorem dX10_readLaw_139 : decode cX10_readLaw 139 = .ok (.aload_n 0, 1) := by decide +kernel
theorem dX10_readLaw_140 : decode cX10_readLaw 140 = .ok (.getfield 44, 3) := by decide +kernel
theorem dX10_readLaw_143 : decode cX10_readLaw 143 = .ok (.iload_n 1, 1) := by decide +kernel
theorem dX10_readLaw_144 : decode cX10_readLaw 144 = .ok (.aload_n 0, 1) := by decide +kernel
theorem dX10_readLaw_145 : decode cX10_readLaw 145 = .ok (.getfield 167, 3) := by decide +kernel
theorem dX10_readLaw_148 : decode cX10_readLaw 148 = .ok (.iastore, 1) := by decide +kernel
theorem dX10_readLaw_149 : decode cX10_readLaw 149 = .ok (.aload_n 0, 1) := by decide +kernel
theorem dX10_readLaw_150 : decode cX10_readLaw 150 = .ok (.invokevirtual 160, 3) := by decide +kernel
theorem dX10_readLaw_153 : decode cX10_readLaw 153 = .ok (.aload_n 0, 1) := by decide +kernel
theorem dX10_readLaw_154 : decode cX10_readLaw 154 = .ok (.bipush 111, 2) := by decide +kernel
theorem dX10_readLaw_156 : decode cX10_readLaw 156 = .ok (.bipush 116, 2) := by decide +kernel
theorem dX10_readLaw_158 : decode cX10_readLaw 158 = .ok (.bipush 104, 2) := by decide +kernel
theorem dX10_readLaw_160 : decode cX10_readLaw 160 = .ok (.bipush 101, 2) := by decide +kernel
theorem dX10_readLaw_162 : decode cX10_readLaw 162 = .ok (.bipush 114, 2) := by decide +kernel
theorem dX10_readLaw_164 : decode cX10_readLaw 164 = .ok (.invokevirtual 170, 3) := by decide +kernel
theorem dX10_readLaw_167 : decode cX10_readLaw 167 = .ok (.ifCond .eq 29, 3) := by decide +kernel
theorem dX10_readLaw_170 : decode cX10_readLaw 170 = .ok (.aload_n 0, 1) := by decide +kernel
theorem dX10_readLaw_171 : decode cX10_readLaw 171 = .ok (.iconst 0, 1) := by decide +kernel
theorem dX10_readLaw_172 : decode cX10_readLaw 172 = .ok (.bipush 20, 2) := by decide +kernel
theorem dX10_readLaw_174 : decode cX10_readLaw 174 = .ok (.invokevirtual 174, 3) := by decide +kernel
theorem dX10_readLaw_177 : decode cX10_readLaw 177 = .ok (.ifCond .ne 5, 3) := by decide +kernel
theorem dX10_readLaw_180 : decode cX10_readLaw 180 = .ok (.iconst 0, 1) := by decide +kernel
theorem dX10_readLaw_181 : decode cX10_readLaw 181 = .ok (.ireturn, 1) := by decide +kernel
theorem dX10_readLaw_182 : decode cX10_readLaw 182 = .ok (.aload_n 0, 1) := by decide +kernel
theorem dX10_readLaw_183 : decode cX10_readLaw 183 = .ok (.getfield 47, 3) := by decide +kernel
theorem dX10_readLaw_186 : decode cX10_readLaw 186 = .ok (.iload_n 1, 1) := by decide +kernel
theorem dX10_readLaw_187 : decode cX10_readLaw 187 = .ok (.aload_n 0, 1) := by decide +kernel
theorem dX10_readLaw_188 : decode cX10_readLaw 188 = .ok (.getfield 167, 3) := by decide +kernel
theorem dX10_readLaw_191 : decode cX10_readLaw 191 = .ok (.iastore, 1) := by decide +kernel
theorem dX10_readLaw_192 : decode cX10_readLaw 192 = .ok (.aload_n 0, 1) := by decide +kernel
theorem dX10_readLaw_193 : decode cX10_readLaw 193 = .ok (.invokevirtual 160, 3) := by decide +kernel
theorem dX10_readLaw_196 : decode cX10_readLaw 196 = .ok (.aload_n 0, 1) := by decide +kernel
theorem dX10_readLaw_197 : decode cX10_readLaw 197 = .ok (.bipush 108, 2) := by decide +kernel
theorem dX10_readLaw_199 : decode cX10_readLaw 199 = .ok (.bipush 101, 2) := by decide +kernel
theorem dX10_readLaw_201 : decode cX10_readLaw 201 = .ok (.bipush 97, 2) := by decide +kernel
theorem dX10_readLaw_203 : decode cX10_readLaw 203 = .ok (.bipush 115, 2) := by decide +kernel
theorem dX10_readLaw_205 : decode cX10_readLaw 205 = .ok (.bipush 116, 2) := by decide +kernel
theorem dX10_readLaw_207 : decode cX10_readLaw 207 = .ok (.invokevirtual 170, 3) := by decide +kernel
theorem dX10_readLaw_210 : decode cX10_readLaw 210 = .ok (.ifCond .eq 29, 3) := by decide +kernel
theorem dX10_readLaw_213 : decode cX10_readLaw 213 = .ok (.aload_n 0, 1) := by decide +kernel
theorem dX10_readLaw_214 : decode cX10_readLaw 214 = .ok (.iconst 0, 1) := by decide +kernel
theorem dX10_readLaw_215 : decode cX10_readLaw 215 = .ok (.ldc 97, 2) := by decide +kernel
theorem dX10_readLaw_217 : decode cX10_readLaw 217 = .ok (.invokevirtual 174, 3) := by decide +kernel
theorem dX10_readLaw_220 : decode cX10_readLaw 220 = .ok (.ifCond .ne 5, 3) := by decide +kernel
theorem dX10_readLaw_223 : decode cX10_readLaw 223 = .ok (.iconst 0, 1) := by decide +kernel
theorem dX10_readLaw_224 : decode cX10_readLaw 224 = .ok (.ireturn, 1) := by decide +kernel
theorem dX10_readLaw_225 : decode cX10_readLaw 225 = .ok (.aload_n 0, 1) := by decide +kernel
theorem dX10_readLaw_226 : decode cX10_readLaw 226 = .ok (.getfield 50, 3) := by decide +kernel
theorem dX10_readLaw_229 : decode cX10_readLaw 229 = .ok (.iload_n 1, 1) := by decide +kernel
theorem dX10_readLaw_230 : decode cX10_readLaw 230 = .ok (.aload_n 0, 1) := by decide +kernel
theorem dX10_readLaw_231 : decode cX10_readLaw 231 = .ok (.getfield 167, 3) := by decide +kernel
theorem dX10_readLaw_234 : decode cX10_readLaw 234 = .ok (.iastore, 1) := by decide +kernel
theorem dX10_readLaw_235 : decode cX10_readLaw 235 = .ok (.aload_n 0, 1) := by decide +kernel
theorem dX10_readLaw_236 : decode cX10_readLaw 236 = .ok (.invokevirtual 160, 3) := by decide +kernel
theorem dX10_readLaw_239 : decode cX10_readLaw 239 = .ok (.aload_n 0, 1) := by decide +kernel
theorem dX10_readLaw_240 : decode cX10_readLaw 240 = .ok (.bipush 109, 2) := by decide +kernel
theorem dX10_readLaw_242 : decode cX10_readLaw 242 = .ok (.bipush 111, 2) := by decide +kernel
theorem dX10_readLaw_244 : decode cX10_readLaw 244 = .ok (.bipush 115, 2) := by decide +kernel
theorem dX10_readLaw_246 : decode cX10_readLaw 246 = .ok (.bipush 116, 2) := by decide +kernel
theorem dX10_readLaw_248 : decode cX10_readLaw 248 = .ok (.iconst 0, 1) := by decide +kernel
theorem dX10_readLaw_249 : decode cX10_readLaw 249 = .ok (.invokevirtual 170, 3) := by decide +kernel
theorem dX10_readLaw_252 : decode cX10_readLaw 252 = .ok (.ifCond .eq 48, 3) := by decide +kernel
theorem dX10_readLaw_255 : decode cX10_readLaw 255 = .ok (.aload_n 0, 1) := by decide +kernel
theorem dX10_readLaw_256 : decode cX10_readLaw 256 = .ok (.aload_n 0, 1) := by decide +kernel
theorem dX10_readLaw_257 : decode cX10_readLaw 257 = .ok (.getfield 50, 3) := by decide +kernel
theorem dX10_readLaw_260 : decode cX10_readLaw 260 = .ok (.iload_n 1, 1) := by decide +kernel
theorem dX10_readLaw_261 : decode cX10_readLaw 261 = .ok (.iaload, 1) := by decide +kernel
theorem dX10_readLaw_262 : decode cX10_readLaw 262 = .ok (.iconst 1, 1) := by decide +kernel
theorem dX10_readLaw_263 : decode cX10_readLaw 263 = .ok (.if_icmp .le 12, 3) := by decide +kernel
theorem dX10_readLaw_266 : decode cX10_readLaw 266 = .ok (.aload_n 0, 1) := by decide +kernel
theorem dX10_readLaw_267 : decode cX10_readLaw 267 = .ok (.getfield 50, 3) := by decide +kernel
theorem dX10_readLaw_270 : decode cX10_readLaw 270 = .ok (.iload_n 1, 1) := by decide +kernel
theorem dX10_readLaw_271 : decode cX10_readLaw 271 = .ok (.iaload, 1) := by decide +kernel
theorem dX10_readLaw_272 : decode cX10_readLaw 272 = .ok (.goto 4, 3) := by decide +kernel
theorem dX10_readLaw_275 : decode cX10_readLaw 275 = .ok (.iconst 1, 1) := by decide +kernel
theorem dX10_readLaw_276 : decode cX10_readLaw 276 = .ok (.ldc 97, 2) := by decide +kernel
theorem dX10_readLaw_278 : decode cX10_readLaw 278 = .ok (.invokevirtual 174, 3) := by decide +kernel
theorem dX10_readLaw_281 : decode cX10_readLaw 281 = .ok (.ifCond .ne 5, 3) := by decide +kernel
theorem dX10_readLaw_284 : decode cX10_readLaw 284 = .ok (.iconst 0, 1) := by decide +kernel
theorem dX10_readLaw_285 : decode cX10_readLaw 285 = .ok (.ireturn, 1) := by decide +kernel
theorem dX10_readLaw_286 : decode cX10_readLaw 286 = .ok (.aload_n 0, 1) := by decide +kernel
theorem dX10_readLaw_287 : decode cX10_readLaw 287 = .ok (.getfield 53, 3) := by decide +kernel
theorem dX10_readLaw_290 : decode cX10_readLaw 290 = .ok (.iload_n 1, 1) := by decide +kernel
theorem dX10_readLaw_291 : decode cX10_readLaw 291 = .ok (.aload_n 0, 1) := by decide +kernel
theorem dX10_readLaw_292 : decode cX10_readLaw 292 = .ok (.getfield 167, 3) := by decide +kernel
theorem dX10_readLaw_295 : decode cX10_readLaw 295 = .ok (.iastore, 1) := by decide +kernel
theorem dX10_readLaw_296 : decode cX10_readLaw 296 = .ok (.aload_n 0, 1) := by decide +kernel
theorem dX10_readLaw_297 : decode cX10_readLaw 297 = .ok (.invokevirtual 160, 3) := by decide +kernel
theorem dX10_readLaw_300 : decode cX10_readLaw 300 = .ok (.aload_n 0, 1) := by decide +kernel
theorem dX10_readLaw_301 : decode cX10_readLaw 301 = .ok (.getfield 156, 3) := by decide +kernel
theorem dX10_readLaw_304 : decode cX10_readLaw 304 = .ok (.ifCond .ne 7, 3) := by decide +kernel
theorem dX10_readLaw_307 : decode cX10_readLaw 307 = .ok (.iconst 1, 1) := by decide +kernel
theorem dX10_readLaw_308 : decode cX10_readLaw 308 = .ok (.goto 4, 3) := by decide +kernel
theorem dX10_readLaw_311 : decode cX10_readLaw 311 = .ok (.iconst 0, 1) := by decide +kernel
theorem dX10_readLaw_312 : decode cX10_readLaw 312 = .ok (.ireturn, 1) := by decide +kernel
theorem dX10_keepAside_0 : decode cX10_keepAside 0 = .ok (.aload_n 0, 1) := by decide +kernel
theorem dX10_keepAside_1 : decode cX10_keepAside 1 = .ok (.getfield 78, 3) := by decide +kernel
theorem dX10_keepAside_4 : decode cX10_keepAside 4 = .ok (.iconst 0, 1) := by decide +kernel
theorem dX10_keepAside_5 : decode cX10_keepAside 5 = .ok (.aload_n 0, 1) := by decide +kernel
theorem dX10_keepAside_6 : decode cX10_keepAside 6 = .ok (.getfield 35, 3) := by decide +kernel
theorem dX10_keepAside_9 : decode cX10_keepAside 9 = .ok (.iload_n 1, 1) := by decide +kernel
theorem dX10_keepAside_10 : decode cX10_keepAside 10 = .ok (.iaload, 1) := by decide +kernel
theorem dX10_keepAside_11 : decode cX10_keepAside 11 = .ok (.iastore, 1) := by decide +kernel
theorem dX10_keepAside_12 : decode cX10_keepAside 12 = .ok (.aload_n 0, 1) := by decide +kernel
theorem dX10_keepAside_13 : decode cX10_keepAside 13 = .ok (.getfield 78, 3) := by decide +kernel
theorem dX10_keepAside_16 : decode cX10_keepAside 16 = .ok (.iconst 1, 1) := by decide +kernel
theorem dX10_keepAside_17 : decode cX10_keepAside 17 = .ok (.aload_n 0, 1) := by decide +kernel
theorem dX10_keepAside_18 : decode cX10_keepAside 18 = .ok (.getfield 38, 3) := by decide +kernel
theorem dX10_keepAside_21 : decode cX10_keepAside 21 = .ok (.iload_n 1, 1) := by decide +kernel
theorem dX10_keepAside_22 : decode cX10_keepAside 22 = .ok (.iaload, 1) := by decide +kernel
theorem dX10_keepAside_23 : decode cX10_keepAside 23 = .ok (.iastore, 1) := by decide +kernel
theorem dX10_keepAside_24 : decode cX10_keepAside 24 = .ok (.aload_n 0, 1) := by decide +kernel
theorem dX10_keepAside_25 : decode cX10_keepAside 25 = .ok (.getfield 78, 3) := by decide +kernel
theorem dX10_keepAside_28 : decode cX10_keepAside 28 = .ok (.iconst 2, 1) := by decide +kernel
theorem dX10_keepAside_29 : decode cX10_keepAside 29 = .ok (.aload_n 0, 1) := by decide +kernel
theorem dX10_keepAside_30 : decode cX10_keepAside 30 = .ok (.getfield 41, 3) := by decide +kernel
theorem dX10_keepAside_33 : decode cX10_keepAside 33 = .ok (.iload_n 1, 1) := by decide +kernel
theorem dX10_keepAside_34 : decode cX10_keepAside 34 = .ok (.iaload, 1) := by decide +kernel
theorem dX10_keepAside_35 : decode cX10_keepAside 35 = .ok (.iastore, 1) := by decide +kernel
theorem dX10_keepAside_36 : decode cX10_keepAside 36 = .ok (.aload_n 0, 1) := by decide +kernel
theorem dX10_keepAside_37 : decode cX10_keepAside 37 = .ok (.getfield 78, 3) := by decide +kernel
theorem dX10_keepAside_40 : decode cX10_keepAside 40 = .ok (.iconst 3, 1) := by decide +kernel
theorem dX10_keepAside_41 : decode cX10_keepAside 41 = .ok (.aload_n 0, 1) := by decide +kernel
theorem dX10_keepAside_42 : decode cX10_keepAside 42 = .ok (.getfield 44, 3) := by decide +kernel
theorem dX10_keepAside_45 : decode cX10_keepAside 45 = .ok (.iload_n 1, 1) := by decide +kernel
theorem dX10_keepAside_46 : decode cX10_keepAside 46 = .ok (.iaload, 1) := by decide +kernel
theorem dX10_keepAside_47 : decode cX10_keepAside 47 = .ok (.iastore, 1) := by decide +kernel
theorem dX10_keepAside_48 : decode cX10_keepAside 48 = .ok (.aload_n 0, 1) := by decide +kernel
theorem dX10_keepAside_49 : decode cX10_keepAside 49 = .ok (.getfield 78, 3) := by decide +kernel
theorem dX10_keepAside_52 : decode cX10_keepAside 52 = .ok (.iconst 4, 1) := by decide +kernel
theorem dX10_keepAside_53 : decode cX10_keepAside 53 = .ok (.aload_n 0, 1) := by decide +kernel
theorem dX10_keepAside_54 : decode cX10_keepAside 54 = .ok (.getfield 47, 3) := by decide +kernel
theorem dX10_keepAside_57 : decode cX10_keepAside 57 = .ok (.iload_n 1, 1) := by decide +kernel
theorem dX10_keepAside_58 : decode cX10_keepAside 58 = .ok (.iaload, 1) := by decide +kernel
theorem dX10_keepAside_59 : decode cX10_keepAside 59 = .ok (.iastore, 1) := by decide +kernel
theorem dX10_keepAside_60 : decode cX10_keepAside 60 = .ok (.aload_n 0, 1) := by decide +kernel
theorem dX10_keepAside_61 : decode cX10_keepAside 61 = .ok (.getfield 78, 3) := by decide +kernel
theorem dX10_keepAside_64 : decode cX10_keepAside 64 = .ok (.iconst 5, 1) := by decide +kernel
theorem dX10_keepAside_65 : decode cX10_keepAside 65 = .ok (.aload_n 0, 1) := by decide +kernel
theorem dX10_keepAside_66 : decode cX10_keepAside 66 = .ok (.getfield 50, 3) := by decide +kernel
theorem dX10_keepAside_69 : decode cX10_keepAside 69 = .ok (.iload_n 1, 1) := by decide +kernel
theorem dX10_keepAside_70 : decode cX10_keepAside 70 = .ok (.iaload, 1) := by decide +kernel
theorem dX10_keepAside_71 : decode cX10_keepAside 71 = .ok (.iastore, 1) := by decide +kernel
theorem dX10_keepAside_72 : decode cX10_keepAside 72 = .ok (.aload_n 0, 1) := by decide +kernel
theorem dX10_keepAside_73 : decode cX10_keepAside 73 = .ok (.getfield 78, 3) := by decide +kernel
theorem dX10_keepAside_76 : decode cX10_keepAside 76 = .ok (.bipush 6, 2) := by decide +kernel
theorem dX10_keepAside_78 : decode cX10_keepAside 78 = .ok (.aload_n 0, 1) := by decide +kernel
theorem dX10_keepAside_79 : decode cX10_keepAside 79 = .ok (.getfield 53, 3) := by decide +kernel
theorem dX10_keepAside_82 : decode cX10_keepAside 82 = .ok (.iload_n 1, 1) := by decide +kernel
theorem dX10_keepAside_83 : decode cX10_keepAside 83 = .ok (.iaload, 1) := by decide +kernel
theorem dX10_keepAside_84 : decode cX10_keepAside 84 = .ok (.iastore, 1) := by decide +kernel
theorem dX10_keepAside_85 : decode cX10_keepAside 85 = .ok (.return_, 1) := by decide +kernel
theorem dX10_putBack_0 : decode cX10_putBack 0 = .ok (.aload_n 0, 1) := by decide +kernel
theorem dX10_putBack_1 : decode cX10_putBack 1 = .ok (.getfield 35, 3) := by decide +kernel
theorem dX10_putBack_4 : decode cX10_putBack 4 = .ok (.iload_n 1, 1) := by decide +kernel
theorem dX10_putBack_5 : decode cX10_putBack 5 = .ok (.aload_n 0, 1) := by decide +kernel
theorem dX10_putBack_6 : decode cX10_putBack 6 = .ok (.getfield 78, 3) := by decide +kernel
theorem dX10_putBack_9 : decode cX10_putBack 9 = .ok (.iconst 0, 1) := by decide +kernel
theorem dX10_putBack_10 : decode cX10_putBack 10 = .ok (.iaload, 1) := by decide +kernel
theorem dX10_putBack_11 : decode cX10_putBack 11 = .ok (.iastore, 1) := by decide +kernel
theorem dX10_putBack_12 : decode cX10_putBack 12 = .ok (.aload_n 0, 1) := by decide +kernel
theorem dX10_putBack_13 : decode cX10_putBack 13 = .ok (.getfield 38, 3) := by decide +kernel
theorem dX10_putBack_16 : decode cX10_putBack 16 = .ok (.iload_n 1, 1) := by decide +kernel
theorem dX10_putBack_17 : decode cX10_putBack 17 = .ok (.aload_n 0, 1) := by decide +kernel
theorem dX10_putBack_18 : decode cX10_putBack 18 = .ok (.getfield 78, 3) := by decide +kernel
theorem dX10_putBack_21 : decode cX10_putBack 21 = .ok (.iconst 1, 1) := by decide +kernel
theorem dX10_putBack_22 : decode cX10_putBack 22 = .ok (.iaload, 1) := by decide +kernel
theorem dX10_putBack_23 : decode cX10_putBack 23 = .ok (.iastore, 1) := by decide +kernel
theorem dX10_putBack_24 : decode cX10_putBack 24 = .ok (.aload_n 0, 1) := by decide +kernel
theorem dX10_putBack_25 : decode cX10_putBack 25 = .ok (.getfield 41, 3) := by decide +kernel
theorem dX10_putBack_28 : decode cX10_putBack 28 = .ok (.iload_n 1, 1) := by decide +kernel
theorem dX10_putBack_29 : decode cX10_putBack 29 = .ok (.aload_n 0, 1) := by decide +kernel
theorem dX10_putBack_30 : decode cX10_putBack 30 = .ok (.getfield 78, 3) := by decide +kernel
theorem dX10_putBack_33 : decode cX10_putBack 33 = .ok (.iconst 2, 1) := by decide +kernel
theorem dX10_putBack_34 : decode cX10_putBack 34 = .ok (.iaload, 1) := by decide +kernel
theorem dX10_putBack_35 : decode cX10_putBack 35 = .ok (.iastore, 1) := by decide +kernel
theorem dX10_putBack_36 : decode cX10_putBack 36 = .ok (.aload_n 0, 1) := by decide +kernel
theorem dX10_putBack_37 : decode cX10_putBack 37 = .ok (.getfield 44, 3) := by decide +kernel
theorem dX10_putBack_40 : decode cX10_putBack 40 = .ok (.iload_n 1, 1) := by decide +kernel
theorem dX10_putBack_41 : decode cX10_putBack 41 = .ok (.aload_n 0, 1) := by decide +kernel
theorem dX10_putBack_42 : decode cX10_putBack 42 = .ok (.getfield 78, 3) := by decide +kernel
theorem dX10_putBack_45 : decode cX10_putBack 45 = .ok (.iconst 3, 1) := by decide +kernel
theorem dX10_putBack_46 : decode cX10_putBack 46 = .ok (.iaload, 1) := by decide +kernel
theorem dX10_putBack_47 : decode cX10_putBack 47 = .ok (.iastore, 1) := by decide +kernel
theorem dX10_putBack_48 : decode cX10_putBack 48 = .ok (.aload_n 0, 1) := by decide +kernel
theorem dX10_putBack_49 : decode cX10_putBack 49 = .ok (.getfield 47, 3) := by decide +kernel
theorem dX10_putBack_52 : decode cX10_putBack 52 = .ok (.iload_n 1, 1) := by decide +kernel
theorem dX10_putBack_53 : decode cX10_putBack 53 = .ok (.aload_n 0, 1) := by decide +kernel
theorem dX10_putBack_54 : decode cX10_putBack 54 = .ok (.getfield 78, 3) := by decide +kernel
theorem dX10_putBack_57 : decode cX10_putBack 57 = .ok (.iconst 4, 1) := by decide +kernel
theorem dX10_putBack_58 : decode cX10_putBack 58 = .ok (.iaload, 1) := by decide +kernel
theorem dX10_putBack_59 : decode cX10_putBack 59 = .ok (.iastore, 1) := by decide +kernel
theorem dX10_putBack_60 : decode cX10_putBack 60 = .ok (.aload_n 0, 1) := by decide +kernel
theorem dX10_putBack_61 : decode cX10_putBack 61 = .ok (.getfield 50, 3) := by decide +kernel
theorem dX10_putBack_64 : decode cX10_putBack 64 = .ok (.iload_n 1, 1) := by decide +kernel
theorem dX10_putBack_65 : decode cX10_putBack 65 = .ok (.aload_n 0, 1) := by decide +kernel
theorem dX10_putBack_66 : decode cX10_putBack 66 = .ok (.getfield 78, 3) := by decide +kernel
theorem dX10_putBack_69 : decode cX10_putBack 69 = .ok (.iconst 5, 1) := by decide +kernel
theorem dX10_putBack_70 : decode cX10_putBack 70 = .ok (.iaload, 1) := by decide +kernel
theorem dX10_putBack_71 : decode cX10_putBack 71 = .ok (.iastore, 1) := by decide +kernel
theorem dX10_putBack_72 : decode cX10_putBack 72 = .ok (.aload_n 0, 1) := by decide +kernel
theorem dX10_putBack_73 : decode cX10_putBack 73 = .ok (.getfield 53, 3) := by decide +kernel
theorem dX10_putBack_76 : decode cX10_putBack 76 = .ok (.iload_n 1, 1) := by decide +kernel
theorem dX10_putBack_77 : decode cX10_putBack 77 = .ok (.aload_n 0, 1) := by decide +kernel
theorem dX10_putBack_78 : decode cX10_putBack 78 = .ok (.getfield 78, 3) := by decide +kernel
theorem dX10_putBack_81 : decode cX10_putBack 81 = .ok (.bipush 6, 2) := by decide +kernel
theorem dX10_putBack_83 : decode cX10_putBack 83 = .ok (.iaload, 1) := by decide +kernel
theorem dX10_putBack_84 : decode cX10_putBack 84 = .ok (.iastore, 1) := by decide +kernel
theorem dX10_putBack_85 : decode cX10_putBack 85 = .ok (.return_, 1) := by decide +kernel
theorem dX10_law_0 : decode cX10_law 0 = .ok (.aload_n 0, 1) := by decide +kernel
theorem dX10_law_1 : decode cX10_law 1 = .ok (.getfield 184, 3) := by decide +kernel
theorem dX10_law_4 : decode cX10_law 4 = .ok (.bipush 8, 2) := by decide +kernel
theorem dX10_law_6 : decode cX10_law 6 = .ok (.if_icmp .ge 10, 3) := by decide +kernel
theorem dX10_law_9 : decode cX10_law 9 = .ok (.aload_n 0, 1) := by decide +kernel
theorem dX10_law_10 : decode cX10_law 10 = .ok (.getfield 184, 3) := by decide +kernel
theorem dX10_law_13 : decode cX10_law 13 = .ok (.goto 5, 3) := by decide +kernel
theorem dX10_law_16 : decode cX10_law 16 = .ok (.bipush 7, 2) := by decide +kernel
theorem dX10_law_18 : decode cX10_law 18 = .ok (.istore_n 2, 1) := by decide +kernel
theorem dX10_law_19 : decode cX10_law 19 = .ok (.aload_n 0, 1) := by decide +kernel
theorem dX10_law_20 : decode cX10_law 20 = .ok (.iload_n 2, 1) := by decide +kernel
theorem dX10_law_21 : decode cX10_law 21 = .ok (.invokevirtual 187, 3) := by decide +kernel
theorem dX10_law_24 : decode cX10_law 24 = .ok (.aload_n 0, 1) := by decide +kernel
theorem dX10_law_25 : decode cX10_law 25 = .ok (.iload_n 2, 1) := by decide +kernel
theorem dX10_law_26 : decode cX10_law 26 = .ok (.invokevirtual 190, 3) := by decide +kernel
theorem dX10_law_29 : decode cX10_law 29 = .ok (.istore_n 3, 1) := by decide +kernel
theorem dX10_law_30 : decode cX10_law 30 = .ok (.aload_n 0, 1) := by decide +kernel
theorem dX10_law_31 : decode cX10_law 31 = .ok (.invokevirtual 193, 3) := by decide +kernel
theorem dX10_law_34 : decode cX10_law 34 = .ok (.istore 4, 2) := by decide +kernel
theorem dX10_law_36 : decode cX10_law 36 = .ok (.aload_n 0, 1) := by decide +kernel
theorem dX10_law_37 : decode cX10_law 37 = .ok (.iconst 0, 1) := by decide +kernel
theorem dX10_law_38 : decode cX10_law 38 = .ok (.putfield 143, 3) := by decide +kernel
theorem dX10_law_41 : decode cX10_law 41 = .ok (.iload_n 1, 1) := by decide +kernel
theorem dX10_law_42 : decode cX10_law 42 = .ok (.invokestatic 102, 3) := by decide +kernel
theorem dX10_law_45 : decode cX10_law 45 = .ok (.ifCond .eq 16, 3) := by decide +kernel
theorem dX10_law_48 : decode cX10_law 48 = .ok (.iload_n 3, 1) := by decide +kernel
theorem dX10_law_49 : decode cX10_law 49 = .ok (.ifCond .eq 12, 3) := by decide +kernel
theorem dX10_law_52 : decode cX10_law 52 = .ok (.aload_n 0, 1) := by decide +kernel
theorem dX10_law_53 : decode cX10_law 53 = .ok (.getfield 184, 3) := by decide +kernel
theorem dX10_law_56 : decode cX10_law 56 = .ok (.bipush 8, 2) := by decide +kernel
theorem dX10_law_58 : decode cX10_law 58 = .ok (.if_icmp .ne 35, 3) := by decide +kernel
theorem dX10_law_61 : decode cX10_law 61 = .ok (.aload_n 0, 1) := by decide +kernel
theorem dX10_law_62 : decode cX10_law 62 = .ok (.iload_n 2, 1) := by decide +kernel
theorem dX10_law_63 : decode cX10_law 63 = .ok (.invokevirtual 196, 3) := by decide +kernel
theorem dX10_law_66 : decode cX10_law 66 = .ok (.iload_n 1, 1) := by decide +kernel
theorem dX10_law_67 : decode cX10_law 67 = .ok (.invokestatic 102, 3) := by decide +kernel
theorem dX10_law_70 : decode cX10_law 70 = .ok (.ifCond .ne 8, 3) := by decide +kernel
theorem dX10_law_73 : decode cX10_law 73 = .ok (.ldc 106, 2) := by decide +kernel
theorem dX10_law_75 : decode cX10_law 75 = .ok (.goto 17, 3) := by decide +kernel
theorem dX10_law_78 : decode cX10_law 78 = .ok (.iload_n 3, 1) := by decide +kernel
theorem dX10_law_79 : decode cX10_law 79 = .ok (.ifCond .ne 11, 3) := by decide +kernel
theorem dX10_law_82 : decode cX10_law 82 = .ok (.bipush (-100), 2) := by decide +kernel
theorem dX10_law_84 : decode cX10_law 84 = .ok (.iload 4, 2) := by decide +kernel
theorem dX10_law_86 : decode cX10_law 86 = .ok (.isub, 1) := by decide +kernel
theorem dX10_law_87 : decode cX10_law 87 = .ok (.goto 5, 3) := by decide +kernel
theorem dX10_law_90 : decode cX10_law 90 = .ok (.ldc 110, 2) := by decide +kernel
theorem dX10_law_92 : decode cX10_law 92 = .ok (.ireturn, 1) := by decide +kernel
theorem dX10_law_93 : decode cX10_law 93 = .ok (.aload_n 0, 1) := by decide +kernel
theorem dX10_law_94 : decode cX10_law 94 = .ok (.getfield 32, 3) := by decide +kernel
theorem dX10_law_97 : decode cX10_law 97 = .ok (.iload_n 2, 1) := by decide +kernel
theorem dX10_law_98 : decode cX10_law 98 = .ok (.iload_n 1, 1) := by decide +kernel
theorem dX10_law_99 : decode cX10_law 99 = .ok (.iastore, 1) := by decide +kernel
theorem dX10_law_100 : decode cX10_law 100 = .ok (.aload_n 0, 1) := by decide +kernel
theorem dX10_law_101 : decode cX10_law 101 = .ok (.dup, 1) := by decide +kernel
theorem dX10_law_102 : decode cX10_law 102 = .ok (.getfield 184, 3) := by decide +kernel
theorem dX10_law_105 : decode cX10_law 105 = .ok (.iconst 1, 1) := by decide +kernel
theorem dX10_law_106 : decode cX10_law 106 = .ok (.iadd, 1) := by decide +kernel
theorem dX10_law_107 : decode cX10_law 107 = .ok (.putfield 184, 3) := by decide +kernel
theorem dX10_law_110 : decode cX10_law 110 = .ok (.iload_n 2, 1) := by decide +kernel
theorem dX10_law_111 : decode cX10_law 111 = .ok (.ireturn, 1) := by decide +kernel
theorem dX10_lawOf_0 : decode cX10_lawOf 0 = .ok (.iconst (-1), 1) := by decide +kernel
theorem dX10_lawOf_1 : decode cX10_lawOf 1 = .ok (.istore_n 2, 1) := by decide +kernel
theorem dX10_lawOf_2 : decode cX10_lawOf 2 = .ok (.iconst 0, 1) := by decide +kernel
theorem dX10_lawOf_3 : decode cX10_lawOf 3 = .ok (.istore_n 3, 1) := by decide +kernel
theorem dX10_lawOf_4 : decode cX10_lawOf 4 = .ok (.iload_n 3, 1) := by decide +kernel
theorem dX10_lawOf_5 : decode cX10_lawOf 5 = .ok (.aload_n 0, 1) := by decide +kernel
theorem dX10_lawOf_6 : decode cX10_lawOf 6 = .ok (.getfield 184, 3) := by decide +kernel
theorem dX10_lawOf_9 : decode cX10_lawOf 9 = .ok (.if_icmp .ge 40, 3) := by decide +kernel
theorem dX10_lawOf_12 : decode cX10_lawOf 12 = .ok (.aload_n 0, 1) := by decide +kernel
theorem dX10_lawOf_13 : decode cX10_lawOf 13 = .ok (.getfield 32, 3) := by decide +kernel
theorem dX10_lawOf_16 : decode cX10_lawOf 16 = .ok (.iload_n 3, 1) := by decide +kernel
theorem dX10_lawOf_17 : decode cX10_lawOf 17 = .ok (.iaload, 1) := by decide +kernel
theorem dX10_lawOf_18 : decode cX10_lawOf 18 = .ok (.iload_n 1, 1) := by decide +kernel
theorem dX10_lawOf_19 : decode cX10_lawOf 19 = .ok (.if_icmp .gt 24, 3) := by decide +kernel
theorem dX10_lawOf_22 : decode cX10_lawOf 22 = .ok (.iload_n 2, 1) := by decide +kernel
theorem dX10_lawOf_23 : decode cX10_lawOf 23 = .ok (.ifCond .lt 18, 3) := by decide +kernel
theorem dX10_lawOf_26 : decode cX10_lawOf 26 = .ok (.aload_n 0, 1) := by decide +kernel
theorem dX10_lawOf_27 : decode cX10_lawOf 27 = .ok (.getfield 32, 3) := by decide +kernel
theorem dX10_lawOf_30 : decode cX10_lawOf 30 = .ok (.iload_n 3, 1) := by decide +kernel
theorem dX10_lawOf_31 : decode cX10_lawOf 31 = .ok (.iaload, 1) := by decide +kernel
theorem dX10_lawOf_32 : decode cX10_lawOf 32 = .ok (.aload_n 0, 1) := by decide +kernel
theorem dX10_lawOf_33 : decode cX10_lawOf 33 = .ok (.getfield 32, 3) := by decide +kernel
theorem dX10_lawOf_36 : decode cX10_lawOf 36 = .ok (.iload_n 2, 1) := by decide +kernel
theorem dX10_lawOf_37 : decode cX10_lawOf 37 = .ok (.iaload, 1) := by decide +kernel
theorem dX10_lawOf_38 : decode cX10_lawOf 38 = .ok (.if_icmp .lt 5, 3) := by decide +kernel
theorem dX10_lawOf_41 : decode cX10_lawOf 41 = .ok (.iload_n 3, 1) := by decide +kernel
theorem dX10_lawOf_42 : decode cX10_lawOf 42 = .ok (.istore_n 2, 1) := by decide +kernel
theorem dX10_lawOf_43 : decode cX10_lawOf 43 = .ok (.iinc 3 1, 3) := by decide +kernel
theorem dX10_lawOf_46 : decode cX10_lawOf 46 = .ok (.goto (-42), 3) := by decide +kernel
theorem dX10_lawOf_49 : decode cX10_lawOf 49 = .ok (.iload_n 2, 1) := by decide +kernel
theorem dX10_lawOf_50 : decode cX10_lawOf 50 = .ok (.ireturn, 1) := by decide +kernel
theorem dX10_inForce_0 : decode cX10_inForce 0 = .ok (.iload_n 1, 1) := by decide +kernel
theorem dX10_inForce_1 : decode cX10_inForce 1 = .ok (.invokestatic 102, 3) := by decide +kernel
theorem dX10_inForce_4 : decode cX10_inForce 4 = .ok (.ifCond .ne 6, 3) := by decide +kernel
theorem dX10_inForce_7 : decode cX10_inForce 7 = .ok (.ldc 106, 2) := by decide +kernel
theorem dX10_inForce_9 : decode cX10_inForce 9 = .ok (.ireturn, 1) := by decide +kernel
theorem dX10_inForce_10 : decode cX10_inForce 10 = .ok (.aload_n 0, 1) := by decide +kernel
theorem dX10_inForce_11 : decode cX10_inForce 11 = .ok (.iload_n 1, 1) := by decide +kernel
theorem dX10_inForce_12 : decode cX10_inForce 12 = .ok (.invokevirtual 199, 3) := by decide +kernel
theorem dX10_inForce_15 : decode cX10_inForce 15 = .ok (.istore_n 2, 1) := by decide +kernel
theorem dX10_inForce_16 : decode cX10_inForce 16 = .ok (.iload_n 2, 1) := by decide +kernel
theorem dX10_inForce_17 : decode cX10_inForce 17 = .ok (.ifCond .ge 8, 3) := by decide +kernel
theorem dX10_inForce_20 : decode cX10_inForce 20 = .ok (.ldc 115, 2) := by decide +kernel
theorem dX10_inForce_22 : decode cX10_inForce 22 = .ok (.goto 4, 3) := by decide +kernel
theorem dX10_inForce_25 : decode cX10_inForce 25 = .ok (.iload_n 2, 1) := by decide +kernel
theorem dX10_inForce_26 : decode cX10_inForce 26 = .ok (.ireturn, 1) := by decide +kernel
theorem dX10_sumOf_0 : decode cX10_sumOf 0 = .ok (.aload_n 0, 1) := by decide +kernel
theorem dX10_sumOf_1 : decode cX10_sumOf 1 = .ok (.iload_n 1, 1) := by decide +kernel
theorem dX10_sumOf_2 : decode cX10_sumOf 2 = .ok (.invokevirtual 199, 3) := by decide +kernel
theorem dX10_sumOf_5 : decode cX10_sumOf 5 = .ok (.istore 4, 2) := by decide +kernel
theorem dX10_sumOf_7 : decode cX10_sumOf 7 = .ok (.aload_n 0, 1) := by decide +kernel
theorem dX10_sumOf_8 : decode cX10_sumOf 8 = .ok (.iload_n 3, 1) := by decide +kernel
theorem dX10_sumOf_9 : decode cX10_sumOf 9 = .ok (.iload_n 1, 1) := by decide +kernel
theorem dX10_sumOf_10 : decode cX10_sumOf 10 = .ok (.invokevirtual 130, 3) := by decide +kernel
theorem dX10_sumOf_13 : decode cX10_sumOf 13 = .ok (.istore 5, 2) := by decide +kernel
theorem dX10_sumOf_15 : decode cX10_sumOf 15 = .ok (.iload 4, 2) := by decide +kernel
theorem dX10_sumOf_17 : decode cX10_sumOf 17 = .ok (.ifCond .lt 8, 3) := by decide +kernel
theorem dX10_sumOf_20 : decode cX10_sumOf 20 = .ok (.iload 5, 2) := by decide +kernel
theorem dX10_sumOf_22 : decode cX10_sumOf 22 = .ok (.ifCond .ne 5, 3) := by decide +kernel
theorem dX10_sumOf_25 : decode cX10_sumOf 25 = .ok (.iconst 0, 1) := by decide +kernel
theorem dX10_sumOf_26 : decode cX10_sumOf 26 = .ok (.ireturn, 1) := by decide +kernel
theorem dX10_sumOf_27 : decode cX10_sumOf 27 = .ok (.aload_n 0, 1) := by decide +kernel
theorem dX10_sumOf_28 : decode cX10_sumOf 28 = .ok (.iload_n 3, 1) := by decide +kernel
theorem dX10_sumOf_29 : decode cX10_sumOf 29 = .ok (.iload_n 1, 1) := by decide +kernel
theorem dX10_sumOf_30 : decode cX10_sumOf 30 = .ok (.invokevirtual 126, 3) := by decide +kernel
theorem dX10_sumOf_33 : decode cX10_sumOf 33 = .ok (.istore 6, 2) := by decide +kernel
theorem dX10_sumOf_35 : decode cX10_sumOf 35 = .ok (.iload 6, 2) := by decide +kernel
theorem dX10_sumOf_37 : decode cX10_sumOf 37 = .ok (.aload_n 0, 1) := by decide +kernel
theorem dX10_sumOf_38 : decode cX10_sumOf 38 = .ok (.iload_n 3, 1) := by decide +kernel
theorem dX10_sumOf_39 : decode cX10_sumOf 39 = .ok (.iload_n 1, 1) := by decide +kernel
theorem dX10_sumOf_40 : decode cX10_sumOf 40 = .ok (.invokevirtual 133, 3) := by decide +kernel
theorem dX10_sumOf_43 : decode cX10_sumOf 43 = .ok (.iload 6, 2) := by decide +kernel
theorem dX10_sumOf_45 : decode cX10_sumOf 45 = .ok (.aload_n 0, 1) := by decide +kernel
theorem dX10_sumOf_46 : decode cX10_sumOf 46 = .ok (.getfield 47, 3) := by decide +kernel
theorem dX10_sumOf_49 : decode cX10_sumOf 49 = .ok (.iload 4, 2) := by decide +kernel
theorem dX10_sumOf_51 : decode cX10_sumOf 51 = .ok (.iaload, 1) := by decide +kernel
theorem dX10_sumOf_52 : decode cX10_sumOf 52 = .ok (.imul, 1) := by decide +kernel
theorem dX10_sumOf_53 : decode cX10_sumOf 53 = .ok (.bipush 100, 2) := by decide +kernel
theorem dX10_sumOf_55 : decode cX10_sumOf 55 = .ok (.idiv, 1) := by decide +kernel
theorem dX10_sumOf_56 : decode cX10_sumOf 56 = .ok (.imul, 1) := by decide +kernel
theorem dX10_sumOf_57 : decode cX10_sumOf 57 = .ok (.isub, 1) := by decide +kernel
theorem dX10_sumOf_58 : decode cX10_sumOf 58 = .ok (.istore 6, 2) := by decide +kernel
theorem dX10_sumOf_60 : decode cX10_sumOf 60 = .ok (.iload 6, 2) := by decide +kernel
theorem dX10_sumOf_62 : decode cX10_sumOf 62 = .ok (.ifCond .ge 7, 3) := by decide +kernel
theorem dX10_sumOf_65 : decode cX10_sumOf 65 = .ok (.iconst 0, 1) := by decide +kernel
theorem dX10_sumOf_66 : decode cX10_sumOf 66 = .ok (.goto 5, 3) := by decide +kernel
theorem dX10_sumOf_69 : decode cX10_sumOf 69 = .ok (.iload 6, 2) := by decide +kernel
theorem dX10_sumOf_71 : decode cX10_sumOf 71 = .ok (.istore 6, 2) := by decide +kernel
theorem dX10_sumOf_73 : decode cX10_sumOf 73 = .ok (.aload_n 0, 1) := by decide +kernel
theorem dX10_sumOf_74 : decode cX10_sumOf 74 = .ok (.getfield 38, 3) := by decide +kernel
theorem dX10_sumOf_77 : decode cX10_sumOf 77 = .ok (.iload 4, 2) := by decide +kernel
theorem dX10_sumOf_79 : decode cX10_sumOf 79 = .ok (.iaload, 1) := by decide +kernel
theorem dX10_sumOf_80 : decode cX10_sumOf 80 = .ok (.ifCond .lt 15, 3) := by decide +kernel
theorem dX10_sumOf_83 : decode cX10_sumOf 83 = .ok (.iload 6, 2) := by decide +kernel
theorem dX10_sumOf_85 : decode cX10_sumOf 85 = .ok (.aload_n 0, 1) := by decide +kernel
theorem dX10_sumOf_86 : decode cX10_sumOf 86 = .ok (.getfield 38, 3) := by decide +kernel
theorem dX10_sumOf_89 : decode cX10_sumOf 89 = .ok (.iload 4, 2) := by decide +kernel
theorem dX10_sumOf_91 : decode cX10_sumOf 91 = .ok (.iaload, 1) := by decide +kernel
theorem dX10_sumOf_92 : decode cX10_sumOf 92 = .ok (.if_icmp .ge 8, 3) := by decide +kernel
theorem dX10_sumOf_95 : decode cX10_sumOf 95 = .ok (.iload 6, 2) := by decide +kernel
theorem dX10_sumOf_97 : decode cX10_sumOf 97 = .ok (.goto 10, 3) := by decide +kernel
theorem dX10_sumOf_100 : decode cX10_sumOf 100 = .ok (.aload_n 0, 1) := by decide +kernel
theorem dX10_sumOf_101 : decode cX10_sumOf 101 = .ok (.getfield 38, 3) := by decide +kernel
theorem dX10_sumOf_104 : decode cX10_sumOf 104 = .ok (.iload 4, 2) := by decide +kernel
theorem dX10_sumOf_106 : decode cX10_sumOf 106 = .ok (.iaload, 1) := by decide +kernel
theorem dX10_sumOf_107 : decode cX10_sumOf 107 = .ok (.istore 7, 2) := by decide +kernel
theorem dX10_sumOf_109 : decode cX10_sumOf 109 = .ok (.iload 7, 2) := by decide +kernel
theorem dX10_sumOf_111 : decode cX10_sumOf 111 = .ok (.aload_n 0, 1) := by decide +kernel
theorem dX10_sumOf_112 : decode cX10_sumOf 112 = .ok (.getfield 35, 3) := by decide +kernel
theorem dX10_sumOf_115 : decode cX10_sumOf 115 = .ok (.iload 4, 2) := by decide +kernel
theorem dX10_sumOf_117 : decode cX10_sumOf 117 = .ok (.iaload, 1) := by decide +kernel
theorem dX10_sumOf_118 : decode cX10_sumOf 118 = .ok (.imul, 1) := by decide +kernel
theorem dX10_sumOf_119 : decode cX10_sumOf 119 = .ok (.bipush 100, 2) := by decide +kernel
theorem dX10_sumOf_121 : decode cX10_sumOf 121 = .ok (.idiv, 1) := by decide +kernel
theorem dX10_sumOf_122 : decode cX10_sumOf 122 = .ok (.iload 6, 2) := by decide +kernel
theorem dX10_sumOf_124 : decode cX10_sumOf 124 = .ok (.iload 7, 2) := by decide +kernel
theorem dX10_sumOf_126 : decode cX10_sumOf 126 = .ok (.isub, 1) := by decide +kernel
theorem dX10_sumOf_127 : decode cX10_sumOf 127 = .ok (.aload_n 0, 1) := by decide +kernel
theorem dX10_sumOf_128 : decode cX10_sumOf 128 = .ok (.getfield 41, 3) := by decide +kernel
theorem dX10_sumOf_131 : decode cX10_sumOf 131 = .ok (.iload 4, 2) := by decide +kernel
theorem dX10_sumOf_133 : decode cX10_sumOf 133 = .ok (.iaload, 1) := by decide +kernel
theorem dX10_sumOf_134 : decode cX10_sumOf 134 = .ok (.imul, 1) := by decide +kernel
theorem dX10_sumOf_135 : decode cX10_sumOf 135 = .ok (.bipush 100, 2) := by decide +kernel
theorem dX10_sumOf_137 : decode cX10_sumOf 137 = .ok (.idiv, 1) := by decide +kernel
theorem dX10_sumOf_138 : decode cX10_sumOf 138 = .ok (.iadd, 1) := by decide +kernel
theorem dX10_sumOf_139 : decode cX10_sumOf 139 = .ok (.istore 8, 2) := by decide +kernel
theorem dX10_sumOf_141 : decode cX10_sumOf 141 = .ok (.iload 8, 2) := by decide +kernel
theorem dX10_sumOf_143 : decode cX10_sumOf 143 = .ok (.iload 5, 2) := by decide +kernel
theorem dX10_sumOf_145 : decode cX10_sumOf 145 = .ok (.iconst 1, 1) := by decide +kernel
theorem dX10_sumOf_146 : decode cX10_sumOf 146 = .ok (.if_icmp .ne 8, 3) := by decide +kernel
theorem dX10_sumOf_149 : decode cX10_sumOf 149 = .ok (.bipush 100, 2) := by decide +kernel
theorem dX10_sumOf_151 : decode cX10_sumOf 151 = .ok (.goto 30, 3) := by decide +kernel
theorem dX10_sumOf_154 : decode cX10_sumOf 154 = .ok (.iload 5, 2) := by decide +kernel
theorem dX10_sumOf_156 : decode cX10_sumOf 156 = .ok (.iconst 2, 1) := by decide +kernel
theorem dX10_sumOf_157 : decode cX10_sumOf 157 = .ok (.if_icmp .ne 9, 3) := by decide +kernel
theorem dX10_sumOf_160 : decode cX10_sumOf 160 = .ok (.sipush 150, 3) := by decide +kernel
theorem dX10_sumOf_163 : decode cX10_sumOf 163 = .ok (.goto 18, 3) := by decide +kernel
theorem dX10_sumOf_166 : decode cX10_sumOf 166 = .ok (.iload 5, 2) := by decide +kernel
theorem dX10_sumOf_168 : decode cX10_sumOf 168 = .ok (.iconst 3, 1) := by decide +kernel
theorem dX10_sumOf_169 : decode cX10_sumOf 169 = .ok (.if_icmp .ne 9, 3) := by decide +kernel
theorem dX10_sumOf_172 : decode cX10_sumOf 172 = .ok (.sipush 180, 3) := by decide +kernel
theorem dX10_sumOf_175 : decode cX10_sumOf 175 = .ok (.goto 6, 3) := by decide +kernel
theorem dX10_sumOf_178 : decode cX10_sumOf 178 = .ok (.sipush 200, 3) := by decide +kernel
theorem dX10_sumOf_181 : decode cX10_sumOf 181 = .ok (.imul, 1) := by decide +kernel
theorem dX10_sumOf_182 : decode cX10_sumOf 182 = .ok (.bipush 100, 2) := by decide +kernel
theorem dX10_sumOf_184 : decode cX10_sumOf 184 = .ok (.idiv, 1) := by decide +kernel
theorem dX10_sumOf_185 : decode cX10_sumOf 185 = .ok (.istore 8, 2) := by decide +kernel
theorem dX10_sumOf_187 : decode cX10_sumOf 187 = .ok (.iload 8, 2) := by decide +kernel
theorem dX10_sumOf_189 : decode cX10_sumOf 189 = .ok (.iload_n 2, 1) := by decide +kernel
theorem dX10_sumOf_190 : decode cX10_sumOf 190 = .ok (.iload 8, 2) := by decide +kernel
theorem dX10_sumOf_192 : decode cX10_sumOf 192 = .ok (.aload_n 0, 1) := by decide +kernel
theorem dX10_sumOf_193 : decode cX10_sumOf 193 = .ok (.getfield 44, 3) := by decide +kernel
theorem dX10_sumOf_196 : decode cX10_sumOf 196 = .ok (.iload 4, 2) := by decide +kernel
theorem dX10_sumOf_198 : decode cX10_sumOf 198 = .ok (.iaload, 1) := by decide +kernel
theorem dX10_sumOf_199 : decode cX10_sumOf 199 = .ok (.imul, 1) := by decide +kernel
theorem dX10_sumOf_200 : decode cX10_sumOf 200 = .ok (.bipush 100, 2) := by decide +kernel
theorem dX10_sumOf_202 : decode cX10_sumOf 202 = .ok (.idiv, 1) := by decide +kernel
theorem dX10_sumOf_203 : decode cX10_sumOf 203 = .ok (.imul, 1) := by decide +kernel
theorem dX10_sumOf_204 : decode cX10_sumOf 204 = .ok (.isub, 1) := by decide +kernel
theorem dX10_sumOf_205 : decode cX10_sumOf 205 = .ok (.istore 8, 2) := by decide +kernel
theorem dX10_sumOf_207 : decode cX10_sumOf 207 = .ok (.iload 8, 2) := by decide +kernel
theorem dX10_sumOf_209 : decode cX10_sumOf 209 = .ok (.aload_n 0, 1) := by decide +kernel
theorem dX10_sumOf_210 : decode cX10_sumOf 210 = .ok (.getfield 50, 3) := by decide +kernel
theorem dX10_sumOf_213 : decode cX10_sumOf 213 = .ok (.iload 4, 2) := by decide +kernel
theorem dX10_sumOf_215 : decode cX10_sumOf 215 = .ok (.iaload, 1) := by decide +kernel
theorem dX10_sumOf_216 : decode cX10_sumOf 216 = .ok (.if_icmp .ge 13, 3) := by decide +kernel
theorem dX10_sumOf_219 : decode cX10_sumOf 219 = .ok (.aload_n 0, 1) := by decide +kernel
theorem dX10_sumOf_220 : decode cX10_sumOf 220 = .ok (.getfield 50, 3) := by decide +kernel
theorem dX10_sumOf_223 : decode cX10_sumOf 223 = .ok (.iload 4, 2) := by decide +kernel
theorem dX10_sumOf_225 : decode cX10_sumOf 225 = .ok (.iaload, 1) := by decide +kernel
theorem dX10_sumOf_226 : decode cX10_sumOf 226 = .ok (.goto 5, 3) := by decide +kernel
theorem dX10_sumOf_229 : decode cX10_sumOf 229 = .ok (.iload 8, 2) := by decide +kernel
theorem dX10_sumOf_231 : decode cX10_sumOf 231 = .ok (.istore 8, 2) := by decide +kernel
theorem dX10_sumOf_233 : decode cX10_sumOf 233 = .ok (.aload_n 0, 1) := by decide +kernel
theorem dX10_sumOf_234 : decode cX10_sumOf 234 = .ok (.getfield 53, 3) := by decide +kernel
theorem dX10_sumOf_237 : decode cX10_sumOf 237 = .ok (.iload 4, 2) := by decide +kernel
theorem dX10_sumOf_239 : decode cX10_sumOf 239 = .ok (.iaload, 1) := by decide +kernel
theorem dX10_sumOf_240 : decode cX10_sumOf 240 = .ok (.ifCond .lt 25, 3) := by decide +kernel
theorem dX10_sumOf_243 : decode cX10_sumOf 243 = .ok (.iload 8, 2) := by decide +kernel
theorem dX10_sumOf_245 : decode cX10_sumOf 245 = .ok (.aload_n 0, 1) := by decide +kernel
theorem dX10_sumOf_246 : decode cX10_sumOf 246 = .ok (.getfield 53, 3) := by decide +kernel
theorem dX10_sumOf_249 : decode cX10_sumOf 249 = .ok (.iload 4, 2) := by decide +kernel
theorem dX10_sumOf_251 : decode cX10_sumOf 251 = .ok (.iaload, 1) := by decide +kernel
theorem dX10_sumOf_252 : decode cX10_sumOf 252 = .ok (.if_icmp .le 13, 3) := by decide +kernel
theorem dX10_sumOf_255 : decode cX10_sumOf 255 = .ok (.aload_n 0, 1) := by decide +kernel
theorem dX10_sumOf_256 : decode cX10_sumOf 256 = .ok (.getfield 53, 3) := by decide +kernel
theorem dX10_sumOf_259 : decode cX10_sumOf 259 = .ok (.iload 4, 2) := by decide +kernel
theorem dX10_sumOf_261 : decode cX10_sumOf 261 = .ok (.iaload, 1) := by decide +kernel
theorem dX10_sumOf_262 : decode cX10_sumOf 262 = .ok (.goto 5, 3) := by decide +kernel
theorem dX10_sumOf_265 : decode cX10_sumOf 265 = .ok (.iload 8, 2) := by decide +kernel
theorem dX10_sumOf_267 : decode cX10_sumOf 267 = .ok (.ireturn, 1) := by decide +kernel
theorem dX10_sum_0 : decode cX10_sum 0 = .ok (.iload_n 1, 1) := by decide +kernel
theorem dX10_sum_1 : decode cX10_sum 1 = .ok (.invokestatic 102, 3) := by decide +kernel
theorem dX10_sum_4 : decode cX10_sum 4 = .ok (.ifCond .eq 31, 3) := by decide +kernel
theorem dX10_sum_7 : decode cX10_sum 7 = .ok (.iload_n 2, 1) := by decide +kernel
theorem dX10_sum_8 : decode cX10_sum 8 = .ok (.iconst 0, 1) := by decide +kernel
theorem dX10_sum_9 : decode cX10_sum 9 = .ok (.bipush 7, 2) := by decide +kernel
theorem dX10_sum_11 : decode cX10_sum 11 = .ok (.invokestatic 90, 3) := by decide +kernel
theorem dX10_sum_14 : decode cX10_sum 14 = .ok (.ifCond .eq 21, 3) := by decide +kernel
theorem dX10_sum_17 : decode cX10_sum 17 = .ok (.aload_n 0, 1) := by decide +kernel
theorem dX10_sum_18 : decode cX10_sum 18 = .ok (.iload_n 3, 1) := by decide +kernel
theorem dX10_sum_19 : decode cX10_sum 19 = .ok (.invokevirtual 123, 3) := by decide +kernel
theorem dX10_sum_22 : decode cX10_sum 22 = .ok (.ifCond .eq 13, 3) := by decide +kernel
theorem dX10_sum_25 : decode cX10_sum 25 = .ok (.aload_n 0, 1) := by decide +kernel
theorem dX10_sum_26 : decode cX10_sum 26 = .ok (.iload_n 1, 1) := by decide +kernel
theorem dX10_sum_27 : decode cX10_sum 27 = .ok (.iload_n 2, 1) := by decide +kernel
theorem dX10_sum_28 : decode cX10_sum 28 = .ok (.iload_n 3, 1) := by decide +kernel
theorem dX10_sum_29 : decode cX10_sum 29 = .ok (.invokevirtual 203, 3) := by decide +kernel
theorem dX10_sum_32 : decode cX10_sum 32 = .ok (.goto 5, 3) := by decide +kernel
theorem dX10_sum_35 : decode cX10_sum 35 = .ok (.ldc 106, 2) := by decide +kernel
theorem dX10_sum_37 : decode cX10_sum 37 = .ok (.ireturn, 1) := by decide +kernel
theorem dX10_dueOf_0 : decode cX10_dueOf 0 = .ok (.aload_n 0, 1) := by decide +kernel
theorem dX10_dueOf_1 : decode cX10_dueOf 1 = .ok (.getfield 28, 3) := by decide +kernel
theorem dX10_dueOf_4 : decode cX10_dueOf 4 = .ok (.iload_n 1, 1) := by decide +kernel
theorem dX10_dueOf_5 : decode cX10_dueOf 5 = .ok (.baload, 1) := by decide +kernel
theorem dX10_dueOf_6 : decode cX10_dueOf 6 = .ok (.ifCond .eq 5, 3) := by decide +kernel
theorem dX10_dueOf_9 : decode cX10_dueOf 9 = .ok (.iconst 0, 1) := by decide +kernel
theorem dX10_dueOf_10 : decode cX10_dueOf 10 = .ok (.ireturn, 1) := by decide +kernel
theorem dX10_dueOf_11 : decode cX10_dueOf 11 = .ok (.aload_n 0, 1) := by decide +kernel
theorem dX10_dueOf_12 : decode cX10_dueOf 12 = .ok (.iload_n 1, 1) := by decide +kernel
theorem dX10_dueOf_13 : decode cX10_dueOf 13 = .ok (.aload_n 0, 1) := by decide +kernel
theorem dX10_dueOf_14 : decode cX10_dueOf 14 = .ok (.iload_n 1, 1) := by decide +kernel
theorem dX10_dueOf_15 : decode cX10_dueOf 15 = .ok (.iconst 0, 1) := by decide +kernel
theorem dX10_dueOf_16 : decode cX10_dueOf 16 = .ok (.invokevirtual 139, 3) := by decide +kernel
theorem dX10_dueOf_19 : decode cX10_dueOf 19 = .ok (.iload_n 3, 1) := by decide +kernel
theorem dX10_dueOf_20 : decode cX10_dueOf 20 = .ok (.invokevirtual 203, 3) := by decide +kernel
theorem dX10_dueOf_23 : decode cX10_dueOf 23 = .ok (.istore 4, 2) := by decide +kernel
theorem dX10_dueOf_25 : decode cX10_dueOf 25 = .ok (.aload_n 0, 1) := by decide +kernel
theorem dX10_dueOf_26 : decode cX10_dueOf 26 = .ok (.iload_n 1, 1) := by decide +kernel
theorem dX10_dueOf_27 : decode cX10_dueOf 27 = .ok (.aload_n 0, 1) := by decide +kernel
theorem dX10_dueOf_28 : decode cX10_dueOf 28 = .ok (.iload_n 1, 1) := by decide +kernel
theorem dX10_dueOf_29 : decode cX10_dueOf 29 = .ok (.iconst 1, 1) := by decide +kernel
theorem dX10_dueOf_30 : decode cX10_dueOf 30 = .ok (.invokevirtual 139, 3) := by decide +kernel
theorem dX10_dueOf_33 : decode cX10_dueOf 33 = .ok (.iload_n 3, 1) := by decide +kernel
theorem dX10_dueOf_34 : decode cX10_dueOf 34 = .ok (.invokevirtual 203, 3) := by decide +kernel
theorem dX10_dueOf_37 : decode cX10_dueOf 37 = .ok (.istore 5, 2) := by decide +kernel
theorem dX10_dueOf_39 : decode cX10_dueOf 39 = .ok (.iload 4, 2) := by decide +kernel
theorem dX10_dueOf_41 : decode cX10_dueOf 41 = .ok (.iload 5, 2) := by decide +kernel
theorem dX10_dueOf_43 : decode cX10_dueOf 43 = .ok (.if_icmp .ge 7, 3) := by decide +kernel
theorem dX10_dueOf_46 : decode cX10_dueOf 46 = .ok (.iconst 1, 1) := by decide +kernel
theorem dX10_dueOf_47 : decode cX10_dueOf 47 = .ok (.goto 4, 3) := by decide +kernel
theorem dX10_dueOf_50 : decode cX10_dueOf 50 = .ok (.iconst 0, 1) := by decide +kernel
theorem dX10_dueOf_51 : decode cX10_dueOf 51 = .ok (.iload_n 2, 1) := by decide +kernel
theorem dX10_dueOf_52 : decode cX10_dueOf 52 = .ok (.iconst 1, 1) := by decide +kernel
theorem dX10_dueOf_53 : decode cX10_dueOf 53 = .ok (.if_icmp .ne 7, 3) := by decide +kernel
theorem dX10_dueOf_56 : decode cX10_dueOf 56 = .ok (.iconst 1, 1) := by decide +kernel
theorem dX10_dueOf_57 : decode cX10_dueOf 57 = .ok (.goto 4, 3) := by decide +kernel
theorem dX10_dueOf_60 : decode cX10_dueOf 60 = .ok (.iconst 0, 1) := by decide +kernel
theorem dX10_dueOf_61 : decode cX10_dueOf 61 = .ok (.if_icmp .ne 8, 3) := by decide +kernel
theorem dX10_dueOf_64 : decode cX10_dueOf 64 = .ok (.iload 5, 2) := by decide +kernel
theorem dX10_dueOf_66 : decode cX10_dueOf 66 = .ok (.goto 5, 3) := by decide +kernel
theorem dX10_dueOf_69 : decode cX10_dueOf 69 = .ok (.iload 4, 2) := by decide +kernel
theorem dX10_dueOf_71 : decode cX10_dueOf 71 = .ok (.ireturn, 1) := by decide +kernel
theorem dX10_isSide_0 : decode cX10_isSide 0 = .ok (.iload_n 0, 1) := by decide +kernel
theorem dX10_isSide_1 : decode cX10_isSide 1 = .ok (.iconst 0, 1) := by decide +kernel
theorem dX10_isSide_2 : decode cX10_isSide 2 = .ok (.iconst 1, 1) := by decide +kernel
theorem dX10_isSide_3 : decode cX10_isSide 3 = .ok (.invokestatic 90, 3) := by decide +kernel
theorem dX10_isSide_6 : decode cX10_isSide 6 = .ok (.ireturn, 1) := by decide +kernel
theorem dX10_due_0 : decode cX10_due 0 = .ok (.iload_n 1, 1) := by decide +kernel
theorem dX10_due_1 : decode cX10_due 1 = .ok (.invokestatic 102, 3) := by decide +kernel
theorem dX10_due_4 : decode cX10_due 4 = .ok (.ifCond .eq 28, 3) := by decide +kernel
theorem dX10_due_7 : decode cX10_due 7 = .ok (.iload_n 2, 1) := by decide +kernel
theorem dX10_due_8 : decode cX10_due 8 = .ok (.invokestatic 206, 3) := by decide +kernel
theorem dX10_due_11 : decode cX10_due 11 = .ok (.ifCond .eq 21, 3) := by decide +kernel
theorem dX10_due_14 : decode cX10_due 14 = .ok (.aload_n 0, 1) := by decide +kernel
theorem dX10_due_15 : decode cX10_due 15 = .ok (.iload_n 3, 1) := by decide +kernel
theorem dX10_due_16 : decode cX10_due 16 = .ok (.invokevirtual 123, 3) := by decide +kernel
theorem dX10_due_19 : decode cX10_due 19 = .ok (.ifCond .eq 13, 3) := by decide +kernel
theorem dX10_due_22 : decode cX10_due 22 = .ok (.aload_n 0, 1) := by decide +kernel
theorem dX10_due_23 : decode cX10_due 23 = .ok (.iload_n 1, 1) := by decide +kernel
theorem dX10_due_24 : decode cX10_due 24 = .ok (.iload_n 2, 1) := by decide +kernel
theorem dX10_due_25 : decode cX10_due 25 = .ok (.iload_n 3, 1) := by decide +kernel
theorem dX10_due_26 : decode cX10_due 26 = .ok (.invokevirtual 209, 3) := by decide +kernel
theorem dX10_due_29 : decode cX10_due 29 = .ok (.goto 5, 3) := by decide +kernel
theorem dX10_due_32 : decode cX10_due 32 = .ok (.ldc 106, 2) := by decide +kernel
theorem dX10_due_34 : decode cX10_due 34 = .ok (.ireturn, 1) := by decide +kernel
theorem dX10_edge_0 : decode cX10_edge 0 = .ok (.iload_n 1, 1) := by decide +kernel
theorem dX10_edge_1 : decode cX10_edge 1 = .ok (.invokestatic 102, 3) := by decide +kernel
theorem dX10_edge_4 : decode cX10_edge 4 = .ok (.ifCond .eq 13, 3) := by decide +kernel
theorem dX10_edge_7 : decode cX10_edge 7 = .ok (.iload_n 2, 1) := by decide +kernel
theorem dX10_edge_8 : decode cX10_edge 8 = .ok (.iconst 0, 1) := by decide +kernel
theorem dX10_edge_9 : decode cX10_edge 9 = .ok (.bipush 6, 2) := by decide +kernel
theorem dX10_edge_11 : decode cX10_edge 11 = .ok (.invokestatic 90, 3) := by decide +kernel
theorem dX10_edge_14 : decode cX10_edge 14 = .ok (.ifCond .ne 6, 3) := by decide +kernel
theorem dX10_edge_17 : decode cX10_edge 17 = .ok (.ldc 106, 2) := by decide +kernel
theorem dX10_edge_19 : decode cX10_edge 19 = .ok (.ireturn, 1) := by decide +kernel
theorem dX10_edge_20 : decode cX10_edge 20 = .ok (.aload_n 0, 1) := by decide +kernel
theorem dX10_edge_21 : decode cX10_edge 21 = .ok (.iload_n 1, 1) := by decide +kernel
theorem dX10_edge_22 : decode cX10_edge 22 = .ok (.iload_n 2, 1) := by decide +kernel
theorem dX10_edge_23 : decode cX10_edge 23 = .ok (.aload_n 0, 1) := by decide +kernel
theorem dX10_edge_24 : decode cX10_edge 24 = .ok (.getfield 94, 3) := by decide +kernel
theorem dX10_edge_27 : decode cX10_edge 27 = .ok (.invokevirtual 203, 3) := by decide +kernel
theorem dX10_edge_30 : decode cX10_edge 30 = .ok (.aload_n 0, 1) := by decide +kernel
theorem dX10_edge_31 : decode cX10_edge 31 = .ok (.iload_n 1, 1) := by decide +kernel
theorem dX10_edge_32 : decode cX10_edge 32 = .ok (.iload_n 2, 1) := by decide +kernel
theorem dX10_edge_33 : decode cX10_edge 33 = .ok (.iconst 1, 1) := by decide +kernel
theorem dX10_edge_34 : decode cX10_edge 34 = .ok (.iadd, 1) := by decide +kernel
theorem dX10_edge_35 : decode cX10_edge 35 = .ok (.aload_n 0, 1) := by decide +kernel
theorem dX10_edge_36 : decode cX10_edge 36 = .ok (.getfield 94, 3) := by decide +kernel
theorem dX10_edge_39 : decode cX10_edge 39 = .ok (.invokevirtual 203, 3) := by decide +kernel
theorem dX10_edge_42 : decode cX10_edge 42 = .ok (.isub, 1) := by decide +kernel
theorem dX10_edge_43 : decode cX10_edge 43 = .ok (.ireturn, 1) := by decide +kernel
theorem dX10_line_0 : decode cX10_line 0 = .ok (.aload_n 0, 1) := by decide +kernel
theorem dX10_line_1 : decode cX10_line 1 = .ok (.iload_n 1, 1) := by decide +kernel
theorem dX10_line_2 : decode cX10_line 2 = .ok (.invokevirtual 123, 3) := by decide +kernel
theorem dX10_line_5 : decode cX10_line 5 = .ok (.ifCond .eq 23, 3) := by decide +kernel
theorem dX10_line_8 : decode cX10_line 8 = .ok (.iload_n 2, 1) := by decide +kernel
theorem dX10_line_9 : decode cX10_line 9 = .ok (.iconst 1, 1) := by decide +kernel
theorem dX10_line_10 : decode cX10_line 10 = .ok (.ldc 159, 2) := by decide +kernel
theorem dX10_line_12 : decode cX10_line 12 = .ok (.invokestatic 90, 3) := by decide +kernel
theorem dX10_line_15 : decode cX10_line 15 = .ok (.ifCond .eq 13, 3) := by decide +kernel
theorem dX10_line_18 : decode cX10_line 18 = .ok (.iload_n 3, 1) := by decide +kernel
theorem dX10_line_19 : decode cX10_line 19 = .ok (.iconst 0, 1) := by decide +kernel
theorem dX10_line_20 : decode cX10_line 20 = .ok (.bipush 9, 2) := by decide +kernel
theorem dX10_line_22 : decode cX10_line 22 = .ok (.invokestatic 90, 3) := by decide +kernel
theorem dX10_line_25 : decode cX10_line 25 = .ok (.ifCond .ne 6, 3) := by decide +kernel
theorem dX10_line_28 : decode cX10_line 28 = .ok (.ldc 106, 2) := by decide +kernel
theorem dX10_line_30 : decode cX10_line 30 = .ok (.ireturn, 1) := by decide +kernel
theorem dX10_line_31 : decode cX10_line 31 = .ok (.aload_n 0, 1) := by decide +kernel
theorem dX10_line_32 : decode cX10_line 32 = .ok (.getfield 212, 3) := by decide +kernel
theorem dX10_line_35 : decode cX10_line 35 = .ok (.bipush 100, 2) := by decide +kernel
theorem dX10_line_37 : decode cX10_line 37 = .ok (.if_icmp .ne 6, 3) := by decide +kernel
theorem dX10_line_40 : decode cX10_line 40 = .ok (.ldc 110, 2) := by decide +kernel
theorem dX10_line_42 : decode cX10_line 42 = .ok (.ireturn, 1) := by decide +kernel
theorem dX10_line_43 : decode cX10_line 43 = .ok (.aload_n 0, 1) := by decide +kernel
theorem dX10_line_44 : decode cX10_line 44 = .ok (.getfield 56, 3) := by decide +kernel
theorem dX10_line_47 : decode cX10_line 47 = .ok (.aload_n 0, 1) := by decide +kernel
theorem dX10_line_48 : decode cX10_line 48 = .ok (.getfield 212, 3) := by decide +kernel
theorem dX10_line_51 : decode cX10_line 51 = .ok (.iload_n 1, 1) := by decide +kernel
theorem dX10_line_52 : decode cX10_line 52 = .ok (.iastore, 1) := by decide +kernel
theorem dX10_line_53 : decode cX10_line 53 = .ok (.aload_n 0, 1) := by decide +kernel
theorem dX10_line_54 : decode cX10_line 54 = .ok (.getfield 59, 3) := by decide +kernel
theorem dX10_line_57 : decode cX10_line 57 = .ok (.aload_n 0, 1) := by decide +kernel
theorem dX10_line_58 : decode cX10_line 58 = .ok (.getfield 212, 3) := by decide +kernel
theorem dX10_line_61 : decode cX10_line 61 = .ok (.iload_n 2, 1) := by decide +kernel
theorem dX10_line_62 : decode cX10_line 62 = .ok (.iastore, 1) := by decide +kernel
theorem dX10_line_63 : decode cX10_line 63 = .ok (.aload_n 0, 1) := by decide +kernel
theorem dX10_line_64 : decode cX10_line 64 = .ok (.getfield 62, 3) := by decide +kernel
theorem dX10_line_67 : decode cX10_line 67 = .ok (.aload_n 0, 1) := by decide +kernel
theorem dX10_line_68 : decode cX10_line 68 = .ok (.getfield 212, 3) := by decide +kernel
theorem dX10_line_71 : decode cX10_line 71 = .ok (.iload_n 3, 1) := by decide +kernel
theorem dX10_line_72 : decode cX10_line 72 = .ok (.iastore, 1) := by decide +kernel
theorem dX10_line_73 : decode cX10_line 73 = .ok (.aload_n 0, 1) := by decide +kernel
theorem dX10_line_74 : decode cX10_line 74 = .ok (.dup, 1) := by decide +kernel
theorem dX10_line_75 : decode cX10_line 75 = .ok (.getfield 212, 3) := by decide +kernel
theorem dX10_line_78 : decode cX10_line 78 = .ok (.iconst 1, 1) := by decide +kernel
theorem dX10_line_79 : decode cX10_line 79 = .ok (.iadd, 1) := by decide +kernel
theorem dX10_line_80 : decode cX10_line 80 = .ok (.putfield 212, 3) := by decide +kernel
theorem dX10_line_83 : decode cX10_line 83 = .ok (.aload_n 0, 1) := by decide +kernel
theorem dX10_line_84 : decode cX10_line 84 = .ok (.getfield 212, 3) := by decide +kernel
theorem dX10_line_87 : decode cX10_line 87 = .ok (.iconst 1, 1) := by decide +kernel
theorem dX10_line_88 : decode cX10_line 88 = .ok (.isub, 1) := by decide +kernel
theorem dX10_line_89 : decode cX10_line 89 = .ok (.ireturn, 1) := by decide +kernel
theorem dX10_marks_0 : decode cX10_marks 0 = .ok (.iload_n 1, 1) := by decide +kernel
theorem dX10_marks_1 : decode cX10_marks 1 = .ok (.iconst 0, 1) := by decide +kernel
theorem dX10_marks_2 : decode cX10_marks 2 = .ok (.sipush 1023, 3) := by decide +kernel
theorem dX10_marks_5 : decode cX10_marks 5 = .ok (.invokestatic 90, 3) := by decide +kernel
theorem dX10_marks_8 : decode cX10_marks 8 = .ok (.ifCond .ne 6, 3) := by decide +kernel
theorem dX10_marks_11 : decode cX10_marks 11 = .ok (.ldc 106, 2) := by decide +kernel
theorem dX10_marks_13 : decode cX10_marks 13 = .ok (.ireturn, 1) := by decide +kernel
theorem dX10_marks_14 : decode cX10_marks 14 = .ok (.aload_n 0, 1) := by decide +kernel
theorem dX10_marks_15 : decode cX10_marks 15 = .ok (.getfield 65, 3) := by decide +kernel
theorem dX10_marks_18 : decode cX10_marks 18 = .ok (.istore_n 2, 1) := by decide +kernel
theorem dX10_marks_19 : decode cX10_marks 19 = .ok (.aload_n 0, 1) := by decide +kernel
theorem dX10_marks_20 : decode cX10_marks 20 = .ok (.iload_n 1, 1) := by decide +kernel
theorem dX10_marks_21 : decode cX10_marks 21 = .ok (.putfield 65, 3) := by decide +kernel
theorem dX10_marks_24 : decode cX10_marks 24 = .ok (.iload_n 2, 1) := by decide +kernel
theorem dX10_marks_25 : decode cX10_marks 25 = .ok (.ireturn, 1) := by decide +kernel
theorem dX10_isPay_0 : decode cX10_isPay 0 = .ok (.aload_n 0, 1) := by decide +kernel
theorem dX10_isPay_1 : decode cX10_isPay 1 = .ok (.getfield 65, 3) := by decide +kernel
theorem dX10_isPay_4 : decode cX10_isPay 4 = .ok (.aload_n 0, 1) := by decide +kernel
theorem dX10_isPay_5 : decode cX10_isPay 5 = .ok (.getfield 62, 3) := by decide +kernel
theorem dX10_isPay_8 : decode cX10_isPay 8 = .ok (.iload_n 1, 1) := by decide +kernel
theorem dX10_isPay_9 : decode cX10_isPay 9 = .ok (.iaload, 1) := by decide +kernel
theorem dX10_isPay_10 : decode cX10_isPay 10 = .ok (.ishr, 1) := by decide +kernel
theorem dX10_isPay_11 : decode cX10_isPay 11 = .ok (.iconst 1, 1) := by decide +kernel
theorem dX10_isPay_12 : decode cX10_isPay 12 = .ok (.iand, 1) := by decide +kernel
theorem dX10_isPay_13 : decode cX10_isPay 13 = .ok (.iconst 1, 1) := by decide +kernel
theorem dX10_isPay_14 : decode cX10_isPay 14 = .ok (.if_icmp .ne 7, 3) := by decide +kernel
theorem dX10_isPay_17 : decode cX10_isPay 17 = .ok (.iconst 1, 1) := by decide +kernel
theorem dX10_isPay_18 : decode cX10_isPay 18 = .ok (.goto 4, 3) := by decide +kernel
theorem dX10_isPay_21 : decode cX10_isPay 21 = .ok (.iconst 0, 1) := by decide +kernel
theorem dX10_isPay_22 : decode cX10_isPay 22 = .ok (.ireturn, 1) := by decide +kernel
theorem dX10_paid_0 : decode cX10_paid 0 = .ok (.iload_n 1, 1) := by decide +kernel
theorem dX10_paid_1 : decode cX10_paid 1 = .ok (.invokestatic 102, 3) := by decide +kernel
theorem dX10_paid_4 : decode cX10_paid 4 = .ok (.ifCond .eq 12, 3) := by decide +kernel
theorem dX10_paid_7 : decode cX10_paid 7 = .ok (.iload_n 2, 1) := by decide +kernel
theorem dX10_paid_8 : decode cX10_paid 8 = .ok (.iconst 0, 1) := by decide +kernel
theorem dX10_paid_9 : decode cX10_paid 9 = .ok (.iconst 1, 1) := by decide +kernel
theorem dX10_paid_10 : decode cX10_paid 10 = .ok (.invokestatic 90, 3) := by decide +kernel
theorem dX10_paid_13 : decode cX10_paid 13 = .ok (.ifCond .ne 6, 3) := by decide +kernel
theorem dX10_paid_16 : decode cX10_paid 16 = .ok (.ldc 106, 2) := by decide +kernel
theorem dX10_paid_18 : decode cX10_paid 18 = .ok (.ireturn, 1) := by decide +kernel
theorem dX10_paid_19 : decode cX10_paid 19 = .ok (.iconst 0, 1) := by decide +kernel
theorem dX10_paid_20 : decode cX10_paid 20 = .ok (.istore_n 3, 1) := by decide +kernel
theorem dX10_paid_21 : decode cX10_paid 21 = .ok (.iconst 0, 1) := by decide +kernel
theorem dX10_paid_22 : decode cX10_paid 22 = .ok (.istore 4, 2) := by decide +kernel
theorem dX10_paid_24 : decode cX10_paid 24 = .ok (.iload 4, 2) := by decide +kernel
theorem dX10_paid_26 : decode cX10_paid 26 = .ok (.aload_n 0, 1) := by decide +kernel
theorem dX10_paid_27 : decode cX10_paid 27 = .ok (.getfield 212, 3) := by decide +kernel
theorem dX10_paid_30 : decode cX10_paid 30 = .ok (.if_icmp .ge 52, 3) := by decide +kernel
theorem dX10_paid_33 : decode cX10_paid 33 = .ok (.iload_n 3, 1) := by decide +kernel
theorem dX10_paid_34 : decode cX10_paid 34 = .ok (.aload_n 0, 1) := by decide +kernel
theorem dX10_paid_35 : decode cX10_paid 35 = .ok (.getfield 56, 3) := by decide +kernel
theorem dX10_paid_38 : decode cX10_paid 38 = .ok (.iload 4, 2) := by decide +kernel
theorem dX10_paid_40 : decode cX10_paid 40 = .ok (.iaload, 1) := by decide +kernel
theorem dX10_paid_41 : decode cX10_paid 41 = .ok (.iload_n 1, 1) := by decide +kernel
theorem dX10_paid_42 : decode cX10_paid 42 = .ok (.if_icmp .ne 31, 3) := by decide +kernel
theorem dX10_paid_45 : decode cX10_paid 45 = .ok (.aload_n 0, 1) := by decide +kernel
theorem dX10_paid_46 : decode cX10_paid 46 = .ok (.iload 4, 2) := by decide +kernel
theorem dX10_paid_48 : decode cX10_paid 48 = .ok (.invokevirtual 215, 3) := by decide +kernel
theorem dX10_paid_51 : decode cX10_paid 51 = .ok (.iload_n 2, 1) := by decide +kernel
theorem dX10_paid_52 : decode cX10_paid 52 = .ok (.ifCond .ne 7, 3) := by decide +kernel
theorem dX10_paid_55 : decode cX10_paid 55 = .ok (.iconst 1, 1) := by decide +kernel
theorem dX10_paid_56 : decode cX10_paid 56 = .ok (.goto 4, 3) := by decide +kernel
theorem dX10_paid_59 : decode cX10_paid 59 = .ok (.iconst 0, 1) := by decide +kernel
theorem dX10_paid_60 : decode cX10_paid 60 = .ok (.if_icmp .ne 13, 3) := by decide +kernel
theorem dX10_paid_63 : decode cX10_paid 63 = .ok (.aload_n 0, 1) := by decide +kernel
theorem dX10_paid_64 : decode cX10_paid 64 = .ok (.getfield 59, 3) := by decide +kernel
theorem dX10_paid_67 : decode cX10_paid 67 = .ok (.iload 4, 2) := by decide +kernel
theorem dX10_paid_69 : decode cX10_paid 69 = .ok (.iaload, 1) := by decide +kernel
theorem dX10_paid_70 : decode cX10_paid 70 = .ok (.goto 4, 3) := by decide +kernel
theorem dX10_paid_73 : decode cX10_paid 73 = .ok (.iconst 0, 1) := by decide +kernel
theorem dX10_paid_74 : decode cX10_paid 74 = .ok (.iadd, 1) := by decide +kernel
theorem dX10_paid_75 : decode cX10_paid 75 = .ok (.istore_n 3, 1) := by decide +kernel
theorem dX10_paid_76 : decode cX10_paid 76 = .ok (.iinc 4 1, 3) := by decide +kernel
theorem dX10_paid_79 : decode cX10_paid 79 = .ok (.goto (-55), 3) := by decide +kernel
theorem dX10_paid_82 : decode cX10_paid 82 = .ok (.iload_n 3, 1) := by decide +kernel
theorem dX10_paid_83 : decode cX10_paid 83 = .ok (.ireturn, 1) := by decide +kernel
theorem dX10_paysUpTo_0 : decode cX10_paysUpTo 0 = .ok (.iconst 0, 1) := by decide +kernel
theorem dX10_paysUpTo_1 : decode cX10_paysUpTo 1 = .ok (.istore_n 2, 1) := by decide +kernel
theorem dX10_paysUpTo_2 : decode cX10_paysUpTo 2 = .ok (.iconst 0, 1) := by decide +kernel
theorem dX10_paysUpTo_3 : decode cX10_paysUpTo 3 = .ok (.istore_n 3, 1) := by decide +kernel
theorem dX10_paysUpTo_4 : decode cX10_paysUpTo 4 = .ok (.iload_n 3, 1) := by decide +kernel
theorem dX10_paysUpTo_5 : decode cX10_paysUpTo 5 = .ok (.aload_n 0, 1) := by decide +kernel
theorem dX10_paysUpTo_6 : decode cX10_paysUpTo 6 = .ok (.getfield 212, 3) := by decide +kernel
theorem dX10_paysUpTo_9 : decode cX10_paysUpTo 9 = .ok (.if_icmp .ge 40, 3) := by decide +kernel
theorem dX10_paysUpTo_12 : decode cX10_paysUpTo 12 = .ok (.iload_n 2, 1) := by decide +kernel
theorem dX10_paysUpTo_13 : decode cX10_paysUpTo 13 = .ok (.aload_n 0, 1) := by decide +kernel
theorem dX10_paysUpTo_14 : decode cX10_paysUpTo 14 = .ok (.getfield 56, 3) := by decide +kernel
theorem dX10_paysUpTo_17 : decode cX10_paysUpTo 17 = .ok (.iload_n 3, 1) := by decide +kernel
theorem dX10_paysUpTo_18 : decode cX10_paysUpTo 18 = .ok (.iaload, 1) := by decide +kernel
theorem dX10_paysUpTo_19 : decode cX10_paysUpTo 19 = .ok (.iload_n 1, 1) := by decide +kernel
theorem dX10_paysUpTo_20 : decode cX10_paysUpTo 20 = .ok (.if_icmp .gt 20, 3) := by decide +kernel
theorem dX10_paysUpTo_23 : decode cX10_paysUpTo 23 = .ok (.aload_n 0, 1) := by decide +kernel
theorem dX10_paysUpTo_24 : decode cX10_paysUpTo 24 = .ok (.iload_n 3, 1) := by decide +kernel
theorem dX10_paysUpTo_25 : decode cX10_paysUpTo 25 = .ok (.invokevirtual 215, 3) := by decide +kernel
theorem dX10_paysUpTo_28 : decode cX10_paysUpTo 28 = .ok (.ifCond .eq 12, 3) := by decide +kernel
theorem dX10_paysUpTo_31 : decode cX10_paysUpTo 31 = .ok (.aload_n 0, 1) := by decide +kernel
theorem dX10_paysUpTo_32 : decode cX10_paysUpTo 32 = .ok (.getfield 59, 3) := by decide +kernel
theorem dX10_paysUpTo_35 : decode cX10_paysUpTo 35 = .ok (.iload_n 3, 1) := by decide +kernel
theorem dX10_paysUpTo_36 : decode cX10_paysUpTo 36 = .ok (.iaload, 1) := by decide +kernel
theorem dX10_paysUpTo_37 : decode cX10_paysUpTo 37 = .ok (.goto 4, 3) := by decide +kernel
theorem dX10_paysUpTo_40 : decode cX10_paysUpTo 40 = .ok (.iconst 0, 1) := by decide +kernel
theorem dX10_paysUpTo_41 : decode cX10_paysUpTo 41 = .ok (.iadd, 1) := by decide +kernel
theorem dX10_paysUpTo_42 : decode cX10_paysUpTo 42 = .ok (.istore_n 2, 1) := by decide +kernel
theorem dX10_paysUpTo_43 : decode cX10_paysUpTo 43 = .ok (.iinc 3 1, 3) := by decide +kernel
theorem dX10_paysUpTo_46 : decode cX10_paysUpTo 46 = .ok (.goto (-42), 3) := by decide +kernel
theorem dX10_paysUpTo_49 : decode cX10_paysUpTo 49 = .ok (.iload_n 2, 1) := by decide +kernel
theorem dX10_paysUpTo_50 : decode cX10_paysUpTo 50 = .ok (.ireturn, 1) := by decide +kernel
theorem dX10_findDues_0 : decode cX10_findDues 0 = .ok (.iconst 0, 1) := by decide +kernel
theorem dX10_findDues_1 : decode cX10_findDues 1 = .ok (.istore_n 3, 1) := by decide +kernel
theorem dX10_findDues_2 : decode cX10_findDues 2 = .ok (.iconst 0, 1) := by decide +kernel
theorem dX10_findDues_3 : decode cX10_findDues 3 = .ok (.istore 4, 2) := by decide +kernel
theorem dX10_findDues_5 : decode cX10_findDues 5 = .ok (.iload 4, 2) := by decide +kernel
theorem dX10_findDues_7 : decode cX10_findDues 7 = .ok (.iload_n 2, 1) := by decide +kernel
theorem dX10_findDues_8 : decode cX10_findDues 8 = .ok (.if_icmp .gt 42, 3) := by decide +kernel
theorem dX10_findDues_11 : decode cX10_findDues 11 = .ok (.aload_n 0, 1) := by decide +kernel
theorem dX10_findDues_12 : decode cX10_findDues 12 = .ok (.getfield 81, 3) := by decide +kernel
theorem dX10_findDues_15 : decode cX10_findDues 15 = .ok (.iload 4, 2) := by decide +kernel
theorem dX10_findDues_17 : decode cX10_findDues 17 = .ok (.aload_n 0, 1) := by decide +kernel
theorem dX10_findDues_18 : decode cX10_findDues 18 = .ok (.iload 4, 2) := by decide +kernel
theorem dX10_findDues_20 : decode cX10_findDues 20 = .ok (.iload_n 1, 1) := by decide +kernel
theorem dX10_findDues_21 : decode cX10_findDues 21 = .ok (.iload_n 2, 1) := by decide +kernel
theorem dX10_findDues_22 : decode cX10_findDues 22 = .ok (.invokevirtual 209, 3) := by decide +kernel
theorem dX10_findDues_25 : decode cX10_findDues 25 = .ok (.iastore, 1) := by decide +kernel
theorem dX10_findDues_26 : decode cX10_findDues 26 = .ok (.iload_n 3, 1) := by decide +kernel
theorem dX10_findDues_27 : decode cX10_findDues 27 = .ok (.aload_n 0, 1) := by decide +kernel
theorem dX10_findDues_28 : decode cX10_findDues 28 = .ok (.getfield 81, 3) := by decide +kernel
theorem dX10_findDues_31 : decode cX10_findDues 31 = .ok (.iload 4, 2) := by decide +kernel
theorem dX10_findDues_33 : decode cX10_findDues 33 = .ok (.iaload, 1) := by decide +kernel
theorem dX10_findDues_34 : decode cX10_findDues 34 = .ok (.iadd, 1) := by decide +kernel
theorem dX10_findDues_35 : decode cX10_findDues 35 = .ok (.istore_n 3, 1) := by decide +kernel
theorem dX10_findDues_36 : decode cX10_findDues 36 = .ok (.aload_n 0, 1) := by decide +kernel
theorem dX10_findDues_37 : decode cX10_findDues 37 = .ok (.getfield 84, 3) := by decide +kernel
theorem dX10_findDues_40 : decode cX10_findDues 40 = .ok (.iload 4, 2) := by decide +kernel
theorem dX10_findDues_42 : decode cX10_findDues 42 = .ok (.iload_n 3, 1) := by decide +kernel
theorem dX10_findDues_43 : decode cX10_findDues 43 = .ok (.iastore, 1) := by decide +kernel
theorem dX10_findDues_44 : decode cX10_findDues 44 = .ok (.iinc 4 1, 3) := by decide +kernel
theorem dX10_findDues_47 : decode cX10_findDues 47 = .ok (.goto (-42), 3) := by decide +kernel
theorem dX10_findDues_50 : decode cX10_findDues 50 = .ok (.return_, 1) := by decide +kernel
theorem dX10_leftBy_0 : decode cX10_leftBy 0 = .ok (.aload_n 0, 1) := by decide +kernel
theorem dX10_leftBy_1 : decode cX10_leftBy 1 = .ok (.getfield 84, 3) := by decide +kernel
theorem dX10_leftBy_4 : decode cX10_leftBy 4 = .ok (.iload_n 1, 1) := by decide +kernel
theorem dX10_leftBy_5 : decode cX10_leftBy 5 = .ok (.iaload, 1) := by decide +kernel
theorem dX10_leftBy_6 : decode cX10_leftBy 6 = .ok (.iload_n 2, 1) := by decide +kernel
theorem dX10_leftBy_7 : decode cX10_leftBy 7 = .ok (.isub, 1) := by decide +kernel
theorem dX10_leftBy_8 : decode cX10_leftBy 8 = .ok (.istore_n 3, 1) := by decide +kernel
theorem dX10_leftBy_9 : decode cX10_leftBy 9 = .ok (.iload_n 3, 1) := by decide +kernel
theorem dX10_leftBy_10 : decode cX10_leftBy 10 = .ok (.ifCond .ge 7, 3) := by decide +kernel
theorem dX10_leftBy_13 : decode cX10_leftBy 13 = .ok (.iconst 0, 1) := by decide +kernel
theorem dX10_leftBy_14 : decode cX10_leftBy 14 = .ok (.goto 23, 3) := by decide +kernel
theorem dX10_leftBy_17 : decode cX10_leftBy 17 = .ok (.iload_n 3, 1) := by decide +kernel
theorem dX10_leftBy_18 : decode cX10_leftBy 18 = .ok (.aload_n 0, 1) := by decide +kernel
theorem dX10_leftBy_19 : decode cX10_leftBy 19 = .ok (.getfield 81, 3) := by decide +kernel
theorem dX10_leftBy_22 : decode cX10_leftBy 22 = .ok (.iload_n 1, 1) := by decide +kernel
theorem dX10_leftBy_23 : decode cX10_leftBy 23 = .ok (.iaload, 1) := by decide +kernel
theorem dX10_leftBy_24 : decode cX10_leftBy 24 = .ok (.if_icmp .ge 7, 3) := by decide +kernel
theorem dX10_leftBy_27 : decode cX10_leftBy 27 = .ok (.iload_n 3, 1) := by decide +kernel
theorem dX10_leftBy_28 : decode cX10_leftBy 28 = .ok (.goto 9, 3) := by decide +kernel
theorem dX10_leftBy_31 : decode cX10_leftBy 31 = .ok (.aload_n 0, 1) := by decide +kernel
theorem dX10_leftBy_32 : decode cX10_leftBy 32 = .ok (.getfield 81, 3) := by decide +kernel
theorem dX10_leftBy_35 : decode cX10_leftBy 35 = .ok (.iload_n 1, 1) := by decide +kernel
theorem dX10_leftBy_36 : decode cX10_leftBy 36 = .ok (.iaload, 1) := by decide +kernel
theorem dX10_leftBy_37 : decode cX10_leftBy 37 = .ok (.ireturn, 1) := by decide +kernel
theorem dX10_isAsked_0 : decode cX10_isAsked 0 = .ok (.iload_n 1, 1) := by decide +kernel
theorem dX10_isAsked_1 : decode cX10_isAsked 1 = .ok (.invokestatic 206, 3) := by decide +kernel
theorem dX10_isAsked_4 : decode cX10_isAsked 4 = .ok (.ifCond .eq 15, 3) := by decide +kernel
theorem dX10_isAsked_7 : decode cX10_isAsked 7 = .ok (.aload_n 0, 1) := by decide +kernel
theorem dX10_isAsked_8 : decode cX10_isAsked 8 = .ok (.iload_n 2, 1) := by decide +kernel
theorem dX10_isAsked_9 : decode cX10_isAsked 9 = .ok (.invokevirtual 123, 3) := by decide +kernel
theorem dX10_isAsked_12 : decode cX10_isAsked 12 = .ok (.ifCond .eq 7, 3) := by decide +kernel
theorem dX10_isAsked_15 : decode cX10_isAsked 15 = .ok (.iconst 1, 1) := by decide +kernel
theorem dX10_isAsked_16 : decode cX10_isAsked 16 = .ok (.goto 4, 3) := by decide +kernel
theorem dX10_isAsked_19 : decode cX10_isAsked 19 = .ok (.iconst 0, 1) := by decide +kernel
theorem dX10_isAsked_20 : decode cX10_isAsked 20 = .ok (.ireturn, 1) := by decide +kernel
theorem dX10_owed_0 : decode cX10_owed 0 = .ok (.aload_n 0, 1) := by decide +kernel
theorem dX10_owed_1 : decode cX10_owed 1 = .ok (.iload_n 1, 1) := by decide +kernel
theorem dX10_owed_2 : decode cX10_owed 2 = .ok (.iload_n 2, 1) := by decide +kernel
theorem dX10_owed_3 : decode cX10_owed 3 = .ok (.invokevirtual 218, 3) := by decide +kernel
theorem dX10_owed_6 : decode cX10_owed 6 = .ok (.ifCond .ne 6, 3) := by decide +kernel
theorem dX10_owed_9 : decode cX10_owed 9 = .ok (.ldc 106, 2) := by decide +kernel
theorem dX10_owed_11 : decode cX10_owed 11 = .ok (.ireturn, 1) := by decide +kernel
theorem dX10_owed_12 : decode cX10_owed 12 = .ok (.aload_n 0, 1) := by decide +kernel
theorem dX10_owed_13 : decode cX10_owed 13 = .ok (.iload_n 1, 1) := by decide +kernel
theorem dX10_owed_14 : decode cX10_owed 14 = .ok (.iload_n 2, 1) := by decide +kernel
theorem dX10_owed_15 : decode cX10_owed 15 = .ok (.invokevirtual 221, 3) := by decide +kernel
theorem dX10_owed_18 : decode cX10_owed 18 = .ok (.aload_n 0, 1) := by decide +kernel
theorem dX10_owed_19 : decode cX10_owed 19 = .ok (.getfield 84, 3) := by decide +kernel
theorem dX10_owed_22 : decode cX10_owed 22 = .ok (.iload_n 2, 1) := by decide +kernel
theorem dX10_owed_23 : decode cX10_owed 23 = .ok (.iaload, 1) := by decide +kernel
theorem dX10_owed_24 : decode cX10_owed 24 = .ok (.aload_n 0, 1) := by decide +kernel
theorem dX10_owed_25 : decode cX10_owed 25 = .ok (.iload_n 2, 1) := by decide +kernel
theorem dX10_owed_26 : decode cX10_owed 26 = .ok (.invokevirtual 225, 3) := by decide +kernel
theorem dX10_owed_29 : decode cX10_owed 29 = .ok (.isub, 1) := by decide +kernel
theorem dX10_owed_30 : decode cX10_owed 30 = .ok (.istore_n 3, 1) := by decide +kernel
theorem dX10_owed_31 : decode cX10_owed 31 = .ok (.iload_n 3, 1) := by decide +kernel
theorem dX10_owed_32 : decode cX10_owed 32 = .ok (.ifCond .ge 7, 3) := by decide +kernel
theorem dX10_owed_35 : decode cX10_owed 35 = .ok (.iconst 0, 1) := by decide +kernel
theorem dX10_owed_36 : decode cX10_owed 36 = .ok (.goto 4, 3) := by decide +kernel
theorem dX10_owed_39 : decode cX10_owed 39 = .ok (.iload_n 3, 1) := by decide +kernel
theorem dX10_owed_40 : decode cX10_owed 40 = .ok (.ireturn, 1) := by decide +kernel
theorem dX10_over_0 : decode cX10_over 0 = .ok (.aload_n 0, 1) := by decide +kernel
theorem dX10_over_1 : decode cX10_over 1 = .ok (.iload_n 1, 1) := by decide +kernel
theorem dX10_over_2 : decode cX10_over 2 = .ok (.iload_n 2, 1) := by decide +kernel
theorem dX10_over_3 : decode cX10_over 3 = .ok (.invokevirtual 218, 3) := by decide +kernel
theorem dX10_over_6 : decode cX10_over 6 = .ok (.ifCond .ne 6, 3) := by decide +kernel
theorem dX10_over_9 : decode cX10_over 9 = .ok (.ldc 106, 2) := by decide +kernel
theorem dX10_over_11 : decode cX10_over 11 = .ok (.ireturn, 1) := by decide +kernel
theorem dX10_over_12 : decode cX10_over 12 = .ok (.aload_n 0, 1) := by decide +kernel
theorem dX10_over_13 : decode cX10_over 13 = .ok (.iload_n 1, 1) := by decide +kernel
theorem dX10_over_14 : decode cX10_over 14 = .ok (.iload_n 2, 1) := by decide +kernel
theorem dX10_over_15 : decode cX10_over 15 = .ok (.invokevirtual 221, 3) := by decide +kernel
theorem dX10_over_18 : decode cX10_over 18 = .ok (.aload_n 0, 1) := by decide +kernel
theorem dX10_over_19 : decode cX10_over 19 = .ok (.iload_n 2, 1) := by decide +kernel
theorem dX10_over_20 : decode cX10_over 20 = .ok (.invokevirtual 225, 3) := by decide +kernel
theorem dX10_over_23 : decode cX10_over 23 = .ok (.aload_n 0, 1) := by decide +kernel
theorem dX10_over_24 : decode cX10_over 24 = .ok (.getfield 84, 3) := by decide +kernel
theorem dX10_over_27 : decode cX10_over 27 = .ok (.iload_n 2, 1) := by decide +kernel
theorem dX10_over_28 : decode cX10_over 28 = .ok (.iaload, 1) := by decide +kernel
theorem dX10_over_29 : decode cX10_over 29 = .ok (.isub, 1) := by decide +kernel
theorem dX10_over_30 : decode cX10_over 30 = .ok (.istore_n 3, 1) := by decide +kernel
theorem dX10_over_31 : decode cX10_over 31 = .ok (.iload_n 3, 1) := by decide +kernel
theorem dX10_over_32 : decode cX10_over 32 = .ok (.ifCond .ge 7, 3) := by decide +kernel
theorem dX10_over_35 : decode cX10_over 35 = .ok (.iconst 0, 1) := by decide +kernel
theorem dX10_over_36 : decode cX10_over 36 = .ok (.goto 4, 3) := by decide +kernel
theorem dX10_over_39 : decode cX10_over 39 = .ok (.iload_n 3, 1) := by decide +kernel
theorem dX10_over_40 : decode cX10_over 40 = .ok (.ireturn, 1) := by decide +kernel
theorem dX10_left_0 : decode cX10_left 0 = .ok (.aload_n 0, 1) := by decide +kernel
theorem dX10_left_1 : decode cX10_left 1 = .ok (.iload_n 2, 1) := by decide +kernel
theorem dX10_left_2 : decode cX10_left 2 = .ok (.iload_n 3, 1) := by decide +kernel
theorem dX10_left_3 : decode cX10_left 3 = .ok (.invokevirtual 218, 3) := by decide +kernel
theorem dX10_left_6 : decode cX10_left 6 = .ok (.ifCond .eq 12, 3) := by decide +kernel
theorem dX10_left_9 : decode cX10_left 9 = .ok (.iload_n 1, 1) := by decide +kernel
theorem dX10_left_10 : decode cX10_left 10 = .ok (.iconst 0, 1) := by decide +kernel
theorem dX10_left_11 : decode cX10_left 11 = .ok (.iload_n 3, 1) := by decide +kernel
theorem dX10_left_12 : decode cX10_left 12 = .ok (.invokestatic 90, 3) := by decide +kernel
theorem dX10_left_15 : decode cX10_left 15 = .ok (.ifCond .ne 6, 3) := by decide +kernel
theorem dX10_left_18 : decode cX10_left 18 = .ok (.ldc 106, 2) := by decide +kernel
theorem dX10_left_20 : decode cX10_left 20 = .ok (.ireturn, 1) := by decide +kernel
theorem dX10_left_21 : decode cX10_left 21 = .ok (.aload_n 0, 1) := by decide +kernel
theorem dX10_left_22 : decode cX10_left 22 = .ok (.iload_n 2, 1) := by decide +kernel
theorem dX10_left_23 : decode cX10_left 23 = .ok (.iload_n 3, 1) := by decide +kernel
theorem dX10_left_24 : decode cX10_left 24 = .ok (.invokevirtual 221, 3) := by decide +kernel
theorem dX10_left_27 : decode cX10_left 27 = .ok (.aload_n 0, 1) := by decide +kernel
theorem dX10_left_28 : decode cX10_left 28 = .ok (.iload_n 1, 1) := by decide +kernel
theorem dX10_left_29 : decode cX10_left 29 = .ok (.aload_n 0, 1) := by decide +kernel
theorem dX10_left_30 : decode cX10_left 30 = .ok (.iload_n 3, 1) := by decide +kernel
theorem dX10_left_31 : decode cX10_left 31 = .ok (.invokevirtual 225, 3) := by decide +kernel
theorem dX10_left_34 : decode cX10_left 34 = .ok (.invokevirtual 228, 3) := by decide +kernel
theorem dX10_left_37 : decode cX10_left 37 = .ok (.ireturn, 1) := by decide +kernel
theorem dX10_oldest_0 : decode cX10_oldest 0 = .ok (.aload_n 0, 1) := by decide +kernel
theorem dX10_oldest_1 : decode cX10_oldest 1 = .ok (.iload_n 1, 1) := by decide +kernel
theorem dX10_oldest_2 : decode cX10_oldest 2 = .ok (.iload_n 2, 1) := by decide +kernel
theorem dX10_oldest_3 : decode cX10_oldest 3 = .ok (.invokevirtual 218, 3) := by decide +kernel
theorem dX10_oldest_6 : decode cX10_oldest 6 = .ok (.ifCond .ne 6, 3) := by decide +kernel
theorem dX10_oldest_9 : decode cX10_oldest 9 = .ok (.ldc 106, 2) := by decide +kernel
theorem dX10_oldest_11 : decode cX10_oldest 11 = .ok (.ireturn, 1) := by decide +kernel
theorem dX10_oldest_12 : decode cX10_oldest 12 = .ok (.aload_n 0, 1) := by decide +kernel
theorem dX10_oldest_13 : decode cX10_oldest 13 = .ok (.iload_n 1, 1) := by decide +kernel
theorem dX10_oldest_14 : decode cX10_oldest 14 = .ok (.iload_n 2, 1) := by decide +kernel
theorem dX10_oldest_15 : decode cX10_oldest 15 = .ok (.invokevirtual 221, 3) := by decide +kernel
theorem dX10_oldest_18 : decode cX10_oldest 18 = .ok (.aload_n 0, 1) := by decide +kernel
theorem dX10_oldest_19 : decode cX10_oldest 19 = .ok (.iload_n 2, 1) := by decide +kernel
theorem dX10_oldest_20 : decode cX10_oldest 20 = .ok (.invokevirtual 225, 3) := by decide +kernel
theorem dX10_oldest_23 : decode cX10_oldest 23 = .ok (.istore_n 3, 1) := by decide +kernel
theorem dX10_oldest_24 : decode cX10_oldest 24 = .ok (.iconst 0, 1) := by decide +kernel
theorem dX10_oldest_25 : decode cX10_oldest 25 = .ok (.istore 4, 2) := by decide +kernel
theorem dX10_oldest_27 : decode cX10_oldest 27 = .ok (.iload 4, 2) := by decide +kernel
theorem dX10_oldest_29 : decode cX10_oldest 29 = .ok (.iload_n 2, 1) := by decide +kernel
theorem dX10_oldest_30 : decode cX10_oldest 30 = .ok (.if_icmp .gt 22, 3) := by decide +kernel
theorem dX10_oldest_33 : decode cX10_oldest 33 = .ok (.aload_n 0, 1) := by decide +kernel
theorem dX10_oldest_34 : decode cX10_oldest 34 = .ok (.iload 4, 2) := by decide +kernel
theorem dX10_oldest_36 : decode cX10_oldest 36 = .ok (.iload_n 3, 1) := by decide +kernel
theorem dX10_oldest_37 : decode cX10_oldest 37 = .ok (.invokevirtual 228, 3) := by decide +kernel
theorem dX10_oldest_40 : decode cX10_oldest 40 = .ok (.ifCond .le 6, 3) := by decide +kernel
theorem dX10_oldest_43 : decode cX10_oldest 43 = .ok (.iload 4, 2) := by decide +kernel
theorem dX10_oldest_45 : decode cX10_oldest 45 = .ok (.ireturn, 1) := by decide +kernel
theorem dX10_oldest_46 : decode cX10_oldest 46 = .ok (.iinc 4 1, 3) := by decide +kernel
theorem dX10_oldest_49 : decode cX10_oldest 49 = .ok (.goto (-22), 3) := by decide +kernel
theorem dX10_oldest_52 : decode cX10_oldest 52 = .ok (.ldc 115, 2) := by decide +kernel
theorem dX10_oldest_54 : decode cX10_oldest 54 = .ok (.ireturn, 1) := by decide +kernel
theorem dX10_payer_0 : decode cX10_payer 0 = .ok (.aload_n 0, 1) := by decide +kernel
theorem dX10_payer_1 : decode cX10_payer 1 = .ok (.iload_n 1, 1) := by decide +kernel
theorem dX10_payer_2 : decode cX10_payer 2 = .ok (.invokevirtual 123, 3) := by decide +kernel
theorem dX10_payer_5 : decode cX10_payer 5 = .ok (.ifCond .eq 10, 3) := by decide +kernel
theorem dX10_payer_8 : decode cX10_payer 8 = .ok (.iload_n 2, 1) := by decide +kernel
theorem dX10_payer_9 : decode cX10_payer 9 = .ok (.invokestatic 206, 3) := by decide +kernel
theorem dX10_payer_12 : decode cX10_payer 12 = .ok (.ifCond .ne 6, 3) := by decide +kernel
theorem dX10_payer_15 : decode cX10_payer 15 = .ok (.ldc 106, 2) := by decide +kernel
theorem dX10_payer_17 : decode cX10_payer 17 = .ok (.ireturn, 1) := by decide +kernel
theorem dX10_payer_18 : decode cX10_payer 18 = .ok (.aload_n 0, 1) := by decide +kernel
theorem dX10_payer_19 : decode cX10_payer 19 = .ok (.iload_n 2, 1) := by decide +kernel
theorem dX10_payer_20 : decode cX10_payer 20 = .ok (.aload_n 0, 1) := by decide +kernel
theorem dX10_payer_21 : decode cX10_payer 21 = .ok (.getfield 94, 3) := by decide +kernel
theorem dX10_payer_24 : decode cX10_payer 24 = .ok (.invokevirtual 221, 3) := by decide +kernel
theorem dX10_payer_27 : decode cX10_payer 27 = .ok (.aload_n 0, 1) := by decide +kernel
theorem dX10_payer_28 : decode cX10_payer 28 = .ok (.getfield 81, 3) := by decide +kernel
theorem dX10_payer_31 : decode cX10_payer 31 = .ok (.iload_n 1, 1) := by decide +kernel
theorem dX10_payer_32 : decode cX10_payer 32 = .ok (.iaload, 1) := by decide +kernel
theorem dX10_payer_33 : decode cX10_payer 33 = .ok (.ifCond .ne 6, 3) := by decide +kernel
theorem dX10_payer_36 : decode cX10_payer 36 = .ok (.ldc 115, 2) := by decide +kernel
theorem dX10_payer_38 : decode cX10_payer 38 = .ok (.ireturn, 1) := by decide +kernel
theorem dX10_payer_39 : decode cX10_payer 39 = .ok (.iconst 0, 1) := by decide +kernel
theorem dX10_payer_40 : decode cX10_payer 40 = .ok (.istore_n 3, 1) := by decide +kernel
theorem dX10_payer_41 : decode cX10_payer 41 = .ok (.iconst 0, 1) := by decide +kernel
theorem dX10_payer_42 : decode cX10_payer 42 = .ok (.istore 4, 2) := by decide +kernel
theorem dX10_payer_44 : decode cX10_payer 44 = .ok (.iload 4, 2) := by decide +kernel
theorem dX10_payer_46 : decode cX10_payer 46 = .ok (.aload_n 0, 1) := by decide +kernel
theorem dX10_payer_47 : decode cX10_payer 47 = .ok (.getfield 94, 3) := by decide +kernel
theorem dX10_payer_50 : decode cX10_payer 50 = .ok (.if_icmp .gt 71, 3) := by decide +kernel
theorem dX10_payer_53 : decode cX10_payer 53 = .ok (.iconst 0, 1) := by decide +kernel
theorem dX10_payer_54 : decode cX10_payer 54 = .ok (.istore 5, 2) := by decide +kernel
theorem dX10_payer_56 : decode cX10_payer 56 = .ok (.iload 5, 2) := by decide +kernel
theorem dX10_payer_58 : decode cX10_payer 58 = .ok (.aload_n 0, 1) := by decide +kernel
theorem dX10_payer_59 : decode cX10_payer 59 = .ok (.getfield 212, 3) := by decide +kernel
theorem dX10_payer_62 : decode cX10_payer 62 = .ok (.if_icmp .ge 53, 3) := by decide +kernel
theorem dX10_payer_65 : decode cX10_payer 65 = .ok (.aload_n 0, 1) := by decide +kernel
theorem dX10_payer_66 : decode cX10_payer 66 = .ok (.getfield 56, 3) := by decide +kernel
theorem dX10_payer_69 : decode cX10_payer 69 = .ok (.iload 5, 2) := by decide +kernel
theorem dX10_payer_71 : decode cX10_payer 71 = .ok (.iaload, 1) := by decide +kernel
theorem dX10_payer_72 : decode cX10_payer 72 = .ok (.iload 4, 2) := by decide +kernel
theorem dX10_payer_74 : decode cX10_payer 74 = .ok (.if_icmp .ne 35, 3) := by decide +kernel
theorem dX10_payer_77 : decode cX10_payer 77 = .ok (.aload_n 0, 1) := by decide +kernel
theorem dX10_payer_78 : decode cX10_payer 78 = .ok (.iload 5, 2) := by decide +kernel
theorem dX10_payer_80 : decode cX10_payer 80 = .ok (.invokevirtual 215, 3) := by decide +kernel
theorem dX10_payer_83 : decode cX10_payer 83 = .ok (.ifCond .eq 26, 3) := by decide +kernel
theorem dX10_payer_86 : decode cX10_payer 86 = .ok (.iload_n 3, 1) := by decide +kernel
theorem dX10_payer_87 : decode cX10_payer 87 = .ok (.aload_n 0, 1) := by decide +kernel
theorem dX10_payer_88 : decode cX10_payer 88 = .ok (.getfield 59, 3) := by decide +kernel
theorem dX10_payer_91 : decode cX10_payer 91 = .ok (.iload 5, 2) := by decide +kernel
theorem dX10_payer_93 : decode cX10_payer 93 = .ok (.iaload, 1) := by decide +kernel
theorem dX10_payer_94 : decode cX10_payer 94 = .ok (.iadd, 1) := by decide +kernel
theorem dX10_payer_95 : decode cX10_payer 95 = .ok (.istore_n 3, 1) := by decide +kernel
theorem dX10_payer_96 : decode cX10_payer 96 = .ok (.iload_n 3, 1) := by decide +kernel
theorem dX10_payer_97 : decode cX10_payer 97 = .ok (.aload_n 0, 1) := by decide +kernel
theorem dX10_payer_98 : decode cX10_payer 98 = .ok (.getfield 84, 3) := by decide +kernel
theorem dX10_payer_101 : decode cX10_payer 101 = .ok (.iload_n 1, 1) := by decide +kernel
theorem dX10_payer_102 : decode cX10_payer 102 = .ok (.iaload, 1) := by decide +kernel
theorem dX10_payer_103 : decode cX10_payer 103 = .ok (.if_icmp .lt 6, 3) := by decide +kernel
theorem dX10_payer_106 : decode cX10_payer 106 = .ok (.iload 5, 2) := by decide +kernel
theorem dX10_payer_108 : decode cX10_payer 108 = .ok (.ireturn, 1) := by decide +kernel
theorem dX10_payer_109 : decode cX10_payer 109 = .ok (.iinc 5 1, 3) := by decide +kernel
theorem dX10_payer_112 : decode cX10_payer 112 = .ok (.goto (-56), 3) := by decide +kernel
theorem dX10_payer_115 : decode cX10_payer 115 = .ok (.iinc 4 1, 3) := by decide +kernel
theorem dX10_payer_118 : decode cX10_payer 118 = .ok (.goto (-74), 3) := by decide +kernel
theorem dX10_payer_121 : decode cX10_payer 121 = .ok (.ldc 115, 2) := by decide +kernel
theorem dX10_payer_123 : decode cX10_payer 123 = .ok (.ireturn, 1) := by decide +kernel
theorem dX10_interest_0 : decode cX10_interest 0 = .ok (.aload_n 0, 1) := by decide +kernel
theorem dX10_interest_1 : decode cX10_interest 1 = .ok (.iload_n 1, 1) := by decide +kernel
theorem dX10_interest_2 : decode cX10_interest 2 = .ok (.iload_n 2, 1) := by decide +kernel
theorem dX10_interest_3 : decode cX10_interest 3 = .ok (.invokevirtual 218, 3) := by decide +kernel
theorem dX10_interest_6 : decode cX10_interest 6 = .ok (.ifCond .ne 6, 3) := by decide +kernel
theorem dX10_interest_9 : decode cX10_interest 9 = .ok (.ldc 106, 2) := by decide +kernel
theorem dX10_interest_11 : decode cX10_interest 11 = .ok (.ireturn, 1) := by decide +kernel
theorem dX10_interest_12 : decode cX10_interest 12 = .ok (.aload_n 0, 1) := by decide +kernel
theorem dX10_interest_13 : decode cX10_interest 13 = .ok (.iload_n 1, 1) := by decide +kernel
theorem dX10_interest_14 : decode cX10_interest 14 = .ok (.iload_n 2, 1) := by decide +kernel
theorem dX10_interest_15 : decode cX10_interest 15 = .ok (.invokevirtual 221, 3) := by decide +kernel
theorem dX10_interest_18 : decode cX10_interest 18 = .ok (.iconst 0, 1) := by decide +kernel
theorem dX10_interest_19 : decode cX10_interest 19 = .ok (.istore_n 3, 1) := by decide +kernel
theorem dX10_interest_20 : decode cX10_interest 20 = .ok (.iconst 4, 1) := by decide +kernel
theorem dX10_interest_21 : decode cX10_interest 21 = .ok (.istore 4, 2) := by decide +kernel
theorem dX10_interest_23 : decode cX10_interest 23 = .ok (.iload 4, 2) := by decide +kernel
theorem dX10_interest_25 : decode cX10_interest 25 = .ok (.iload_n 2, 1) := by decide +kernel
theorem dX10_interest_26 : decode cX10_interest 26 = .ok (.if_icmp .gt 55, 3) := by decide +kernel
theorem dX10_interest_29 : decode cX10_interest 29 = .ok (.aload_n 0, 1) := by decide +kernel
theorem dX10_interest_30 : decode cX10_interest 30 = .ok (.iload 4, 2) := by decide +kernel
theorem dX10_interest_32 : decode cX10_interest 32 = .ok (.invokevirtual 225, 3) := by decide +kernel
theorem dX10_interest_35 : decode cX10_interest 35 = .ok (.istore 5, 2) := by decide +kernel
theorem dX10_interest_37 : decode cX10_interest 37 = .ok (.iconst 0, 1) := by decide +kernel
theorem dX10_interest_38 : decode cX10_interest 38 = .ok (.istore 6, 2) := by decide +kernel
theorem dX10_interest_40 : decode cX10_interest 40 = .ok (.iload 6, 2) := by decide +kernel
theorem dX10_interest_42 : decode cX10_interest 42 = .ok (.iconst 4, 1) := by decide +kernel
theorem dX10_interest_43 : decode cX10_interest 43 = .ok (.iadd, 1) := by decide +kernel
theorem dX10_interest_44 : decode cX10_interest 44 = .ok (.iload 4, 2) := by decide +kernel
theorem dX10_interest_46 : decode cX10_interest 46 = .ok (.if_icmp .gt 29, 3) := by decide +kernel
theorem dX10_interest_49 : decode cX10_interest 49 = .ok (.iload_n 3, 1) := by decide +kernel
theorem dX10_interest_50 : decode cX10_interest 50 = .ok (.aload_n 0, 1) := by decide +kernel
theorem dX10_interest_51 : decode cX10_interest 51 = .ok (.iload 6, 2) := by decide +kernel
theorem dX10_interest_53 : decode cX10_interest 53 = .ok (.iload 5, 2) := by decide +kernel
theorem dX10_interest_55 : decode cX10_interest 55 = .ok (.invokevirtual 228, 3) := by decide +kernel
theorem dX10_interest_58 : decode cX10_interest 58 = .ok (.aload_n 0, 1) := by decide +kernel
theorem dX10_interest_59 : decode cX10_interest 59 = .ok (.getfield 231, 3) := by decide +kernel
theorem dX10_interest_62 : decode cX10_interest 62 = .ok (.imul, 1) := by decide +kernel
theorem dX10_interest_63 : decode cX10_interest 63 = .ok (.sipush 10000, 3) := by decide +kernel
theorem dX10_interest_66 : decode cX10_interest 66 = .ok (.idiv, 1) := by decide +kernel
theorem dX10_interest_67 : decode cX10_interest 67 = .ok (.iadd, 1) := by decide +kernel
theorem dX10_interest_68 : decode cX10_interest 68 = .ok (.istore_n 3, 1) := by decide +kernel
theorem dX10_interest_69 : decode cX10_interest 69 = .ok (.iinc 6 1, 3) := by decide +kernel
theorem dX10_interest_72 : decode cX10_interest 72 = .ok (.goto (-32), 3) := by decide +kernel
theorem dX10_interest_75 : decode cX10_interest 75 = .ok (.iinc 4 1, 3) := by decide +kernel
theorem dX10_interest_78 : decode cX10_interest 78 = .ok (.goto (-55), 3) := by decide +kernel
theorem dX10_interest_81 : decode cX10_interest 81 = .ok (.iload_n 3, 1) := by decide +kernel
theorem dX10_interest_82 : decode cX10_interest 82 = .ok (.ireturn, 1) := by decide +kernel
theorem dX10_forgive_0 : decode cX10_forgive 0 = .ok (.iload_n 1, 1) := by decide +kernel
theorem dX10_forgive_1 : decode cX10_forgive 1 = .ok (.invokestatic 102, 3) := by decide +kernel
theorem dX10_forgive_4 : decode cX10_forgive 4 = .ok (.ifCond .eq 12, 3) := by decide +kernel
theorem dX10_forgive_7 : decode cX10_forgive 7 = .ok (.iload_n 2, 1) := by decide +kernel
theorem dX10_forgive_8 : decode cX10_forgive 8 = .ok (.iconst 0, 1) := by decide +kernel
theorem dX10_forgive_9 : decode cX10_forgive 9 = .ok (.iconst 1, 1) := by decide +kernel
theorem dX10_forgive_10 : decode cX10_forgive 10 = .ok (.invokestatic 90, 3) := by decide +kernel
theorem dX10_forgive_13 : decode cX10_forgive 13 = .ok (.ifCond .ne 6, 3) := by decide +kernel
theorem dX10_forgive_16 : decode cX10_forgive 16 = .ok (.ldc 106, 2) := by decide +kernel
theorem dX10_forgive_18 : decode cX10_forgive 18 = .ok (.ireturn, 1) := by decide +kernel
theorem dX10_forgive_19 : decode cX10_forgive 19 = .ok (.aload_n 0, 1) := by decide +kernel
theorem dX10_forgive_20 : decode cX10_forgive 20 = .ok (.getfield 28, 3) := by decide +kernel
theorem dX10_forgive_23 : decode cX10_forgive 23 = .ok (.iload_n 1, 1) := by decide +kernel
theorem dX10_forgive_24 : decode cX10_forgive 24 = .ok (.baload, 1) := by decide +kernel
theorem dX10_forgive_25 : decode cX10_forgive 25 = .ok (.ifCond .eq 7, 3) := by decide +kernel
theorem dX10_forgive_28 : decode cX10_forgive 28 = .ok (.iconst 1, 1) := by decide +kernel
theorem dX10_forgive_29 : decode cX10_forgive 29 = .ok (.goto 4, 3) := by decide +kernel
theorem dX10_forgive_32 : decode cX10_forgive 32 = .ok (.iconst 0, 1) := by decide +kernel
theorem dX10_forgive_33 : decode cX10_forgive 33 = .ok (.istore_n 3, 1) := by decide +kernel
theorem dX10_forgive_34 : decode cX10_forgive 34 = .ok (.aload_n 0, 1) := by decide +kernel
theorem dX10_forgive_35 : decode cX10_forgive 35 = .ok (.getfield 28, 3) := by decide +kernel
theorem dX10_forgive_38 : decode cX10_forgive 38 = .ok (.iload_n 1, 1) := by decide +kernel
theorem dX10_forgive_39 : decode cX10_forgive 39 = .ok (.iload_n 2, 1) := by decide +kernel
theorem dX10_forgive_40 : decode cX10_forgive 40 = .ok (.iconst 1, 1) := by decide +kernel
theorem dX10_forgive_41 : decode cX10_forgive 41 = .ok (.if_icmp .ne 7, 3) := by decide +kernel
theorem dX10_forgive_44 : decode cX10_forgive 44 = .ok (.iconst 1, 1) := by decide +kernel
theorem dX10_forgive_45 : decode cX10_forgive 45 = .ok (.goto 4, 3) := by decide +kernel
theorem dX10_forgive_48 : decode cX10_forgive 48 = .ok (.iconst 0, 1) := by decide +kernel
theorem dX10_forgive_49 : decode cX10_forgive 49 = .ok (.bastore, 1) := by decide +kernel
theorem dX10_forgive_50 : decode cX10_forgive 50 = .ok (.iload_n 3, 1) := by decide +kernel
theorem dX10_forgive_51 : decode cX10_forgive 51 = .ok (.ireturn, 1) := by decide +kernel
theorem dX10_rate_0 : decode cX10_rate 0 = .ok (.iload_n 1, 1) := by decide +kernel
theorem dX10_rate_1 : decode cX10_rate 1 = .ok (.iconst 0, 1) := by decide +kernel
theorem dX10_rate_2 : decode cX10_rate 2 = .ok (.sipush 500, 3) := by decide +kernel
theorem dX10_rate_5 : decode cX10_rate 5 = .ok (.invokestatic 90, 3) := by decide +kernel
theorem dX10_rate_8 : decode cX10_rate 8 = .ok (.ifCond .ne 6, 3) := by decide +kernel
theorem dX10_rate_11 : decode cX10_rate 11 = .ok (.ldc 106, 2) := by decide +kernel
theorem dX10_rate_13 : decode cX10_rate 13 = .ok (.ireturn, 1) := by decide +kernel
theorem dX10_rate_14 : decode cX10_rate 14 = .ok (.aload_n 0, 1) := by decide +kernel
theorem dX10_rate_15 : decode cX10_rate 15 = .ok (.getfield 231, 3) := by decide +kernel
theorem dX10_rate_18 : decode cX10_rate 18 = .ok (.istore_n 2, 1) := by decide +kernel
theorem dX10_rate_19 : decode cX10_rate 19 = .ok (.aload_n 0, 1) := by decide +kernel
theorem dX10_rate_20 : decode cX10_rate 20 = .ok (.iload_n 1, 1) := by decide +kernel
theorem dX10_rate_21 : decode cX10_rate 21 = .ok (.putfield 231, 3) := by decide +kernel
theorem dX10_rate_24 : decode cX10_rate 24 = .ok (.iload_n 2, 1) := by decide +kernel
theorem dX10_rate_25 : decode cX10_rate 25 = .ok (.ireturn, 1) := by decide +kernel
theorem dX10_weeks_0 : decode cX10_weeks 0 = .ok (.iload_n 1, 1) := by decide +kernel
theorem dX10_weeks_1 : decode cX10_weeks 1 = .ok (.iconst 1, 1) := by decide +kernel
theorem dX10_weeks_2 : decode cX10_weeks 2 = .ok (.bipush 60, 2) := by decide +kernel
theorem dX10_weeks_4 : decode cX10_weeks 4 = .ok (.invokestatic 90, 3) := by decide +kernel
theorem dX10_weeks_7 : decode cX10_weeks 7 = .ok (.ifCond .eq 14, 3) := by decide +kernel
theorem dX10_weeks_10 : decode cX10_weeks 10 = .ok (.aload_n 0, 1) := by decide +kernel
theorem dX10_weeks_11 : decode cX10_weeks 11 = .ok (.getfield 94, 3) := by decide +kernel
theorem dX10_weeks_14 : decode cX10_weeks 14 = .ok (.iload_n 1, 1) := by decide +kernel
theorem dX10_weeks_15 : decode cX10_weeks 15 = .ok (.iadd, 1) := by decide +kernel
theorem dX10_weeks_16 : decode cX10_weeks 16 = .ok (.bipush 120, 2) := by decide +kernel
theorem dX10_weeks_18 : decode cX10_weeks 18 = .ok (.if_icmp .lt 6, 3) := by decide +kernel
theorem dX10_weeks_21 : decode cX10_weeks 21 = .ok (.ldc 106, 2) := by decide +kernel
theorem dX10_weeks_23 : decode cX10_weeks 23 = .ok (.ireturn, 1) := by decide +kernel
theorem dX10_weeks_24 : decode cX10_weeks 24 = .ok (.aload_n 0, 1) := by decide +kernel
theorem dX10_weeks_25 : decode cX10_weeks 25 = .ok (.dup, 1) := by decide +kernel
theorem dX10_weeks_26 : decode cX10_weeks 26 = .ok (.getfield 94, 3) := by decide +kernel
theorem dX10_weeks_29 : decode cX10_weeks 29 = .ok (.iload_n 1, 1) := by decide +kernel
theorem dX10_weeks_30 : decode cX10_weeks 30 = .ok (.iadd, 1) := by decide +kernel
theorem dX10_weeks_31 : decode cX10_weeks 31 = .ok (.putfield 94, 3) := by decide +kernel
theorem dX10_weeks_34 : decode cX10_weeks 34 = .ok (.aload_n 0, 1) := by decide +kernel
theorem dX10_weeks_35 : decode cX10_weeks 35 = .ok (.getfield 94, 3) := by decide +kernel
theorem dX10_weeks_38 : decode cX10_weeks 38 = .ok (.ireturn, 1) := by decide +kernel
theorem dX10_isSheet_0 : decode cX10_isSheet 0 = .ok (.iload_n 0, 1) := by decide +kernel
theorem dX10_isSheet_1 : decode cX10_isSheet 1 = .ok (.iconst 0, 1) := by decide +kernel
theorem dX10_isSheet_2 : decode cX10_isSheet 2 = .ok (.iconst 1, 1) := by decide +kernel
theorem dX10_isSheet_3 : decode cX10_isSheet 3 = .ok (.invokestatic 90, 3) := by decide +kernel
theorem dX10_isSheet_6 : decode cX10_isSheet 6 = .ok (.ireturn, 1) := by decide +kernel
theorem dX10_sheet_0 : decode cX10_sheet 0 = .ok (.iload_n 1, 1) := by decide +kernel
theorem dX10_sheet_1 : decode cX10_sheet 1 = .ok (.invokestatic 234, 3) := by decide +kernel
theorem dX10_sheet_4 : decode cX10_sheet 4 = .ok (.ifCond .eq 9, 3) := by decide +kernel
theorem dX10_sheet_7 : decode cX10_sheet 7 = .ok (.iload_n 2, 1) := by decide +kernel
theorem dX10_sheet_8 : decode cX10_sheet 8 = .ok (.bipush 120, 2) := by decide +kernel
theorem dX10_sheet_10 : decode cX10_sheet 10 = .ok (.if_icmp .le 6, 3) := by decide +kernel
theorem dX10_sheet_13 : decode cX10_sheet 13 = .ok (.ldc 106, 2) := by decide +kernel
theorem dX10_sheet_15 : decode cX10_sheet 15 = .ok (.ireturn, 1) := by decide +kernel
theorem dX10_sheet_16 : decode cX10_sheet 16 = .ok (.iload_n 2, 1) := by decide +kernel
theorem dX10_sheet_17 : decode cX10_sheet 17 = .ok (.ifCond .ge 6, 3) := by decide +kernel
theorem dX10_sheet_20 : decode cX10_sheet 20 = .ok (.ldc 237, 2) := by decide +kernel
theorem dX10_sheet_22 : decode cX10_sheet 22 = .ok (.ireturn, 1) := by decide +kernel
theorem dX10_sheet_23 : decode cX10_sheet 23 = .ok (.aload_n 0, 1) := by decide +kernel
theorem dX10_sheet_24 : decode cX10_sheet 24 = .ok (.getfield 72, 3) := by decide +kernel
theorem dX10_sheet_27 : decode cX10_sheet 27 = .ok (.iload_n 1, 1) := by decide +kernel
theorem dX10_sheet_28 : decode cX10_sheet 28 = .ok (.iload_n 2, 1) := by decide +kernel
theorem dX10_sheet_29 : decode cX10_sheet 29 = .ok (.iastore, 1) := by decide +kernel
theorem dX10_sheet_30 : decode cX10_sheet 30 = .ok (.iconst 0, 1) := by decide +kernel
theorem dX10_sheet_31 : decode cX10_sheet 31 = .ok (.istore_n 3, 1) := by decide +kernel
theorem dX10_sheet_32 : decode cX10_sheet 32 = .ok (.iload_n 3, 1) := by decide +kernel
theorem dX10_sheet_33 : decode cX10_sheet 33 = .ok (.iload_n 2, 1) := by decide +kernel
theorem dX10_sheet_34 : decode cX10_sheet 34 = .ok (.if_icmp .ge 21, 3) := by decide +kernel
theorem dX10_sheet_37 : decode cX10_sheet 37 = .ok (.aload_n 0, 1) := by decide +kernel
theorem dX10_sheet_38 : decode cX10_sheet 38 = .ok (.getfield 75, 3) := by decide +kernel
theorem dX10_sheet_41 : decode cX10_sheet 41 = .ok (.bipush 120, 2) := by decide +kernel
theorem dX10_sheet_43 : decode cX10_sheet 43 = .ok (.iload_n 1, 1) := by decide +kernel
theorem dX10_sheet_44 : decode cX10_sheet 44 = .ok (.imul, 1) := by decide +kernel
theorem dX10_sheet_45 : decode cX10_sheet 45 = .ok (.iload_n 3, 1) := by decide +kernel
theorem dX10_sheet_46 : decode cX10_sheet 46 = .ok (.iadd, 1) := by decide +kernel
theorem dX10_sheet_47 : decode cX10_sheet 47 = .ok (.iconst 0, 1) := by decide +kernel
theorem dX10_sheet_48 : decode cX10_sheet 48 = .ok (.iastore, 1) := by decide +kernel
theorem dX10_sheet_49 : decode cX10_sheet 49 = .ok (.iinc 3 1, 3) := by decide +kernel
theorem dX10_sheet_52 : decode cX10_sheet 52 = .ok (.goto (-20), 3) := by decide +kernel
theorem dX10_sheet_55 : decode cX10_sheet 55 = .ok (.iload_n 2, 1) := by decide +kernel
theorem dX10_sheet_56 : decode cX10_sheet 56 = .ok (.ireturn, 1) := by decide +kernel
theorem dX10_mark_0 : decode cX10_mark 0 = .ok (.iload_n 1, 1) := by decide +kernel
theorem dX10_mark_1 : decode cX10_mark 1 = .ok (.invokestatic 234, 3) := by decide +kernel
theorem dX10_mark_4 : decode cX10_mark 4 = .ok (.ifCond .ne 6, 3) := by decide +kernel
theorem dX10_mark_7 : decode cX10_mark 7 = .ok (.ldc 106, 2) := by decide +kernel
theorem dX10_mark_9 : decode cX10_mark 9 = .ok (.ireturn, 1) := by decide +kernel
theorem dX10_mark_10 : decode cX10_mark 10 = .ok (.aload_n 0, 1) := by decide +kernel
theorem dX10_mark_11 : decode cX10_mark 11 = .ok (.getfield 72, 3) := by decide +kernel
theorem dX10_mark_14 : decode cX10_mark 14 = .ok (.iload_n 1, 1) := by decide +kernel
theorem dX10_mark_15 : decode cX10_mark 15 = .ok (.iaload, 1) := by decide +kernel
theorem dX10_mark_16 : decode cX10_mark 16 = .ok (.ifCond .ge 6, 3) := by decide +kernel
theorem dX10_mark_19 : decode cX10_mark 19 = .ok (.ldc 238, 2) := by decide +kernel
theorem dX10_mark_21 : decode cX10_mark 21 = .ok (.ireturn, 1) := by decide +kernel
theorem dX10_mark_22 : decode cX10_mark 22 = .ok (.iload_n 2, 1) := by decide +kernel
theorem dX10_mark_23 : decode cX10_mark 23 = .ok (.iconst 0, 1) := by decide +kernel
theorem dX10_mark_24 : decode cX10_mark 24 = .ok (.aload_n 0, 1) := by decide +kernel
theorem dX10_mark_25 : decode cX10_mark 25 = .ok (.getfield 72, 3) := by decide +kernel
theorem dX10_mark_28 : decode cX10_mark 28 = .ok (.iload_n 1, 1) := by decide +kernel
theorem dX10_mark_29 : decode cX10_mark 29 = .ok (.iaload, 1) := by decide +kernel
theorem dX10_mark_30 : decode cX10_mark 30 = .ok (.iconst 1, 1) := by decide +kernel
theorem dX10_mark_31 : decode cX10_mark 31 = .ok (.isub, 1) := by decide +kernel
theorem dX10_mark_32 : decode cX10_mark 32 = .ok (.invokestatic 90, 3) := by decide +kernel
theorem dX10_mark_35 : decode cX10_mark 35 = .ok (.ifCond .ne 6, 3) := by decide +kernel
theorem dX10_mark_38 : decode cX10_mark 38 = .ok (.ldc 239, 2) := by decide +kernel
theorem dX10_mark_40 : decode cX10_mark 40 = .ok (.ireturn, 1) := by decide +kernel
theorem dX10_mark_41 : decode cX10_mark 41 = .ok (.aload_n 0, 1) := by decide +kernel
theorem dX10_mark_42 : decode cX10_mark 42 = .ok (.getfield 75, 3) := by decide +kernel
theorem dX10_mark_45 : decode cX10_mark 45 = .ok (.bipush 120, 2) := by decide +kernel
theorem dX10_mark_47 : decode cX10_mark 47 = .ok (.iload_n 1, 1) := by decide +kernel
theorem dX10_mark_48 : decode cX10_mark 48 = .ok (.imul, 1) := by decide +kernel
theorem dX10_mark_49 : decode cX10_mark 49 = .ok (.iload_n 2, 1) := by decide +kernel
theorem dX10_mark_50 : decode cX10_mark 50 = .ok (.iadd, 1) := by decide +kernel
theorem dX10_mark_51 : decode cX10_mark 51 = .ok (.iaload, 1) := by decide +kernel
theorem dX10_mark_52 : decode cX10_mark 52 = .ok (.istore 4, 2) := by decide +kernel
theorem dX10_mark_54 : decode cX10_mark 54 = .ok (.aload_n 0, 1) := by decide +kernel
theorem dX10_mark_55 : decode cX10_mark 55 = .ok (.getfield 75, 3) := by decide +kernel
theorem dX10_mark_58 : decode cX10_mark 58 = .ok (.bipush 120, 2) := by decide +kernel
theorem dX10_mark_60 : decode cX10_mark 60 = .ok (.iload_n 1, 1) := by decide +kernel
theorem dX10_mark_61 : decode cX10_mark 61 = .ok (.imul, 1) := by decide +kernel
theorem dX10_mark_62 : decode cX10_mark 62 = .ok (.iload_n 2, 1) := by decide +kernel
theorem dX10_mark_63 : decode cX10_mark 63 = .ok (.iadd, 1) := by decide +kernel
theorem dX10_mark_64 : decode cX10_mark 64 = .ok (.iload_n 3, 1) := by decide +kernel
theorem dX10_mark_65 : decode cX10_mark 65 = .ok (.i2b, 1) := by decide +kernel
theorem dX10_mark_66 : decode cX10_mark 66 = .ok (.iastore, 1) := by decide +kernel
theorem dX10_mark_67 : decode cX10_mark 67 = .ok (.iload 4, 2) := by decide +kernel
theorem dX10_mark_69 : decode cX10_mark 69 = .ok (.ireturn, 1) := by decide +kernel
theorem dX10_copy_0 : decode cX10_copy 0 = .ok (.iload_n 1, 1) := by decide +kernel
theorem dX10_copy_1 : decode cX10_copy 1 = .ok (.invokestatic 234, 3) := by decide +kernel
theorem dX10_copy_4 : decode cX10_copy 4 = .ok (.ifCond .eq 10, 3) := by decide +kernel
theorem dX10_copy_7 : decode cX10_copy 7 = .ok (.iload_n 3, 1) := by decide +kernel
theorem dX10_copy_8 : decode cX10_copy 8 = .ok (.invokestatic 234, 3) := by decide +kernel
theorem dX10_copy_11 : decode cX10_copy 11 = .ok (.ifCond .ne 6, 3) := by decide +kernel
theorem dX10_copy_14 : decode cX10_copy 14 = .ok (.ldc 106, 2) := by decide +kernel
theorem dX10_copy_16 : decode cX10_copy 16 = .ok (.ireturn, 1) := by decide +kernel
theorem dX10_copy_17 : decode cX10_copy 17 = .ok (.aload_n 0, 1) := by decide +kernel
theorem dX10_copy_18 : decode cX10_copy 18 = .ok (.getfield 72, 3) := by decide +kernel
theorem dX10_copy_21 : decode cX10_copy 21 = .ok (.iload_n 1, 1) := by decide +kernel
theorem dX10_copy_22 : decode cX10_copy 22 = .ok (.iaload, 1) := by decide +kernel
theorem dX10_copy_23 : decode cX10_copy 23 = .ok (.ifCond .lt 12, 3) := by decide +kernel
theorem dX10_copy_26 : decode cX10_copy 26 = .ok (.aload_n 0, 1) := by decide +kernel
theorem dX10_copy_27 : decode cX10_copy 27 = .ok (.getfield 72, 3) := by decide +kernel
theorem dX10_copy_30 : decode cX10_copy 30 = .ok (.iload_n 3, 1) := by decide +kernel
theorem dX10_copy_31 : decode cX10_copy 31 = .ok (.iaload, 1) := by decide +kernel
theorem dX10_copy_32 : decode cX10_copy 32 = .ok (.ifCond .ge 6, 3) := by decide +kernel
theorem dX10_copy_35 : decode cX10_copy 35 = .ok (.ldc 238, 2) := by decide +kernel
theorem dX10_copy_37 : decode cX10_copy 37 = .ok (.ireturn, 1) := by decide +kernel
theorem dX10_copy_38 : decode cX10_copy 38 = .ok (.iload_n 2, 1) := by decide +kernel
theorem dX10_copy_39 : decode cX10_copy 39 = .ok (.ifCond .lt 48, 3) := by decide +kernel
theorem dX10_copy_42 : decode cX10_copy 42 = .ok (.iload 4, 2) := by decide +kernel
theorem dX10_copy_44 : decode cX10_copy 44 = .ok (.ifCond .lt 43, 3) := by decide +kernel
theorem dX10_copy_47 : decode cX10_copy 47 = .ok (.iload 5, 2) := by decide +kernel
theorem dX10_copy_49 : decode cX10_copy 49 = .ok (.ifCond .lt 38, 3) := by decide +kernel
theorem dX10_copy_52 : decode cX10_copy 52 = .ok (.iload_n 2, 1) := by decide +kernel
theorem dX10_copy_53 : decode cX10_copy 53 = .ok (.i2l, 1) := by decide +kernel
theorem dX10_copy_54 : decode cX10_copy 54 = .ok (.iload 5, 2) := by decide +kernel
theorem dX10_copy_56 : decode cX10_copy 56 = .ok (.i2l, 1) := by decide +kernel
theorem dX10_copy_57 : decode cX10_copy 57 = .ok (.ladd, 1) := by decide +kernel
theorem dX10_copy_58 : decode cX10_copy 58 = .ok (.aload_n 0, 1) := by decide +kernel
theorem dX10_copy_59 : decode cX10_copy 59 = .ok (.getfield 72, 3) := by decide +kernel
theorem dX10_copy_62 : decode cX10_copy 62 = .ok (.iload_n 1, 1) := by decide +kernel
theorem dX10_copy_63 : decode cX10_copy 63 = .ok (.iaload, 1) := by decide +kernel
theorem dX10_copy_64 : decode cX10_copy 64 = .ok (.i2l, 1) := by decide +kernel
theorem dX10_copy_65 : decode cX10_copy 65 = .ok (.lcmp, 1) := by decide +kernel
theorem dX10_copy_66 : decode cX10_copy 66 = .ok (.ifCond .gt 21, 3) := by decide +kernel
theorem dX10_copy_69 : decode cX10_copy 69 = .ok (.iload 4, 2) := by decide +kernel
theorem dX10_copy_71 : decode cX10_copy 71 = .ok (.i2l, 1) := by decide +kernel
theorem dX10_copy_72 : decode cX10_copy 72 = .ok (.iload 5, 2) := by decide +kernel
theorem dX10_copy_74 : decode cX10_copy 74 = .ok (.i2l, 1) := by decide +kernel
theorem dX10_copy_75 : decode cX10_copy 75 = .ok (.ladd, 1) := by decide +kernel
theorem dX10_copy_76 : decode cX10_copy 76 = .ok (.aload_n 0, 1) := by decide +kernel
theorem dX10_copy_77 : decode cX10_copy 77 = .ok (.getfield 72, 3) := by decide +kernel
theorem dX10_copy_80 : decode cX10_copy 80 = .ok (.iload_n 3, 1) := by decide +kernel
theorem dX10_copy_81 : decode cX10_copy 81 = .ok (.iaload, 1) := by decide +kernel
theorem dX10_copy_82 : decode cX10_copy 82 = .ok (.i2l, 1) := by decide +kernel
theorem dX10_copy_83 : decode cX10_copy 83 = .ok (.lcmp, 1) := by decide +kernel
theorem dX10_copy_84 : decode cX10_copy 84 = .ok (.ifCond .le 6, 3) := by decide +kernel
theorem dX10_copy_87 : decode cX10_copy 87 = .ok (.ldc 239, 2) := by decide +kernel
theorem dX10_copy_89 : decode cX10_copy 89 = .ok (.ireturn, 1) := by decide +kernel
theorem dX10_copy_90 : decode cX10_copy 90 = .ok (.iconst 0, 1) := by decide +kernel
theorem dX10_copy_91 : decode cX10_copy 91 = .ok (.istore 6, 2) := by decide +kernel
theorem dX10_copy_93 : decode cX10_copy 93 = .ok (.iload 6, 2) := by decide +kernel
theorem dX10_copy_95 : decode cX10_copy 95 = .ok (.iload 5, 2) := by decide +kernel
theorem dX10_copy_97 : decode cX10_copy 97 = .ok (.if_icmp .ge 30, 3) := by decide +kernel
theorem dX10_copy_100 : decode cX10_copy 100 = .ok (.aload_n 0, 1) := by decide +kernel
theorem dX10_copy_101 : decode cX10_copy 101 = .ok (.getfield 87, 3) := by decide +kernel
theorem dX10_copy_104 : decode cX10_copy 104 = .ok (.iload 6, 2) := by decide +kernel
theorem dX10_copy_106 : decode cX10_copy 106 = .ok (.aload_n 0, 1) := by decide +kernel
theorem dX10_copy_107 : decode cX10_copy 107 = .ok (.getfield 75, 3) := by decide +kernel
theorem dX10_copy_110 : decode cX10_copy 110 = .ok (.bipush 120, 2) := by decide +kernel
theorem dX10_copy_112 : decode cX10_copy 112 = .ok (.iload_n 1, 1) := by decide +kernel
theorem dX10_copy_113 : decode cX10_copy 113 = .ok (.imul, 1) := by decide +kernel
theorem dX10_copy_114 : decode cX10_copy 114 = .ok (.iload_n 2, 1) := by decide +kernel
theorem dX10_copy_115 : decode cX10_copy 115 = .ok (.iadd, 1) := by decide +kernel
theorem dX10_copy_116 : decode cX10_copy 116 = .ok (.iload 6, 2) := by decide +kernel
theorem dX10_copy_118 : decode cX10_copy 118 = .ok (.iadd, 1) := by decide +kernel
theorem dX10_copy_119 : decode cX10_copy 119 = .ok (.iaload, 1) := by decide +kernel
theorem dX10_copy_120 : decode cX10_copy 120 = .ok (.iastore, 1) := by decide +kernel
theorem dX10_copy_121 : decode cX10_copy 121 = .ok (.iinc 6 1, 3) := by decide +kernel
theorem dX10_copy_124 : decode cX10_copy 124 = .ok (.goto (-31), 3) := by decide +kernel
theorem dX10_copy_127 : decode cX10_copy 127 = .ok (.iconst 0, 1) := by decide +kernel
theorem dX10_copy_128 : decode cX10_copy 128 = .ok (.istore 6, 2) := by decide +kernel
theorem dX10_copy_130 : decode cX10_copy 130 = .ok (.iload 6, 2) := by decide +kernel
theorem dX10_copy_132 : decode cX10_copy 132 = .ok (.iload 5, 2) := by decide +kernel
theorem dX10_copy_134 : decode cX10_copy 134 = .ok (.if_icmp .ge 31, 3) := by decide +kernel
theorem dX10_copy_137 : decode cX10_copy 137 = .ok (.aload_n 0, 1) := by decide +kernel
theorem dX10_copy_138 : decode cX10_copy 138 = .ok (.getfield 75, 3) := by decide +kernel
theorem dX10_copy_141 : decode cX10_copy 141 = .ok (.bipush 120, 2) := by decide +kernel
theorem dX10_copy_143 : decode cX10_copy 143 = .ok (.iload_n 3, 1) := by decide +kernel
theorem dX10_copy_144 : decode cX10_copy 144 = .ok (.imul, 1) := by decide +kernel
theorem dX10_copy_145 : decode cX10_copy 145 = .ok (.iload 4, 2) := by decide +kernel
theorem dX10_copy_147 : decode cX10_copy 147 = .ok (.iadd, 1) := by decide +kernel
theorem dX10_copy_148 : decode cX10_copy 148 = .ok (.iload 6, 2) := by decide +kernel
theorem dX10_copy_150 : decode cX10_copy 150 = .ok (.iadd, 1) := by decide +kernel
theorem dX10_copy_151 : decode cX10_copy 151 = .ok (.aload_n 0, 1) := by decide +kernel
theorem dX10_copy_152 : decode cX10_copy 152 = .ok (.getfield 87, 3) := by decide +kernel
theorem dX10_copy_155 : decode cX10_copy 155 = .ok (.iload 6, 2) := by decide +kernel
theorem dX10_copy_157 : decode cX10_copy 157 = .ok (.iaload, 1) := by decide +kernel
theorem dX10_copy_158 : decode cX10_copy 158 = .ok (.iastore, 1) := by decide +kernel
theorem dX10_copy_159 : decode cX10_copy 159 = .ok (.iinc 6 1, 3) := by decide +kernel
theorem dX10_copy_162 : decode cX10_copy 162 = .ok (.goto (-32), 3) := by decide +kernel
theorem dX10_copy_165 : decode cX10_copy 165 = .ok (.iload 5, 2) := by decide +kernel
theorem dX10_copy_167 : decode cX10_copy 167 = .ok (.ireturn, 1) := by decide +kernel
theorem dX10_lose_0 : decode cX10_lose 0 = .ok (.iload_n 1, 1) := by decide +kernel
theorem dX10_lose_1 : decode cX10_lose 1 = .ok (.invokestatic 234, 3) := by decide +kernel
theorem dX10_lose_4 : decode cX10_lose 4 = .ok (.ifCond .ne 6, 3) := by decide +kernel
theorem dX10_lose_7 : decode cX10_lose 7 = .ok (.ldc 106, 2) := by decide +kernel
theorem dX10_lose_9 : decode cX10_lose 9 = .ok (.ireturn, 1) := by decide +kernel
theorem dX10_lose_10 : decode cX10_lose 10 = .ok (.aload_n 0, 1) := by decide +kernel
theorem dX10_lose_11 : decode cX10_lose 11 = .ok (.getfield 72, 3) := by decide +kernel
theorem dX10_lose_14 : decode cX10_lose 14 = .ok (.iload_n 1, 1) := by decide +kernel
theorem dX10_lose_15 : decode cX10_lose 15 = .ok (.iaload, 1) := by decide +kernel
theorem dX10_lose_16 : decode cX10_lose 16 = .ok (.ifCond .ge 6, 3) := by decide +kernel
theorem dX10_lose_19 : decode cX10_lose 19 = .ok (.ldc 238, 2) := by decide +kernel
theorem dX10_lose_21 : decode cX10_lose 21 = .ok (.ireturn, 1) := by decide +kernel
theorem dX10_lose_22 : decode cX10_lose 22 = .ok (.aload_n 0, 1) := by decide +kernel
theorem dX10_lose_23 : decode cX10_lose 23 = .ok (.getfield 72, 3) := by decide +kernel
theorem dX10_lose_26 : decode cX10_lose 26 = .ok (.iload_n 1, 1) := by decide +kernel
theorem dX10_lose_27 : decode cX10_lose 27 = .ok (.iaload, 1) := by decide +kernel
theorem dX10_lose_28 : decode cX10_lose 28 = .ok (.istore_n 2, 1) := by decide +kernel
theorem dX10_lose_29 : decode cX10_lose 29 = .ok (.aload_n 0, 1) := by decide +kernel
theorem dX10_lose_30 : decode cX10_lose 30 = .ok (.getfield 72, 3) := by decide +kernel
theorem dX10_lose_33 : decode cX10_lose 33 = .ok (.iload_n 1, 1) := by decide +kernel
theorem dX10_lose_34 : decode cX10_lose 34 = .ok (.iconst (-1), 1) := by decide +kernel
theorem dX10_lose_35 : decode cX10_lose 35 = .ok (.iastore, 1) := by decide +kernel
theorem dX10_lose_36 : decode cX10_lose 36 = .ok (.iload_n 2, 1) := by decide +kernel
theorem dX10_lose_37 : decode cX10_lose 37 = .ok (.ireturn, 1) := by decide +kernel
theorem dX10_count_0 : decode cX10_count 0 = .ok (.iconst 0, 1) := by decide +kernel
theorem dX10_count_1 : decode cX10_count 1 = .ok (.istore_n 2, 1) := by decide +kernel
theorem dX10_count_2 : decode cX10_count 2 = .ok (.iload_n 1, 1) := by decide +kernel
theorem dX10_count_3 : decode cX10_count 3 = .ok (.tableswitch 179 0 7 #[45, 50, 85, 90, 95, 100, 133, 174], 45) := by decide +kernel
theorem dX10_count_48 : decode cX10_count 48 = .ok (.aload_n 0, 1) := by decide +kernel
theorem dX10_count_49 : decode cX10_count 49 = .ok (.getfield 107, 3) := by decide +kernel
theorem dX10_count_52 : decode cX10_count 52 = .ok (.ireturn, 1) := by decide +kernel
theorem dX10_count_53 : decode cX10_count 53 = .ok (.iconst 0, 1) := by decide +kernel
theorem dX10_count_54 : decode cX10_count 54 = .ok (.istore_n 3, 1) := by decide +kernel
theorem dX10_count_55 : decode cX10_count 55 = .ok (.iload_n 3, 1) := by decide +kernel
theorem dX10_count_56 : decode cX10_count 56 = .ok (.aload_n 0, 1) := by decide +kernel
theorem dX10_count_57 : decode cX10_count 57 = .ok (.getfield 107, 3) := by decide +kernel
theorem dX10_count_60 : decode cX10_count 60 = .ok (.if_icmp .ge 26, 3) := by decide +kernel
theorem dX10_count_63 : decode cX10_count 63 = .ok (.iload_n 2, 1) := by decide +kernel
theorem dX10_count_64 : decode cX10_count 64 = .ok (.aload_n 0, 1) := by decide +kernel
theorem dX10_count_65 : decode cX10_count 65 = .ok (.getfield 22, 3) := by decide +kernel
theorem dX10_count_68 : decode cX10_count 68 = .ok (.iload_n 3, 1) := by decide +kernel
theorem dX10_count_69 : decode cX10_count 69 = .ok (.iaload, 1) := by decide +kernel
theorem dX10_count_70 : decode cX10_count 70 = .ok (.ifCond .ge 7, 3) := by decide +kernel
theorem dX10_count_73 : decode cX10_count 73 = .ok (.iconst 1, 1) := by decide +kernel
theorem dX10_count_74 : decode cX10_count 74 = .ok (.goto 4, 3) := by decide +kernel
theorem dX10_count_77 : decode cX10_count 77 = .ok (.iconst 0, 1) := by decide +kernel
theorem dX10_count_78 : decode cX10_count 78 = .ok (.iadd, 1) := by decide +kernel
theorem dX10_count_79 : decode cX10_count 79 = .ok (.istore_n 2, 1) := by decide +kernel
theorem dX10_count_80 : decode cX10_count 80 = .ok (.iinc 3 1, 3) := by decide +kernel
theorem dX10_count_83 : decode cX10_count 83 = .ok (.goto (-28), 3) := by decide +kernel
theorem dX10_count_86 : decode cX10_count 86 = .ok (.iload_n 2, 1) := by decide +kernel
theorem dX10_count_87 : decode cX10_count 87 = .ok (.ireturn, 1) := by decide +kernel
theorem dX10_count_88 : decode cX10_count 88 = .ok (.aload_n 0, 1) := by decide +kernel
theorem dX10_count_89 : decode cX10_count 89 = .ok (.getfield 184, 3) := by decide +kernel
theorem dX10_count_92 : decode cX10_count 92 = .ok (.ireturn, 1) := by decide +kernel
theorem dX10_count_93 : decode cX10_count 93 = .ok (.aload_n 0, 1) := by decide +kernel
theorem dX10_count_94 : decode cX10_count 94 = .ok (.getfield 212, 3) := by decide +kernel
theorem dX10_count_97 : decode cX10_count 97 = .ok (.ireturn, 1) := by decide +kernel
theorem dX10_count_98 : decode cX10_count 98 = .ok (.aload_n 0, 1) := by decide +kernel
theorem dX10_count_99 : decode cX10_count 99 = .ok (.getfield 94, 3) := by decide +kernel
theorem dX10_count_102 : decode cX10_count 102 = .ok (.ireturn, 1) := by decide +kernel
theorem dX10_count_103 : decode cX10_count 103 = .ok (.iconst 0, 1) := by decide +kernel
theorem dX10_count_104 : decode cX10_count 104 = .ok (.istore_n 3, 1) := by decide +kernel
theorem dX10_count_105 : decode cX10_count 105 = .ok (.iload_n 3, 1) := by decide +kernel
theorem dX10_count_106 : decode cX10_count 106 = .ok (.bipush 120, 2) := by decide +kernel
theorem dX10_count_108 : decode cX10_count 108 = .ok (.if_icmp .ge 26, 3) := by decide +kernel
theorem dX10_count_111 : decode cX10_count 111 = .ok (.iload_n 2, 1) := by decide +kernel
theorem dX10_count_112 : decode cX10_count 112 = .ok (.aload_n 0, 1) := by decide +kernel
theorem dX10_count_113 : decode cX10_count 113 = .ok (.getfield 28, 3) := by decide +kernel
theorem dX10_count_116 : decode cX10_count 116 = .ok (.iload_n 3, 1) := by decide +kernel
theorem dX10_count_117 : decode cX10_count 117 = .ok (.baload, 1) := by decide +kernel
theorem dX10_count_118 : decode cX10_count 118 = .ok (.ifCond .eq 7, 3) := by decide +kernel
theorem dX10_count_121 : decode cX10_count 121 = .ok (.iconst 1, 1) := by decide +kernel
theorem dX10_count_122 : decode cX10_count 122 = .ok (.goto 4, 3) := by decide +kernel
theorem dX10_count_125 : decode cX10_count 125 = .ok (.iconst 0, 1) := by decide +kernel
theorem dX10_count_126 : decode cX10_count 126 = .ok (.iadd, 1) := by decide +kernel
theorem dX10_count_127 : decode cX10_count 127 = .ok (.istore_n 2, 1) := by decide +kernel
theorem dX10_count_128 : decode cX10_count 128 = .ok (.iinc 3 1, 3) := by decide +kernel
theorem dX10_count_131 : decode cX10_count 131 = .ok (.goto (-26), 3) := by decide +kernel
theorem dX10_count_134 : decode cX10_count 134 = .ok (.iload_n 2, 1) := by decide +kernel
theorem dX10_count_135 : decode cX10_count 135 = .ok (.ireturn, 1) := by decide +kernel
theorem dX10_count_136 : decode cX10_count 136 = .ok (.iconst 0, 1) := by decide +kernel
theorem dX10_count_137 : decode cX10_count 137 = .ok (.istore_n 3, 1) := by decide +kernel
theorem dX10_count_138 : decode cX10_count 138 = .ok (.iload_n 3, 1) := by decide +kernel
theorem dX10_count_139 : decode cX10_count 139 = .ok (.aload_n 0, 1) := by decide +kernel
theorem dX10_count_140 : decode cX10_count 140 = .ok (.getfield 94, 3) := by decide +kernel
theorem dX10_count_143 : decode cX10_count 143 = .ok (.if_icmp .gt 32, 3) := by decide +kernel
theorem dX10_count_146 : decode cX10_count 146 = .ok (.iload_n 2, 1) := by decide +kernel
theorem dX10_count_147 : decode cX10_count 147 = .ok (.aload_n 0, 1) := by decide +kernel
theorem dX10_count_148 : decode cX10_count 148 = .ok (.iload_n 3, 1) := by decide +kernel
theorem dX10_count_149 : decode cX10_count 149 = .ok (.iconst 0, 1) := by decide +kernel
theorem dX10_count_150 : decode cX10_count 150 = .ok (.invokevirtual 139, 3) := by decide +kernel
theorem dX10_count_153 : decode cX10_count 153 = .ok (.aload_n 0, 1) := by decide +kernel
theorem dX10_count_154 : decode cX10_count 154 = .ok (.iload_n 3, 1) := by decide +kernel
theorem dX10_count_155 : decode cX10_count 155 = .ok (.iconst 1, 1) := by decide +kernel
theorem dX10_count_156 : decode cX10_count 156 = .ok (.invokevirtual 139, 3) := by decide +kernel
theorem dX10_count_159 : decode cX10_count 159 = .ok (.if_icmp .ne 7, 3) := by decide +kernel
theorem dX10_count_162 : decode cX10_count 162 = .ok (.iconst 0, 1) := by decide +kernel
theorem dX10_count_163 : decode cX10_count 163 = .ok (.goto 4, 3) := by decide +kernel
theorem dX10_count_166 : decode cX10_count 166 = .ok (.iconst 1, 1) := by decide +kernel
theorem dX10_count_167 : decode cX10_count 167 = .ok (.iadd, 1) := by decide +kernel
theorem dX10_count_168 : decode cX10_count 168 = .ok (.istore_n 2, 1) := by decide +kernel
theorem dX10_count_169 : decode cX10_count 169 = .ok (.iinc 3 1, 3) := by decide +kernel
theorem dX10_count_172 : decode cX10_count 172 = .ok (.goto (-34), 3) := by decide +kernel
theorem dX10_count_175 : decode cX10_count 175 = .ok (.iload_n 2, 1) := by decide +kernel
theorem dX10_count_176 : decode cX10_count 176 = .ok (.ireturn, 1) := by decide +kernel
theorem dX10_count_177 : decode cX10_count 177 = .ok (.aload_n 0, 1) := by decide +kernel
theorem dX10_count_178 : decode cX10_count 178 = .ok (.getfield 143, 3) := by decide +kernel
theorem dX10_count_181 : decode cX10_count 181 = .ok (.ireturn, 1) := by decide +kernel
theorem dX10_count_182 : decode cX10_count 182 = .ok (.ldc 106, 2) := by decide +kernel
theorem dX10_count_184 : decode cX10_count 184 = .ok (.ireturn, 1) := by decide +kernel
theorem dJ9_max_7cf53_0 : decode cJ9_max_7cf53 0 = .ok (.iload_n 0, 1) := by decide +kernel
theorem dJ9_max_7cf53_1 : decode cJ9_max_7cf53 1 = .ok (.iload_n 1, 1) := by decide +kernel
theorem dJ9_max_7cf53_2 : decode cJ9_max_7cf53 2 = .ok (.if_icmp .lt 7, 3) := by decide +kernel
theorem dJ9_max_7cf53_5 : decode cJ9_max_7cf53 5 = .ok (.iload_n 0, 1) := by decide +kernel
theorem dJ9_max_7cf53_6 : decode cJ9_max_7cf53 6 = .ok (.goto 4, 3) := by decide +kernel
theorem dJ9_max_7cf53_9 : decode cJ9_max_7cf53 9 = .ok (.iload_n 1, 1) := by decide +kernel
theorem dJ9_max_7cf53_10 : decode cJ9_max_7cf53 10 = .ok (.ireturn, 1) := by decide +kernel
theorem dJ9_min_7cf53_0 : decode cJ9_min_7cf53 0 = .ok (.iload_n 0, 1) := by decide +kernel
theorem dJ9_min_7cf53_1 : decode cJ9_min_7cf53 1 = .ok (.iload_n 1, 1) := by decide +kernel
theorem dJ9_min_7cf53_2 : decode cJ9_min_7cf53 2 = .ok (.if_icmp .gt 7, 3) := by decide +kernel
theorem dJ9_min_7cf53_5 : decode cJ9_min_7cf53 5 = .ok (.iload_n 0, 1) := by decide +kernel
theorem dJ9_min_7cf53_6 : decode cJ9_min_7cf53 6 = .ok (.goto 4, 3) := by decide +kernel
theorem dJ9_min_7cf53_9 : decode cJ9_min_7cf53 9 = .ok (.iload_n 1, 1) := by decide +kernel
theorem dJ9_min_7cf53_10 : decode cJ9_min_7cf53 10 = .ok (.ireturn, 1) := by decide +kernel
theorem dJ0_length_8abf5_0 : decode cJ0_length_8abf5 0 = .ok (.aload_n 0, 1) := by decide +kernel
theorem dJ0_length_8abf5_1 : decode cJ0_length_8abf5 1 = .ok (.getfield 9, 3) := by decide +kernel
theorem dJ0_length_8abf5_4 : decode cJ0_length_8abf5 4 = .ok (.arraylength, 1) := by decide +kernel
theorem dJ0_length_8abf5_5 : decode cJ0_length_8abf5 5 = .ok (.aload_n 0, 1) := by decide +kernel
theorem dJ0_length_8abf5_6 : decode cJ0_length_8abf5 6 = .ok (.invokevirtual 335, 3) := by decide +kernel
theorem dJ0_length_8abf5_9 : decode cJ0_length_8abf5 9 = .ok (.ishr, 1) := by decide +kernel
theorem dJ0_length_8abf5_10 : decode cJ0_length_8abf5 10 = .ok (.ireturn, 1) := by decide +kernel
theorem dJ0_charAt_5068e_0 : decode cJ0_charAt_5068e 0 = .ok (.aload_n 0, 1) := by decide +kernel
theorem dJ0_charAt_5068e_1 : decode cJ0_charAt_5068e 1 = .ok (.invokevirtual 492, 3) := by decide +kernel
theorem dJ0_charAt_5068e_4 : decode cJ0_charAt_5068e 4 = .ok (.ifCond .eq 12, 3) := by decide +kernel
theorem dJ0_charAt_5068e_7 : decode cJ0_charAt_5068e 7 = .ok (.aload_n 0, 1) := by decide +kernel
theorem dJ0_charAt_5068e_8 : decode cJ0_charAt_5068e 8 = .ok (.getfield 9, 3) := by decide +kernel
theorem dJ0_charAt_5068e_11 : decode cJ0_charAt_5068e 11 = .ok (.iload_n 1, 1) := by decide +kernel
theorem dJ0_charAt_5068e_12 : decode cJ0_charAt_5068e 12 = .ok (.invokestatic 495, 3) := by decide +kernel
theorem dJ0_charAt_5068e_15 : decode cJ0_charAt_5068e 15 = .ok (.ireturn, 1) := by decide +kernel
theorem dJ0_charAt_5068e_16 : decode cJ0_charAt_5068e 16 = .ok (.aload_n 0, 1) := by decide +kernel
theorem dJ0_charAt_5068e_17 : decode cJ0_charAt_5068e 17 = .ok (.getfield 9, 3) := by decide +kernel
theorem dJ0_charAt_5068e_20 : decode cJ0_charAt_5068e 20 = .ok (.iload_n 1, 1) := by decide +kernel
theorem dJ0_charAt_5068e_21 : decode cJ0_charAt_5068e 21 = .ok (.invokestatic 498, 3) := by decide +kernel
theorem dJ0_charAt_5068e_24 : decode cJ0_charAt_5068e 24 = .ok (.ireturn, 1) := by decide +kernel
theorem dJ0_coder_7d493_0 : decode cJ0_coder_7d493 0 = .ok (.getstatic 38, 3) := by decide +kernel
theorem dJ0_coder_7d493_3 : decode cJ0_coder_7d493 3 = .ok (.ifCond .eq 10, 3) := by decide +kernel
theorem dJ0_coder_7d493_6 : decode cJ0_coder_7d493 6 = .ok (.aload_n 0, 1) := by decide +kernel
theorem dJ0_coder_7d493_7 : decode cJ0_coder_7d493 7 = .ok (.getfield 15, 3) := by decide +kernel
theorem dJ0_coder_7d493_10 : decode cJ0_coder_7d493 10 = .ok (.goto 4, 3) := by decide +kernel
theorem dJ0_coder_7d493_13 : decode cJ0_coder_7d493 13 = .ok (.iconst 1, 1) := by decide +kernel
theorem dJ0_coder_7d493_14 : decode cJ0_coder_7d493 14 = .ok (.ireturn, 1) := by decide +kernel
theorem dJ0_isLatin1_aae02_0 : decode cJ0_isLatin1_aae02 0 = .ok (.getstatic 38, 3) := by decide +kernel
theorem dJ0_isLatin1_aae02_3 : decode cJ0_isLatin1_aae02 3 = .ok (.ifCond .eq 14, 3) := by decide +kernel
theorem dJ0_isLatin1_aae02_6 : decode cJ0_isLatin1_aae02 6 = .ok (.aload_n 0, 1) := by decide +kernel
theorem dJ0_isLatin1_aae02_7 : decode cJ0_isLatin1_aae02 7 = .ok (.getfield 15, 3) := by decide +kernel
theorem dJ0_isLatin1_aae02_10 : decode cJ0_isLatin1_aae02 10 = .ok (.ifCond .ne 7, 3) := by decide +kernel
theorem dJ0_isLatin1_aae02_13 : decode cJ0_isLatin1_aae02 13 = .ok (.iconst 1, 1) := by decide +kernel
theorem dJ0_isLatin1_aae02_14 : decode cJ0_isLatin1_aae02 14 = .ok (.goto 4, 3) := by decide +kernel
theorem dJ0_isLatin1_aae02_17 : decode cJ0_isLatin1_aae02 17 = .ok (.iconst 0, 1) := by decide +kernel
theorem dJ0_isLatin1_aae02_18 : decode cJ0_isLatin1_aae02 18 = .ok (.ireturn, 1) := by decide +kernel
theorem dJ0_checkIndex_df160_0 : decode cJ0_checkIndex_df160 0 = .ok (.iload_n 0, 1) := by decide +kernel
theorem dJ0_checkIndex_df160_1 : decode cJ0_checkIndex_df160 1 = .ok (.iload_n 1, 1) := by decide +kernel
theorem dJ0_checkIndex_df160_2 : decode cJ0_checkIndex_df160 2 = .ok (.getstatic 1053, 3) := by decide +kernel
theorem dJ0_checkIndex_df160_5 : decode cJ0_checkIndex_df160 5 = .ok (.invokestatic 1059, 3) := by decide +kernel
theorem dJ0_checkIndex_df160_8 : decode cJ0_checkIndex_df160 8 = .ok (.pop, 1) := by decide +kernel
theorem dJ0_checkIndex_df160_9 : decode cJ0_checkIndex_df160 9 = .ok (.return_, 1) := by decide +kernel
theorem dJ1_charAt_3b067_0 : decode cJ1_charAt_3b067 0 = .ok (.iload_n 1, 1) := by decide +kernel
theorem dJ1_charAt_3b067_1 : decode cJ1_charAt_3b067 1 = .ok (.aload_n 0, 1) := by decide +kernel
theorem dJ1_charAt_3b067_2 : decode cJ1_charAt_3b067 2 = .ok (.arraylength, 1) := by decide +kernel
theorem dJ1_charAt_3b067_3 : decode cJ1_charAt_3b067 3 = .ok (.invokestatic 9, 3) := by decide +kernel
theorem dJ1_charAt_3b067_6 : decode cJ1_charAt_3b067 6 = .ok (.aload_n 0, 1) := by decide +kernel
theorem dJ1_charAt_3b067_7 : decode cJ1_charAt_3b067 7 = .ok (.iload_n 1, 1) := by decide +kernel
theorem dJ1_charAt_3b067_8 : decode cJ1_charAt_3b067 8 = .ok (.baload, 1) := by decide +kernel
theorem dJ1_charAt_3b067_9 : decode cJ1_charAt_3b067 9 = .ok (.sipush 255, 3) := by decide +kernel
theorem dJ1_charAt_3b067_12 : decode cJ1_charAt_3b067 12 = .ok (.iand, 1) := by decide +kernel
theorem dJ1_charAt_3b067_13 : decode cJ1_charAt_3b067 13 = .ok (.i2c, 1) := by decide +kernel
theorem dJ1_charAt_3b067_14 : decode cJ1_charAt_3b067 14 = .ok (.ireturn, 1) := by decide +kernel
theorem dJ2_getChar_3b067_0 : decode cJ2_getChar_3b067 0 = .ok (.getstatic 44, 3) := by decide +kernel
theorem dJ2_getChar_3b067_3 : decode cJ2_getChar_3b067 3 = .ok (.ifCond .ne 25, 3) := by decide +kernel
theorem dJ2_getChar_3b067_6 : decode cJ2_getChar_3b067 6 = .ok (.iload_n 1, 1) := by decide +kernel
theorem dJ2_getChar_3b067_7 : decode cJ2_getChar_3b067 7 = .ok (.ifCond .lt 11, 3) := by decide +kernel
theorem dJ2_getChar_3b067_10 : decode cJ2_getChar_3b067 10 = .ok (.iload_n 1, 1) := by decide +kernel
theorem dJ2_getChar_3b067_11 : decode cJ2_getChar_3b067 11 = .ok (.aload_n 0, 1) := by decide +kernel
theorem dJ2_getChar_3b067_12 : decode cJ2_getChar_3b067 12 = .ok (.invokestatic 48, 3) := by decide +kernel
theorem dJ2_getChar_3b067_15 : decode cJ2_getChar_3b067 15 = .ok (.if_icmp .lt 13, 3) := by decide +kernel
theorem dJ2_getChar_3b067_18 : decode cJ2_getChar_3b067 18 = .ok (.new 52, 3) := by decide +kernel
theorem dJ2_getChar_3b067_21 : decode cJ2_getChar_3b067 21 = .ok (.dup, 1) := by decide +kernel
theorem dJ2_getChar_3b067_22 : decode cJ2_getChar_3b067 22 = .ok (.ldc 54, 2) := by decide +kernel
theorem dJ2_getChar_3b067_24 : decode cJ2_getChar_3b067 24 = .ok (.invokespecial 56, 3) := by decide +kernel
theorem dJ2_getChar_3b067_27 : decode cJ2_getChar_3b067 27 = .ok (.athrow, 1) := by decide +kernel
theorem dJ2_getChar_3b067_28 : decode cJ2_getChar_3b067 28 = .ok (.iload_n 1, 1) := by decide +kernel
theorem dJ2_getChar_3b067_29 : decode cJ2_getChar_3b067 29 = .ok (.iconst 1, 1) := by decide +kernel
theorem dJ2_getChar_3b067_30 : decode cJ2_getChar_3b067 30 = .ok (.ishl, 1) := by decide +kernel
theorem dJ2_getChar_3b067_31 : decode cJ2_getChar_3b067 31 = .ok (.istore_n 1, 1) := by decide +kernel
theorem dJ2_getChar_3b067_32 : decode cJ2_getChar_3b067 32 = .ok (.aload_n 0, 1) := by decide +kernel
theorem dJ2_getChar_3b067_33 : decode cJ2_getChar_3b067 33 = .ok (.iload_n 1, 1) := by decide +kernel
theorem dJ2_getChar_3b067_34 : decode cJ2_getChar_3b067 34 = .ok (.iinc 1 1, 3) := by decide +kernel
theorem dJ2_getChar_3b067_37 : decode cJ2_getChar_3b067 37 = .ok (.baload, 1) := by decide +kernel
theorem dJ2_getChar_3b067_38 : decode cJ2_getChar_3b067 38 = .ok (.sipush 255, 3) := by decide +kernel
theorem dJ2_getChar_3b067_41 : decode cJ2_getChar_3b067 41 = .ok (.iand, 1) := by decide +kernel
theorem dJ2_getChar_3b067_42 : decode cJ2_getChar_3b067 42 = .ok (.getstatic 59, 3) := by decide +kernel
theorem dJ2_getChar_3b067_45 : decode cJ2_getChar_3b067 45 = .ok (.ishl, 1) := by decide +kernel
theorem dJ2_getChar_3b067_46 : decode cJ2_getChar_3b067 46 = .ok (.aload_n 0, 1) := by decide +kernel
theorem dJ2_getChar_3b067_47 : decode cJ2_getChar_3b067 47 = .ok (.iload_n 1, 1) := by decide +kernel
theorem dJ2_getChar_3b067_48 : decode cJ2_getChar_3b067 48 = .ok (.baload, 1) := by decide +kernel
theorem dJ2_getChar_3b067_49 : decode cJ2_getChar_3b067 49 = .ok (.sipush 255, 3) := by decide +kernel
theorem dJ2_getChar_3b067_52 : decode cJ2_getChar_3b067 52 = .ok (.iand, 1) := by decide +kernel
theorem dJ2_getChar_3b067_53 : decode cJ2_getChar_3b067 53 = .ok (.getstatic 63, 3) := by decide +kernel
theorem dJ2_getChar_3b067_56 : decode cJ2_getChar_3b067 56 = .ok (.ishl, 1) := by decide +kernel
theorem dJ2_getChar_3b067_57 : decode cJ2_getChar_3b067 57 = .ok (.ior, 1) := by decide +kernel
theorem dJ2_getChar_3b067_58 : decode cJ2_getChar_3b067 58 = .ok (.i2c, 1) := by decide +kernel
theorem dJ2_getChar_3b067_59 : decode cJ2_getChar_3b067 59 = .ok (.ireturn, 1) := by decide +kernel
theorem dJ2_length_9d52b_0 : decode cJ2_length_9d52b 0 = .ok (.aload_n 0, 1) := by decide +kernel
theorem dJ2_length_9d52b_1 : decode cJ2_length_9d52b 1 = .ok (.arraylength, 1) := by decide +kernel
theorem dJ2_length_9d52b_2 : decode cJ2_length_9d52b 2 = .ok (.iconst 1, 1) := by decide +kernel
theorem dJ2_length_9d52b_3 : decode cJ2_length_9d52b 3 = .ok (.ishr, 1) := by decide +kernel
theorem dJ2_length_9d52b_4 : decode cJ2_length_9d52b 4 = .ok (.ireturn, 1) := by decide +kernel
theorem dJ2_charAt_3b067_0 : decode cJ2_charAt_3b067 0 = .ok (.iload_n 1, 1) := by decide +kernel
theorem dJ2_charAt_3b067_1 : decode cJ2_charAt_3b067 1 = .ok (.aload_n 0, 1) := by decide +kernel
theorem dJ2_charAt_3b067_2 : decode cJ2_charAt_3b067 2 = .ok (.invokestatic 67, 3) := by decide +kernel
theorem dJ2_charAt_3b067_5 : decode cJ2_charAt_3b067 5 = .ok (.aload_n 0, 1) := by decide +kernel
theorem dJ2_charAt_3b067_6 : decode cJ2_charAt_3b067 6 = .ok (.iload_n 1, 1) := by decide +kernel
theorem dJ2_charAt_3b067_7 : decode cJ2_charAt_3b067 7 = .ok (.invokestatic 71, 3) := by decide +kernel
theorem dJ2_charAt_3b067_10 : decode cJ2_charAt_3b067 10 = .ok (.ireturn, 1) := by decide +kernel
theorem dJ2_checkIndex_2214a_0 : decode cJ2_checkIndex_2214a 0 = .ok (.iload_n 0, 1) := by decide +kernel
theorem dJ2_checkIndex_2214a_1 : decode cJ2_checkIndex_2214a 1 = .ok (.aload_n 1, 1) := by decide +kernel
theorem dJ2_checkIndex_2214a_2 : decode cJ2_checkIndex_2214a 2 = .ok (.invokestatic 48, 3) := by decide +kernel
theorem dJ2_checkIndex_2214a_5 : decode cJ2_checkIndex_2214a 5 = .ok (.invokestatic 414, 3) := by decide +kernel
theorem dJ2_checkIndex_2214a_8 : decode cJ2_checkIndex_2214a 8 = .ok (.return_, 1) := by decide +kernel
theorem dJ7_fill_53178_0 : decode cJ7_fill_53178 0 = .ok (.iconst 0, 1) := by decide +kernel
theorem dJ7_fill_53178_1 : decode cJ7_fill_53178 1 = .ok (.istore_n 2, 1) := by decide +kernel
theorem dJ7_fill_53178_2 : decode cJ7_fill_53178 2 = .ok (.aload_n 0, 1) := by decide +kernel
theorem dJ7_fill_53178_3 : decode cJ7_fill_53178 3 = .ok (.arraylength, 1) := by decide +kernel
theorem dJ7_fill_53178_4 : decode cJ7_fill_53178 4 = .ok (.istore_n 3, 1) := by decide +kernel
theorem dJ7_fill_53178_5 : decode cJ7_fill_53178 5 = .ok (.iload_n 2, 1) := by decide +kernel
theorem dJ7_fill_53178_6 : decode cJ7_fill_53178 6 = .ok (.iload_n 3, 1) := by decide +kernel
theorem dJ7_fill_53178_7 : decode cJ7_fill_53178 7 = .ok (.if_icmp .ge 13, 3) := by decide +kernel
theorem dJ7_fill_53178_10 : decode cJ7_fill_53178 10 = .ok (.aload_n 0, 1) := by decide +kernel
theorem dJ7_fill_53178_11 : decode cJ7_fill_53178 11 = .ok (.iload_n 2, 1) := by decide +kernel
theorem dJ7_fill_53178_12 : decode cJ7_fill_53178 12 = .ok (.iload_n 1, 1) := by decide +kernel
theorem dJ7_fill_53178_13 : decode cJ7_fill_53178 13 = .ok (.iastore, 1) := by decide +kernel
theorem dJ7_fill_53178_14 : decode cJ7_fill_53178 14 = .ok (.iinc 2 1, 3) := by decide +kernel
theorem dJ7_fill_53178_17 : decode cJ7_fill_53178 17 = .ok (.goto (-12), 3) := by decide +kernel
theorem dJ7_fill_53178_20 : decode cJ7_fill_53178 20 = .ok (.return_, 1) := by decide +kernel
theorem dJ7_fill_031fb_0 : decode cJ7_fill_031fb 0 = .ok (.iconst 0, 1) := by decide +kernel
theorem dJ7_fill_031fb_1 : decode cJ7_fill_031fb 1 = .ok (.istore_n 2, 1) := by decide +kernel
theorem dJ7_fill_031fb_2 : decode cJ7_fill_031fb 2 = .ok (.aload_n 0, 1) := by decide +kernel
theorem dJ7_fill_031fb_3 : decode cJ7_fill_031fb 3 = .ok (.arraylength, 1) := by decide +kernel
theorem dJ7_fill_031fb_4 : decode cJ7_fill_031fb 4 = .ok (.istore_n 3, 1) := by decide +kernel
theorem dJ7_fill_031fb_5 : decode cJ7_fill_031fb 5 = .ok (.iload_n 2, 1) := by decide +kernel
theorem dJ7_fill_031fb_6 : decode cJ7_fill_031fb 6 = .ok (.iload_n 3, 1) := by decide +kernel
theorem dJ7_fill_031fb_7 : decode cJ7_fill_031fb 7 = .ok (.if_icmp .ge 13, 3) := by decide +kernel
theorem dJ7_fill_031fb_10 : decode cJ7_fill_031fb 10 = .ok (.aload_n 0, 1) := by decide +kernel
theorem dJ7_fill_031fb_11 : decode cJ7_fill_031fb 11 = .ok (.iload_n 2, 1) := by decide +kernel
theorem dJ7_fill_031fb_12 : decode cJ7_fill_031fb 12 = .ok (.iload_n 1, 1) := by decide +kernel
theorem dJ7_fill_031fb_13 : decode cJ7_fill_031fb 13 = .ok (.bastore, 1) := by decide +kernel
theorem dJ7_fill_031fb_14 : decode cJ7_fill_031fb 14 = .ok (.iinc 2 1, 3) := by decide +kernel
theorem dJ7_fill_031fb_17 : decode cJ7_fill_031fb 17 = .ok (.goto (-12), 3) := by decide +kernel
theorem dJ7_fill_031fb_20 : decode cJ7_fill_031fb 20 = .ok (.return_, 1) := by decide +kernel
theorem dJ3_checkIndex_8e157_0 : decode cJ3_checkIndex_8e157 0 = .ok (.iload_n 0, 1) := by decide +kernel
theorem dJ3_checkIndex_8e157_1 : decode cJ3_checkIndex_8e157 1 = .ok (.ifCond .lt 8, 3) := by decide +kernel
theorem dJ3_checkIndex_8e157_4 : decode cJ3_checkIndex_8e157 4 = .ok (.iload_n 0, 1) := by decide +kernel
theorem dJ3_checkIndex_8e157_5 : decode cJ3_checkIndex_8e157 5 = .ok (.iload_n 1, 1) := by decide +kernel
theorem dJ3_checkIndex_8e157_6 : decode cJ3_checkIndex_8e157 6 = .ok (.if_icmp .lt 10, 3) := by decide +kernel
theorem dJ3_checkIndex_8e157_9 : decode cJ3_checkIndex_8e157 9 = .ok (.aload_n 2, 1) := by decide +kernel
theorem dJ3_checkIndex_8e157_10 : decode cJ3_checkIndex_8e157 10 = .ok (.iload_n 0, 1) := by decide +kernel
theorem dJ3_checkIndex_8e157_11 : decode cJ3_checkIndex_8e157 11 = .ok (.iload_n 1, 1) := by decide +kernel
theorem dJ3_checkIndex_8e157_12 : decode cJ3_checkIndex_8e157 12 = .ok (.invokestatic 95, 3) := by decide +kernel
theorem dJ3_checkIndex_8e157_15 : decode cJ3_checkIndex_8e157 15 = .ok (.athrow, 1) := by decide +kernel
theorem dJ3_checkIndex_8e157_16 : decode cJ3_checkIndex_8e157 16 = .ok (.iload_n 0, 1) := by decide +kernel
theorem dJ3_checkIndex_8e157_17 : decode cJ3_checkIndex_8e157 17 = .ok (.ireturn, 1) := by decide +kernel
