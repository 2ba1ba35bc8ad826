theorem dX1_init_0 : decode cX1_init 0 = .ok (.aload_n 0, 1) := by decide +kernel
theorem dX1_init_1 : decode cX1_init 1 = .ok (.invokespecial 3, 3) := by decide +kernel
theorem dX1_init_4 : decode cX1_init 4 = .ok (.aload_n 0, 1) := by decide +kernel
theorem dX1_init_5 : decode cX1_init 5 = .ok (.bipush 30, 2) := by decide +kernel
theorem dX1_init_7 : decode cX1_init 7 = .ok (.newarray .int, 2) := by decide +kernel
theorem dX1_init_9 : decode cX1_init 9 = .ok (.putfield 11, 3) := by decide +kernel
theorem dX1_init_12 : decode cX1_init 12 = .ok (.aload_n 0, 1) := by decide +kernel
theorem dX1_init_13 : decode cX1_init 13 = .ok (.bipush 30, 2) := by decide +kernel
theorem dX1_init_15 : decode cX1_init 15 = .ok (.newarray .boolean, 2) := by decide +kernel
theorem dX1_init_17 : decode cX1_init 17 = .ok (.putfield 15, 3) := by decide +kernel
theorem dX1_init_20 : decode cX1_init 20 = .ok (.aload_n 0, 1) := by decide +kernel
theorem dX1_init_21 : decode cX1_init 21 = .ok (.bipush 30, 2) := by decide +kernel
theorem dX1_init_23 : decode cX1_init 23 = .ok (.newarray .int, 2) := by decide +kernel
theorem dX1_init_25 : decode cX1_init 25 = .ok (.putfield 19, 3) := by decide +kernel
theorem dX1_init_28 : decode cX1_init 28 = .ok (.aload_n 0, 1) := by decide +kernel
theorem dX1_init_29 : decode cX1_init 29 = .ok (.bipush 30, 2) := by decide +kernel
theorem dX1_init_31 : decode cX1_init 31 = .ok (.newarray .int, 2) := by decide +kernel
theorem dX1_init_33 : decode cX1_init 33 = .ok (.putfield 22, 3) := by decide +kernel
theorem dX1_init_36 : decode cX1_init 36 = .ok (.return_, 1) := by decide +kernel
theorem dX1_isFull_0 : decode cX1_isFull 0 = .ok (.aload_n 0, 1) := by decide +kernel
theorem dX1_isFull_1 : decode cX1_isFull 1 = .ok (.getfield 25, 3) := by decide +kernel
theorem dX1_isFull_4 : decode cX1_isFull 4 = .ok (.bipush 30, 2) := by decide +kernel
theorem dX1_isFull_6 : decode cX1_isFull 6 = .ok (.if_icmp .ne 7, 3) := by decide +kernel
theorem dX1_isFull_9 : decode cX1_isFull 9 = .ok (.iconst 1, 1) := by decide +kernel
theorem dX1_isFull_10 : decode cX1_isFull 10 = .ok (.goto 4, 3) := by decide +kernel
theorem dX1_isFull_13 : decode cX1_isFull 13 = .ok (.iconst 0, 1) := by decide +kernel
theorem dX1_isFull_14 : decode cX1_isFull 14 = .ok (.ireturn, 1) := by decide +kernel
theorem dX1_latestIsCatch_0 : decode cX1_latestIsCatch 0 = .ok (.aload_n 0, 1) := by decide +kernel
theorem dX1_latestIsCatch_1 : decode cX1_latestIsCatch 1 = .ok (.getfield 25, 3) := by decide +kernel
theorem dX1_latestIsCatch_4 : decode cX1_latestIsCatch 4 = .ok (.ifCond .le 21, 3) := by decide +kernel
theorem dX1_latestIsCatch_7 : decode cX1_latestIsCatch 7 = .ok (.aload_n 0, 1) := by decide +kernel
theorem dX1_latestIsCatch_8 : decode cX1_latestIsCatch 8 = .ok (.getfield 15, 3) := by decide +kernel
theorem dX1_latestIsCatch_11 : decode cX1_latestIsCatch 11 = .ok (.aload_n 0, 1) := by decide +kernel
theorem dX1_latestIsCatch_12 : decode cX1_latestIsCatch 12 = .ok (.getfield 25, 3) := by decide +kernel
theorem dX1_latestIsCatch_15 : decode cX1_latestIsCatch 15 = .ok (.iconst 1, 1) := by decide +kernel
theorem dX1_latestIsCatch_16 : decode cX1_latestIsCatch 16 = .ok (.isub, 1) := by decide +kernel
theorem dX1_latestIsCatch_17 : decode cX1_latestIsCatch 17 = .ok (.baload, 1) := by decide +kernel
theorem dX1_latestIsCatch_18 : decode cX1_latestIsCatch 18 = .ok (.ifCond .eq 7, 3) := by decide +kernel
theorem dX1_latestIsCatch_21 : decode cX1_latestIsCatch 21 = .ok (.iconst 1, 1) := by decide +kernel
theorem dX1_latestIsCatch_22 : decode cX1_latestIsCatch 22 = .ok (.goto 4, 3) := by decide +kernel
theorem dX1_latestIsCatch_25 : decode cX1_latestIsCatch 25 = .ok (.iconst 0, 1) := by decide +kernel
theorem dX1_latestIsCatch_26 : decode cX1_latestIsCatch 26 = .ok (.ireturn, 1) := by decide +kernel
theorem dX1_latestIsCall_0 : decode cX1_latestIsCall 0 = .ok (.aload_n 0, 1) := by decide +kernel
theorem dX1_latestIsCall_1 : decode cX1_latestIsCall 1 = .ok (.getfield 25, 3) := by decide +kernel
theorem dX1_latestIsCall_4 : decode cX1_latestIsCall 4 = .ok (.ifCond .le 21, 3) := by decide +kernel
theorem dX1_latestIsCall_7 : decode cX1_latestIsCall 7 = .ok (.aload_n 0, 1) := by decide +kernel
theorem dX1_latestIsCall_8 : decode cX1_latestIsCall 8 = .ok (.getfield 15, 3) := by decide +kernel
theorem dX1_latestIsCall_11 : decode cX1_latestIsCall 11 = .ok (.aload_n 0, 1) := by decide +kernel
theorem dX1_latestIsCall_12 : decode cX1_latestIsCall 12 = .ok (.getfield 25, 3) := by decide +kernel
theorem dX1_latestIsCall_15 : decode cX1_latestIsCall 15 = .ok (.iconst 1, 1) := by decide +kernel
theorem dX1_latestIsCall_16 : decode cX1_latestIsCall 16 = .ok (.isub, 1) := by decide +kernel
theorem dX1_latestIsCall_17 : decode cX1_latestIsCall 17 = .ok (.baload, 1) := by decide +kernel
theorem dX1_latestIsCall_18 : decode cX1_latestIsCall 18 = .ok (.ifCond .ne 7, 3) := by decide +kernel
theorem dX1_latestIsCall_21 : decode cX1_latestIsCall 21 = .ok (.iconst 1, 1) := by decide +kernel
theorem dX1_latestIsCall_22 : decode cX1_latestIsCall 22 = .ok (.goto 4, 3) := by decide +kernel
theorem dX1_latestIsCall_25 : decode cX1_latestIsCall 25 = .ok (.iconst 0, 1) := by decide +kernel
theorem dX1_latestIsCall_26 : decode cX1_latestIsCall 26 = .ok (.ireturn, 1) := by decide +kernel
theorem dX1_add_0 : decode cX1_add 0 = .ok (.aload_n 0, 1) := by decide +kernel
theorem dX1_add_1 : decode cX1_add 1 = .ok (.invokevirtual 29, 3) := by decide +kernel
theorem dX1_add_4 : decode cX1_add 4 = .ok (.ifCond .eq 6, 3) := by decide +kernel
theorem dX1_add_7 : decode cX1_add 7 = .ok (.bipush (-5), 2) := by decide +kernel
theorem dX1_add_9 : decode cX1_add 9 = .ok (.ireturn, 1) := by decide +kernel
theorem dX1_add_10 : decode cX1_add 10 = .ok (.aload_n 0, 1) := by decide +kernel
theorem dX1_add_11 : decode cX1_add 11 = .ok (.getfield 11, 3) := by decide +kernel
theorem dX1_add_14 : decode cX1_add 14 = .ok (.aload_n 0, 1) := by decide +kernel
theorem dX1_add_15 : decode cX1_add 15 = .ok (.getfield 25, 3) := by decide +kernel
theorem dX1_add_18 : decode cX1_add 18 = .ok (.iload_n 1, 1) := by decide +kernel
theorem dX1_add_19 : decode cX1_add 19 = .ok (.iastore, 1) := by decide +kernel
theorem dX1_add_20 : decode cX1_add 20 = .ok (.aload_n 0, 1) := by decide +kernel
theorem dX1_add_21 : decode cX1_add 21 = .ok (.getfield 15, 3) := by decide +kernel
theorem dX1_add_24 : decode cX1_add 24 = .ok (.aload_n 0, 1) := by decide +kernel
theorem dX1_add_25 : decode cX1_add 25 = .ok (.getfield 25, 3) := by decide +kernel
theorem dX1_add_28 : decode cX1_add 28 = .ok (.iconst 0, 1) := by decide +kernel
theorem dX1_add_29 : decode cX1_add 29 = .ok (.bastore, 1) := by decide +kernel
theorem dX1_add_30 : decode cX1_add 30 = .ok (.aload_n 0, 1) := by decide +kernel
theorem dX1_add_31 : decode cX1_add 31 = .ok (.dup, 1) := by decide +kernel
theorem dX1_add_32 : decode cX1_add 32 = .ok (.getfield 25, 3) := by decide +kernel
theorem dX1_add_35 : decode cX1_add 35 = .ok (.iconst 1, 1) := by decide +kernel
theorem dX1_add_36 : decode cX1_add 36 = .ok (.iadd, 1) := by decide +kernel
theorem dX1_add_37 : decode cX1_add 37 = .ok (.putfield 25, 3) := by decide +kernel
theorem dX1_add_40 : decode cX1_add 40 = .ok (.iconst 0, 1) := by decide +kernel
theorem dX1_add_41 : decode cX1_add 41 = .ok (.ireturn, 1) := by decide +kernel
theorem dX1_addCatch_0 : decode cX1_addCatch 0 = .ok (.aload_n 0, 1) := by decide +kernel
theorem dX1_addCatch_1 : decode cX1_addCatch 1 = .ok (.invokevirtual 29, 3) := by decide +kernel
theorem dX1_addCatch_4 : decode cX1_addCatch 4 = .ok (.ifCond .eq 4, 3) := by decide +kernel
theorem dX1_addCatch_7 : decode cX1_addCatch 7 = .ok (.return_, 1) := by decide +kernel
theorem dX1_addCatch_8 : decode cX1_addCatch 8 = .ok (.aload_n 0, 1) := by decide +kernel
theorem dX1_addCatch_9 : decode cX1_addCatch 9 = .ok (.getfield 15, 3) := by decide +kernel
theorem dX1_addCatch_12 : decode cX1_addCatch 12 = .ok (.aload_n 0, 1) := by decide +kernel
theorem dX1_addCatch_13 : decode cX1_addCatch 13 = .ok (.getfield 25, 3) := by decide +kernel
theorem dX1_addCatch_16 : decode cX1_addCatch 16 = .ok (.iconst 1, 1) := by decide +kernel
theorem dX1_addCatch_17 : decode cX1_addCatch 17 = .ok (.bastore, 1) := by decide +kernel
theorem dX1_addCatch_18 : decode cX1_addCatch 18 = .ok (.aload_n 0, 1) := by decide +kernel
theorem dX1_addCatch_19 : decode cX1_addCatch 19 = .ok (.getfield 19, 3) := by decide +kernel
theorem dX1_addCatch_22 : decode cX1_addCatch 22 = .ok (.aload_n 0, 1) := by decide +kernel
theorem dX1_addCatch_23 : decode cX1_addCatch 23 = .ok (.getfield 25, 3) := by decide +kernel
theorem dX1_addCatch_26 : decode cX1_addCatch 26 = .ok (.iload_n 1, 1) := by decide +kernel
theorem dX1_addCatch_27 : decode cX1_addCatch 27 = .ok (.iastore, 1) := by decide +kernel
theorem dX1_addCatch_28 : decode cX1_addCatch 28 = .ok (.aload_n 0, 1) := by decide +kernel
theorem dX1_addCatch_29 : decode cX1_addCatch 29 = .ok (.getfield 22, 3) := by decide +kernel
theorem dX1_addCatch_32 : decode cX1_addCatch 32 = .ok (.aload_n 0, 1) := by decide +kernel
theorem dX1_addCatch_33 : decode cX1_addCatch 33 = .ok (.getfield 25, 3) := by decide +kernel
theorem dX1_addCatch_36 : decode cX1_addCatch 36 = .ok (.iload_n 2, 1) := by decide +kernel
theorem dX1_addCatch_37 : decode cX1_addCatch 37 = .ok (.iastore, 1) := by decide +kernel
theorem dX1_addCatch_38 : decode cX1_addCatch 38 = .ok (.aload_n 0, 1) := by decide +kernel
theorem dX1_addCatch_39 : decode cX1_addCatch 39 = .ok (.dup, 1) := by decide +kernel
theorem dX1_addCatch_40 : decode cX1_addCatch 40 = .ok (.getfield 25, 3) := by decide +kernel
theorem dX1_addCatch_43 : decode cX1_addCatch 43 = .ok (.iconst 1, 1) := by decide +kernel
theorem dX1_addCatch_44 : decode cX1_addCatch 44 = .ok (.iadd, 1) := by decide +kernel
theorem dX1_addCatch_45 : decode cX1_addCatch 45 = .ok (.putfield 25, 3) := by decide +kernel
theorem dX1_addCatch_48 : decode cX1_addCatch 48 = .ok (.return_, 1) := by decide +kernel
theorem dX1_place_0 : decode cX1_place 0 = .ok (.aload_n 0, 1) := by decide +kernel
theorem dX1_place_1 : decode cX1_place 1 = .ok (.getfield 25, 3) := by decide +kernel
theorem dX1_place_4 : decode cX1_place 4 = .ok (.ifCond .le 17, 3) := by decide +kernel
theorem dX1_place_7 : decode cX1_place 7 = .ok (.aload_n 0, 1) := by decide +kernel
theorem dX1_place_8 : decode cX1_place 8 = .ok (.getfield 11, 3) := by decide +kernel
theorem dX1_place_11 : decode cX1_place 11 = .ok (.aload_n 0, 1) := by decide +kernel
theorem dX1_place_12 : decode cX1_place 12 = .ok (.getfield 25, 3) := by decide +kernel
theorem dX1_place_15 : decode cX1_place 15 = .ok (.iconst 1, 1) := by decide +kernel
theorem dX1_place_16 : decode cX1_place 16 = .ok (.isub, 1) := by decide +kernel
theorem dX1_place_17 : decode cX1_place 17 = .ok (.iaload, 1) := by decide +kernel
theorem dX1_place_18 : decode cX1_place 18 = .ok (.goto 4, 3) := by decide +kernel
theorem dX1_place_21 : decode cX1_place 21 = .ok (.iconst (-1), 1) := by decide +kernel
theorem dX1_place_22 : decode cX1_place 22 = .ok (.ireturn, 1) := by decide +kernel
theorem dX1_goOnAt_0 : decode cX1_goOnAt 0 = .ok (.aload_n 0, 1) := by decide +kernel
theorem dX1_goOnAt_1 : decode cX1_goOnAt 1 = .ok (.getfield 25, 3) := by decide +kernel
theorem dX1_goOnAt_4 : decode cX1_goOnAt 4 = .ok (.ifCond .le 15, 3) := by decide +kernel
theorem dX1_goOnAt_7 : decode cX1_goOnAt 7 = .ok (.aload_n 0, 1) := by decide +kernel
theorem dX1_goOnAt_8 : decode cX1_goOnAt 8 = .ok (.getfield 11, 3) := by decide +kernel
theorem dX1_goOnAt_11 : decode cX1_goOnAt 11 = .ok (.aload_n 0, 1) := by decide +kernel
theorem dX1_goOnAt_12 : decode cX1_goOnAt 12 = .ok (.getfield 25, 3) := by decide +kernel
theorem dX1_goOnAt_15 : decode cX1_goOnAt 15 = .ok (.iconst 1, 1) := by decide +kernel
theorem dX1_goOnAt_16 : decode cX1_goOnAt 16 = .ok (.isub, 1) := by decide +kernel
theorem dX1_goOnAt_17 : decode cX1_goOnAt 17 = .ok (.iload_n 1, 1) := by decide +kernel
theorem dX1_goOnAt_18 : decode cX1_goOnAt 18 = .ok (.iastore, 1) := by decide +kernel
theorem dX1_goOnAt_19 : decode cX1_goOnAt 19 = .ok (.return_, 1) := by decide +kernel
theorem dX1_comeBack_0 : decode cX1_comeBack 0 = .ok (.aload_n 0, 1) := by decide +kernel
theorem dX1_comeBack_1 : decode cX1_comeBack 1 = .ok (.getfield 25, 3) := by decide +kernel
theorem dX1_comeBack_4 : decode cX1_comeBack 4 = .ok (.ifCond .le 13, 3) := by decide +kernel
theorem dX1_comeBack_7 : decode cX1_comeBack 7 = .ok (.aload_n 0, 1) := by decide +kernel
theorem dX1_comeBack_8 : decode cX1_comeBack 8 = .ok (.dup, 1) := by decide +kernel
theorem dX1_comeBack_9 : decode cX1_comeBack 9 = .ok (.getfield 25, 3) := by decide +kernel
theorem dX1_comeBack_12 : decode cX1_comeBack 12 = .ok (.iconst 1, 1) := by decide +kernel
theorem dX1_comeBack_13 : decode cX1_comeBack 13 = .ok (.isub, 1) := by decide +kernel
theorem dX1_comeBack_14 : decode cX1_comeBack 14 = .ok (.putfield 25, 3) := by decide +kernel
theorem dX1_comeBack_17 : decode cX1_comeBack 17 = .ok (.return_, 1) := by decide +kernel
theorem dX1_latestCatch_0 : decode cX1_latestCatch 0 = .ok (.aload_n 0, 1) := by decide +kernel
theorem dX1_latestCatch_1 : decode cX1_latestCatch 1 = .ok (.getfield 25, 3) := by decide +kernel
theorem dX1_latestCatch_4 : decode cX1_latestCatch 4 = .ok (.iconst 1, 1) := by decide +kernel
theorem dX1_latestCatch_5 : decode cX1_latestCatch 5 = .ok (.isub, 1) := by decide +kernel
theorem dX1_latestCatch_6 : decode cX1_latestCatch 6 = .ok (.istore_n 1, 1) := by decide +kernel
theorem dX1_latestCatch_7 : decode cX1_latestCatch 7 = .ok (.iload_n 1, 1) := by decide +kernel
theorem dX1_latestCatch_8 : decode cX1_latestCatch 8 = .ok (.ifCond .lt 20, 3) := by decide +kernel
theorem dX1_latestCatch_11 : decode cX1_latestCatch 11 = .ok (.aload_n 0, 1) := by decide +kernel
theorem dX1_latestCatch_12 : decode cX1_latestCatch 12 = .ok (.getfield 15, 3) := by decide +kernel
theorem dX1_latestCatch_15 : decode cX1_latestCatch 15 = .ok (.iload_n 1, 1) := by decide +kernel
theorem dX1_latestCatch_16 : decode cX1_latestCatch 16 = .ok (.baload, 1) := by decide +kernel
theorem dX1_latestCatch_17 : decode cX1_latestCatch 17 = .ok (.ifCond .eq 5, 3) := by decide +kernel
theorem dX1_latestCatch_20 : decode cX1_latestCatch 20 = .ok (.iload_n 1, 1) := by decide +kernel
theorem dX1_latestCatch_21 : decode cX1_latestCatch 21 = .ok (.ireturn, 1) := by decide +kernel
theorem dX1_latestCatch_22 : decode cX1_latestCatch 22 = .ok (.iinc 1 (-1), 3) := by decide +kernel
theorem dX1_latestCatch_25 : decode cX1_latestCatch 25 = .ok (.goto (-18), 3) := by decide +kernel
theorem dX1_latestCatch_28 : decode cX1_latestCatch 28 = .ok (.iconst (-1), 1) := by decide +kernel
theorem dX1_latestCatch_29 : decode cX1_latestCatch 29 = .ok (.ireturn, 1) := by decide +kernel
theorem dX2_init_0 : decode cX2_init 0 = .ok (.aload_n 0, 1) := by decide +kernel
theorem dX2_init_1 : decode cX2_init 1 = .ok (.invokespecial 3, 3) := by decide +kernel
theorem dX2_init_4 : decode cX2_init 4 = .ok (.aload_n 0, 1) := by decide +kernel
theorem dX2_init_5 : decode cX2_init 5 = .ok (.sipush 360, 3) := by decide +kernel
theorem dX2_init_8 : decode cX2_init 8 = .ok (.newarray .char, 2) := by decide +kernel
theorem dX2_init_10 : decode cX2_init 10 = .ok (.putfield 13, 3) := by decide +kernel
theorem dX2_init_13 : decode cX2_init 13 = .ok (.aload_n 0, 1) := by decide +kernel
theorem dX2_init_14 : decode cX2_init 14 = .ok (.bipush 40, 2) := by decide +kernel
theorem dX2_init_16 : decode cX2_init 16 = .ok (.newarray .int, 2) := by decide +kernel
theorem dX2_init_18 : decode cX2_init 18 = .ok (.putfield 17, 3) := by decide +kernel
theorem dX2_init_21 : decode cX2_init 21 = .ok (.aload_n 0, 1) := by decide +kernel
theorem dX2_init_22 : decode cX2_init 22 = .ok (.bipush 40, 2) := by decide +kernel
theorem dX2_init_24 : decode cX2_init 24 = .ok (.newarray .int, 2) := by decide +kernel
theorem dX2_init_26 : decode cX2_init 26 = .ok (.putfield 21, 3) := by decide +kernel
theorem dX2_init_29 : decode cX2_init 29 = .ok (.aload_n 0, 1) := by decide +kernel
theorem dX2_init_30 : decode cX2_init 30 = .ok (.bipush 40, 2) := by decide +kernel
theorem dX2_init_32 : decode cX2_init 32 = .ok (.newarray .int, 2) := by decide +kernel
theorem dX2_init_34 : decode cX2_init 34 = .ok (.putfield 24, 3) := by decide +kernel
theorem dX2_init_37 : decode cX2_init 37 = .ok (.aload_n 0, 1) := by decide +kernel
theorem dX2_init_38 : decode cX2_init 38 = .ok (.bipush 40, 2) := by decide +kernel
theorem dX2_init_40 : decode cX2_init 40 = .ok (.newarray .int, 2) := by decide +kernel
theorem dX2_init_42 : decode cX2_init 42 = .ok (.putfield 27, 3) := by decide +kernel
theorem dX2_init_45 : decode cX2_init 45 = .ok (.aload_n 0, 1) := by decide +kernel
theorem dX2_init_46 : decode cX2_init 46 = .ok (.bipush 40, 2) := by decide +kernel
theorem dX2_init_48 : decode cX2_init 48 = .ok (.newarray .boolean, 2) := by decide +kernel
theorem dX2_init_50 : decode cX2_init 50 = .ok (.putfield 30, 3) := by decide +kernel
theorem dX2_init_53 : decode cX2_init 53 = .ok (.aload_n 0, 1) := by decide +kernel
theorem dX2_init_54 : decode cX2_init 54 = .ok (.bipush 40, 2) := by decide +kernel
theorem dX2_init_56 : decode cX2_init 56 = .ok (.newarray .boolean, 2) := by decide +kernel
theorem dX2_init_58 : decode cX2_init 58 = .ok (.putfield 34, 3) := by decide +kernel
theorem dX2_init_61 : decode cX2_init 61 = .ok (.return_, 1) := by decide +kernel
theorem dX2_isFull_0 : decode cX2_isFull 0 = .ok (.aload_n 0, 1) := by decide +kernel
theorem dX2_isFull_1 : decode cX2_isFull 1 = .ok (.getfield 37, 3) := by decide +kernel
theorem dX2_isFull_4 : decode cX2_isFull 4 = .ok (.bipush 40, 2) := by decide +kernel
theorem dX2_isFull_6 : decode cX2_isFull 6 = .ok (.if_icmp .ne 7, 3) := by decide +kernel
theorem dX2_isFull_9 : decode cX2_isFull 9 = .ok (.iconst 1, 1) := by decide +kernel
theorem dX2_isFull_10 : decode cX2_isFull 10 = .ok (.goto 4, 3) := by decide +kernel
theorem dX2_isFull_13 : decode cX2_isFull 13 = .ok (.iconst 0, 1) := by decide +kernel
theorem dX2_isFull_14 : decode cX2_isFull 14 = .ok (.ireturn, 1) := by decide +kernel
theorem dX2_isWord_0 : decode cX2_isWord 0 = .ok (.iload_n 1, 1) := by decide +kernel
theorem dX2_isWord_1 : decode cX2_isWord 1 = .ok (.ifCond .lt 20, 3) := by decide +kernel
theorem dX2_isWord_4 : decode cX2_isWord 4 = .ok (.iload_n 1, 1) := by decide +kernel
theorem dX2_isWord_5 : decode cX2_isWord 5 = .ok (.getstatic 41, 3) := by decide +kernel
theorem dX2_isWord_8 : decode cX2_isWord 8 = .ok (.arraylength, 1) := by decide +kernel
theorem dX2_isWord_9 : decode cX2_isWord 9 = .ok (.aload_n 0, 1) := by decide +kernel
theorem dX2_isWord_10 : decode cX2_isWord 10 = .ok (.getfield 37, 3) := by decide +kernel
theorem dX2_isWord_13 : decode cX2_isWord 13 = .ok (.iadd, 1) := by decide +kernel
theorem dX2_isWord_14 : decode cX2_isWord 14 = .ok (.if_icmp .ge 7, 3) := by decide +kernel
theorem dX2_isWord_17 : decode cX2_isWord 17 = .ok (.iconst 1, 1) := by decide +kernel
theorem dX2_isWord_18 : decode cX2_isWord 18 = .ok (.goto 4, 3) := by decide +kernel
theorem dX2_isWord_21 : decode cX2_isWord 21 = .ok (.iconst 0, 1) := by decide +kernel
theorem dX2_isWord_22 : decode cX2_isWord 22 = .ok (.ireturn, 1) := by decide +kernel
theorem dX2_latestNumber_0 : decode cX2_latestNumber 0 = .ok (.getstatic 41, 3) := by decide +kernel
theorem dX2_latestNumber_3 : decode cX2_latestNumber 3 = .ok (.arraylength, 1) := by decide +kernel
theorem dX2_latestNumber_4 : decode cX2_latestNumber 4 = .ok (.aload_n 0, 1) := by decide +kernel
theorem dX2_latestNumber_5 : decode cX2_latestNumber 5 = .ok (.getfield 37, 3) := by decide +kernel
theorem dX2_latestNumber_8 : decode cX2_latestNumber 8 = .ok (.iadd, 1) := by decide +kernel
theorem dX2_latestNumber_9 : decode cX2_latestNumber 9 = .ok (.iconst 1, 1) := by decide +kernel
theorem dX2_latestNumber_10 : decode cX2_latestNumber 10 = .ok (.isub, 1) := by decide +kernel
theorem dX2_latestNumber_11 : decode cX2_latestNumber 11 = .ok (.ireturn, 1) := by decide +kernel
theorem dX2_isMaking_0 : decode cX2_isMaking 0 = .ok (.aload_n 0, 1) := by decide +kernel
theorem dX2_isMaking_1 : decode cX2_isMaking 1 = .ok (.getfield 37, 3) := by decide +kernel
theorem dX2_isMaking_4 : decode cX2_isMaking 4 = .ok (.ifCond .le 21, 3) := by decide +kernel
theorem dX2_isMaking_7 : decode cX2_isMaking 7 = .ok (.aload_n 0, 1) := by decide +kernel
theorem dX2_isMaking_8 : decode cX2_isMaking 8 = .ok (.getfield 34, 3) := by decide +kernel
theorem dX2_isMaking_11 : decode cX2_isMaking 11 = .ok (.aload_n 0, 1) := by decide +kernel
theorem dX2_isMaking_12 : decode cX2_isMaking 12 = .ok (.getfield 37, 3) := by decide +kernel
theorem dX2_isMaking_15 : decode cX2_isMaking 15 = .ok (.iconst 1, 1) := by decide +kernel
theorem dX2_isMaking_16 : decode cX2_isMaking 16 = .ok (.isub, 1) := by decide +kernel
theorem dX2_isMaking_17 : decode cX2_isMaking 17 = .ok (.baload, 1) := by decide +kernel
theorem dX2_isMaking_18 : decode cX2_isMaking 18 = .ok (.ifCond .ne 7, 3) := by decide +kernel
theorem dX2_isMaking_21 : decode cX2_isMaking 21 = .ok (.iconst 1, 1) := by decide +kernel
theorem dX2_isMaking_22 : decode cX2_isMaking 22 = .ok (.goto 4, 3) := by decide +kernel
theorem dX2_isMaking_25 : decode cX2_isMaking 25 = .ok (.iconst 0, 1) := by decide +kernel
theorem dX2_isMaking_26 : decode cX2_isMaking 26 = .ok (.ireturn, 1) := by decide +kernel
theorem dX2_add_0 : decode cX2_add 0 = .ok (.aload_n 0, 1) := by decide +kernel
theorem dX2_add_1 : decode cX2_add 1 = .ok (.invokevirtual 47, 3) := by decide +kernel
theorem dX2_add_4 : decode cX2_add 4 = .ok (.ifCond .ne 10, 3) := by decide +kernel
theorem dX2_add_7 : decode cX2_add 7 = .ok (.aload_n 1, 1) := by decide +kernel
theorem dX2_add_8 : decode cX2_add 8 = .ok (.invokevirtual 51, 3) := by decide +kernel
theorem dX2_add_11 : decode cX2_add 11 = .ok (.ifCond .eq 4, 3) := by decide +kernel
theorem dX2_add_14 : decode cX2_add 14 = .ok (.return_, 1) := by decide +kernel
theorem dX2_add_15 : decode cX2_add 15 = .ok (.iconst 0, 1) := by decide +kernel
theorem dX2_add_16 : decode cX2_add 16 = .ok (.istore 4, 2) := by decide +kernel
theorem dX2_add_18 : decode cX2_add 18 = .ok (.iload 4, 2) := by decide +kernel
theorem dX2_add_20 : decode cX2_add 20 = .ok (.aload_n 1, 1) := by decide +kernel
theorem dX2_add_21 : decode cX2_add 21 = .ok (.getfield 54, 3) := by decide +kernel
theorem dX2_add_24 : decode cX2_add 24 = .ok (.if_icmp .ge 30, 3) := by decide +kernel
theorem dX2_add_27 : decode cX2_add 27 = .ok (.aload_n 0, 1) := by decide +kernel
theorem dX2_add_28 : decode cX2_add 28 = .ok (.getfield 13, 3) := by decide +kernel
theorem dX2_add_31 : decode cX2_add 31 = .ok (.aload_n 0, 1) := by decide +kernel
theorem dX2_add_32 : decode cX2_add 32 = .ok (.getfield 37, 3) := by decide +kernel
theorem dX2_add_35 : decode cX2_add 35 = .ok (.bipush 9, 2) := by decide +kernel
theorem dX2_add_37 : decode cX2_add 37 = .ok (.imul, 1) := by decide +kernel
theorem dX2_add_38 : decode cX2_add 38 = .ok (.iload 4, 2) := by decide +kernel
theorem dX2_add_40 : decode cX2_add 40 = .ok (.iadd, 1) := by decide +kernel
theorem dX2_add_41 : decode cX2_add 41 = .ok (.aload_n 1, 1) := by decide +kernel
theorem dX2_add_42 : decode cX2_add 42 = .ok (.iload 4, 2) := by decide +kernel
theorem dX2_add_44 : decode cX2_add 44 = .ok (.invokevirtual 57, 3) := by decide +kernel
theorem dX2_add_47 : decode cX2_add 47 = .ok (.castore, 1) := by decide +kernel
theorem dX2_add_48 : decode cX2_add 48 = .ok (.iinc 4 1, 3) := by decide +kernel
theorem dX2_add_51 : decode cX2_add 51 = .ok (.goto (-33), 3) := by decide +kernel
theorem dX2_add_54 : decode cX2_add 54 = .ok (.aload_n 0, 1) := by decide +kernel
theorem dX2_add_55 : decode cX2_add 55 = .ok (.getfield 17, 3) := by decide +kernel
theorem dX2_add_58 : decode cX2_add 58 = .ok (.aload_n 0, 1) := by decide +kernel
theorem dX2_add_59 : decode cX2_add 59 = .ok (.getfield 37, 3) := by decide +kernel
theorem dX2_add_62 : decode cX2_add 62 = .ok (.aload_n 1, 1) := by decide +kernel
theorem dX2_add_63 : decode cX2_add 63 = .ok (.getfield 54, 3) := by decide +kernel
theorem dX2_add_66 : decode cX2_add 66 = .ok (.iastore, 1) := by decide +kernel
theorem dX2_add_67 : decode cX2_add 67 = .ok (.aload_n 0, 1) := by decide +kernel
theorem dX2_add_68 : decode cX2_add 68 = .ok (.getfield 21, 3) := by decide +kernel
theorem dX2_add_71 : decode cX2_add 71 = .ok (.aload_n 0, 1) := by decide +kernel
theorem dX2_add_72 : decode cX2_add 72 = .ok (.getfield 37, 3) := by decide +kernel
theorem dX2_add_75 : decode cX2_add 75 = .ok (.iload_n 3, 1) := by decide +kernel
theorem dX2_add_76 : decode cX2_add 76 = .ok (.iastore, 1) := by decide +kernel
theorem dX2_add_77 : decode cX2_add 77 = .ok (.aload_n 0, 1) := by decide +kernel
theorem dX2_add_78 : decode cX2_add 78 = .ok (.getfield 24, 3) := by decide +kernel
theorem dX2_add_81 : decode cX2_add 81 = .ok (.aload_n 0, 1) := by decide +kernel
theorem dX2_add_82 : decode cX2_add 82 = .ok (.getfield 37, 3) := by decide +kernel
theorem dX2_add_85 : decode cX2_add 85 = .ok (.iload_n 2, 1) := by decide +kernel
theorem dX2_add_86 : decode cX2_add 86 = .ok (.iastore, 1) := by decide +kernel
theorem dX2_add_87 : decode cX2_add 87 = .ok (.aload_n 0, 1) := by decide +kernel
theorem dX2_add_88 : decode cX2_add 88 = .ok (.getfield 27, 3) := by decide +kernel
theorem dX2_add_91 : decode cX2_add 91 = .ok (.aload_n 0, 1) := by decide +kernel
theorem dX2_add_92 : decode cX2_add 92 = .ok (.getfield 37, 3) := by decide +kernel
theorem dX2_add_95 : decode cX2_add 95 = .ok (.iconst (-1), 1) := by decide +kernel
theorem dX2_add_96 : decode cX2_add 96 = .ok (.iastore, 1) := by decide +kernel
theorem dX2_add_97 : decode cX2_add 97 = .ok (.aload_n 0, 1) := by decide +kernel
theorem dX2_add_98 : decode cX2_add 98 = .ok (.getfield 30, 3) := by decide +kernel
theorem dX2_add_101 : decode cX2_add 101 = .ok (.aload_n 0, 1) := by decide +kernel
theorem dX2_add_102 : decode cX2_add 102 = .ok (.getfield 37, 3) := by decide +kernel
theorem dX2_add_105 : decode cX2_add 105 = .ok (.iconst 0, 1) := by decide +kernel
theorem dX2_add_106 : decode cX2_add 106 = .ok (.bastore, 1) := by decide +kernel
theorem dX2_add_107 : decode cX2_add 107 = .ok (.aload_n 0, 1) := by decide +kernel
theorem dX2_add_108 : decode cX2_add 108 = .ok (.getfield 34, 3) := by decide +kernel
theorem dX2_add_111 : decode cX2_add 111 = .ok (.aload_n 0, 1) := by decide +kernel
theorem dX2_add_112 : decode cX2_add 112 = .ok (.getfield 37, 3) := by decide +kernel
theorem dX2_add_115 : decode cX2_add 115 = .ok (.iload_n 2, 1) := by decide +kernel
theorem dX2_add_116 : decode cX2_add 116 = .ok (.iconst 1, 1) := by decide +kernel
theorem dX2_add_117 : decode cX2_add 117 = .ok (.if_icmp .eq 7, 3) := by decide +kernel
theorem dX2_add_120 : decode cX2_add 120 = .ok (.iconst 1, 1) := by decide +kernel
theorem dX2_add_121 : decode cX2_add 121 = .ok (.goto 4, 3) := by decide +kernel
theorem dX2_add_124 : decode cX2_add 124 = .ok (.iconst 0, 1) := by decide +kernel
theorem dX2_add_125 : decode cX2_add 125 = .ok (.bastore, 1) := by decide +kernel
theorem dX2_add_126 : decode cX2_add 126 = .ok (.aload_n 0, 1) := by decide +kernel
theorem dX2_add_127 : decode cX2_add 127 = .ok (.dup, 1) := by decide +kernel
theorem dX2_add_128 : decode cX2_add 128 = .ok (.getfield 37, 3) := by decide +kernel
theorem dX2_add_131 : decode cX2_add 131 = .ok (.iconst 1, 1) := by decide +kernel
theorem dX2_add_132 : decode cX2_add 132 = .ok (.iadd, 1) := by decide +kernel
theorem dX2_add_133 : decode cX2_add 133 = .ok (.putfield 37, 3) := by decide +kernel
theorem dX2_add_136 : decode cX2_add 136 = .ok (.return_, 1) := by decide +kernel
theorem dX2_finishLatest_0 : decode cX2_finishLatest 0 = .ok (.aload_n 0, 1) := by decide +kernel
theorem dX2_finishLatest_1 : decode cX2_finishLatest 1 = .ok (.getfield 37, 3) := by decide +kernel
theorem dX2_finishLatest_4 : decode cX2_finishLatest 4 = .ok (.ifCond .le 15, 3) := by decide +kernel
theorem dX2_finishLatest_7 : decode cX2_finishLatest 7 = .ok (.aload_n 0, 1) := by decide +kernel
theorem dX2_finishLatest_8 : decode cX2_finishLatest 8 = .ok (.getfield 34, 3) := by decide +kernel
theorem dX2_finishLatest_11 : decode cX2_finishLatest 11 = .ok (.aload_n 0, 1) := by decide +kernel
theorem dX2_finishLatest_12 : decode cX2_finishLatest 12 = .ok (.getfield 37, 3) := by decide +kernel
theorem dX2_finishLatest_15 : decode cX2_finishLatest 15 = .ok (.iconst 1, 1) := by decide +kernel
theorem dX2_finishLatest_16 : decode cX2_finishLatest 16 = .ok (.isub, 1) := by decide +kernel
theorem dX2_finishLatest_17 : decode cX2_finishLatest 17 = .ok (.iconst 1, 1) := by decide +kernel
theorem dX2_finishLatest_18 : decode cX2_finishLatest 18 = .ok (.bastore, 1) := by decide +kernel
theorem dX2_finishLatest_19 : decode cX2_finishLatest 19 = .ok (.return_, 1) := by decide +kernel
theorem dX2_makeLatestImmediate_0 : decode cX2_makeLatestImmediate 0 = .ok (.aload_n 0, 1) := by decide +kernel
theorem dX2_makeLatestImmediate_1 : decode cX2_makeLatestImmediate 1 = .ok (.getfield 37, 3) := by decide +kernel
theorem dX2_makeLatestImmediate_4 : decode cX2_makeLatestImmediate 4 = .ok (.ifCond .ne 6, 3) := by decide +kernel
theorem dX2_makeLatestImmediate_7 : decode cX2_makeLatestImmediate 7 = .ok (.bipush (-32), 2) := by decide +kernel
theorem dX2_makeLatestImmediate_9 : decode cX2_makeLatestImmediate 9 = .ok (.ireturn, 1) := by decide +kernel
theorem dX2_makeLatestImmediate_10 : decode cX2_makeLatestImmediate 10 = .ok (.aload_n 0, 1) := by decide +kernel
theorem dX2_makeLatestImmediate_11 : decode cX2_makeLatestImmediate 11 = .ok (.getfield 30, 3) := by decide +kernel
theorem dX2_makeLatestImmediate_14 : decode cX2_makeLatestImmediate 14 = .ok (.aload_n 0, 1) := by decide +kernel
theorem dX2_makeLatestImmediate_15 : decode cX2_makeLatestImmediate 15 = .ok (.getfield 37, 3) := by decide +kernel
theorem dX2_makeLatestImmediate_18 : decode cX2_makeLatestImmediate 18 = .ok (.iconst 1, 1) := by decide +kernel
theorem dX2_makeLatestImmediate_19 : decode cX2_makeLatestImmediate 19 = .ok (.isub, 1) := by decide +kernel
theorem dX2_makeLatestImmediate_20 : decode cX2_makeLatestImmediate 20 = .ok (.iconst 1, 1) := by decide +kernel
theorem dX2_makeLatestImmediate_21 : decode cX2_makeLatestImmediate 21 = .ok (.bastore, 1) := by decide +kernel
theorem dX2_makeLatestImmediate_22 : decode cX2_makeLatestImmediate 22 = .ok (.iconst 0, 1) := by decide +kernel
theorem dX2_makeLatestImmediate_23 : decode cX2_makeLatestImmediate 23 = .ok (.ireturn, 1) := by decide +kernel
theorem dX2_giveBehaviourToLatest_0 : decode cX2_giveBehaviourToLatest 0 = .ok (.aload_n 0, 1) := by decide +kernel
theorem dX2_giveBehaviourToLatest_1 : decode cX2_giveBehaviourToLatest 1 = .ok (.getfield 37, 3) := by decide +kernel
theorem dX2_giveBehaviourToLatest_4 : decode cX2_giveBehaviourToLatest 4 = .ok (.ifCond .eq 18, 3) := by decide +kernel
theorem dX2_giveBehaviourToLatest_7 : decode cX2_giveBehaviourToLatest 7 = .ok (.aload_n 0, 1) := by decide +kernel
theorem dX2_giveBehaviourToLatest_8 : decode cX2_giveBehaviourToLatest 8 = .ok (.getfield 24, 3) := by decide +kernel
theorem dX2_giveBehaviourToLatest_11 : decode cX2_giveBehaviourToLatest 11 = .ok (.aload_n 0, 1) := by decide +kernel
theorem dX2_giveBehaviourToLatest_12 : decode cX2_giveBehaviourToLatest 12 = .ok (.getfield 37, 3) := by decide +kernel
theorem dX2_giveBehaviourToLatest_15 : decode cX2_giveBehaviourToLatest 15 = .ok (.iconst 1, 1) := by decide +kernel
theorem dX2_giveBehaviourToLatest_16 : decode cX2_giveBehaviourToLatest 16 = .ok (.isub, 1) := by decide +kernel
theorem dX2_giveBehaviourToLatest_17 : decode cX2_giveBehaviourToLatest 17 = .ok (.iaload, 1) := by decide +kernel
theorem dX2_giveBehaviourToLatest_18 : decode cX2_giveBehaviourToLatest 18 = .ok (.iconst 2, 1) := by decide +kernel
theorem dX2_giveBehaviourToLatest_19 : decode cX2_giveBehaviourToLatest 19 = .ok (.if_icmp .eq 6, 3) := by decide +kernel
theorem dX2_giveBehaviourToLatest_22 : decode cX2_giveBehaviourToLatest 22 = .ok (.bipush (-32), 2) := by decide +kernel
theorem dX2_giveBehaviourToLatest_24 : decode cX2_giveBehaviourToLatest 24 = .ok (.ireturn, 1) := by decide +kernel
theorem dX2_giveBehaviourToLatest_25 : decode cX2_giveBehaviourToLatest 25 = .ok (.aload_n 0, 1) := by decide +kernel
theorem dX2_giveBehaviourToLatest_26 : decode cX2_giveBehaviourToLatest 26 = .ok (.getfield 27, 3) := by decide +kernel
theorem dX2_giveBehaviourToLatest_29 : decode cX2_giveBehaviourToLatest 29 = .ok (.aload_n 0, 1) := by decide +kernel
theorem dX2_giveBehaviourToLatest_30 : decode cX2_giveBehaviourToLatest 30 = .ok (.getfield 37, 3) := by decide +kernel
theorem dX2_giveBehaviourToLatest_33 : decode cX2_giveBehaviourToLatest 33 = .ok (.iconst 1, 1) := by decide +kernel
theorem dX2_giveBehaviourToLatest_34 : decode cX2_giveBehaviourToLatest 34 = .ok (.isub, 1) := by decide +kernel
theorem dX2_giveBehaviourToLatest_35 : decode cX2_giveBehaviourToLatest 35 = .ok (.iload_n 1, 1) := by decide +kernel
theorem dX2_giveBehaviourToLatest_36 : decode cX2_giveBehaviourToLatest 36 = .ok (.iastore, 1) := by decide +kernel
theorem dX2_giveBehaviourToLatest_37 : decode cX2_giveBehaviourToLatest 37 = .ok (.iconst 0, 1) := by decide +kernel
theorem dX2_giveBehaviourToLatest_38 : decode cX2_giveBehaviourToLatest 38 = .ok (.ireturn, 1) := by decide +kernel
theorem dX2_isImmediate_0 : decode cX2_isImmediate 0 = .ok (.iload_n 1, 1) := by decide +kernel
theorem dX2_isImmediate_1 : decode cX2_isImmediate 1 = .ok (.getstatic 41, 3) := by decide +kernel
theorem dX2_isImmediate_4 : decode cX2_isImmediate 4 = .ok (.arraylength, 1) := by decide +kernel
theorem dX2_isImmediate_5 : decode cX2_isImmediate 5 = .ok (.if_icmp .ge 24, 3) := by decide +kernel
theorem dX2_isImmediate_8 : decode cX2_isImmediate 8 = .ok (.iload_n 1, 1) := by decide +kernel
theorem dX2_isImmediate_9 : decode cX2_isImmediate 9 = .ok (.ifCond .lt 18, 3) := by decide +kernel
theorem dX2_isImmediate_12 : decode cX2_isImmediate 12 = .ok (.getstatic 41, 3) := by decide +kernel
theorem dX2_isImmediate_15 : decode cX2_isImmediate 15 = .ok (.iload_n 1, 1) := by decide +kernel
theorem dX2_isImmediate_16 : decode cX2_isImmediate 16 = .ok (.aaload, 1) := by decide +kernel
theorem dX2_isImmediate_17 : decode cX2_isImmediate 17 = .ok (.getfield 61, 3) := by decide +kernel
theorem dX2_isImmediate_20 : decode cX2_isImmediate 20 = .ok (.ifCond .eq 7, 3) := by decide +kernel
theorem dX2_isImmediate_23 : decode cX2_isImmediate 23 = .ok (.iconst 1, 1) := by decide +kernel
theorem dX2_isImmediate_24 : decode cX2_isImmediate 24 = .ok (.goto 4, 3) := by decide +kernel
theorem dX2_isImmediate_27 : decode cX2_isImmediate 27 = .ok (.iconst 0, 1) := by decide +kernel
theorem dX2_isImmediate_28 : decode cX2_isImmediate 28 = .ok (.ireturn, 1) := by decide +kernel
theorem dX2_isImmediate_29 : decode cX2_isImmediate 29 = .ok (.aload_n 0, 1) := by decide +kernel
theorem dX2_isImmediate_30 : decode cX2_isImmediate 30 = .ok (.iload_n 1, 1) := by decide +kernel
theorem dX2_isImmediate_31 : decode cX2_isImmediate 31 = .ok (.invokevirtual 64, 3) := by decide +kernel
theorem dX2_isImmediate_34 : decode cX2_isImmediate 34 = .ok (.ifCond .eq 21, 3) := by decide +kernel
theorem dX2_isImmediate_37 : decode cX2_isImmediate 37 = .ok (.aload_n 0, 1) := by decide +kernel
theorem dX2_isImmediate_38 : decode cX2_isImmediate 38 = .ok (.getfield 30, 3) := by decide +kernel
theorem dX2_isImmediate_41 : decode cX2_isImmediate 41 = .ok (.iload_n 1, 1) := by decide +kernel
theorem dX2_isImmediate_42 : decode cX2_isImmediate 42 = .ok (.getstatic 41, 3) := by decide +kernel
theorem dX2_isImmediate_45 : decode cX2_isImmediate 45 = .ok (.arraylength, 1) := by decide +kernel
theorem dX2_isImmediate_46 : decode cX2_isImmediate 46 = .ok (.isub, 1) := by decide +kernel
theorem dX2_isImmediate_47 : decode cX2_isImmediate 47 = .ok (.baload, 1) := by decide +kernel
theorem dX2_isImmediate_48 : decode cX2_isImmediate 48 = .ok (.ifCond .eq 7, 3) := by decide +kernel
theorem dX2_isImmediate_51 : decode cX2_isImmediate 51 = .ok (.iconst 1, 1) := by decide +kernel
theorem dX2_isImmediate_52 : decode cX2_isImmediate 52 = .ok (.goto 4, 3) := by decide +kernel
theorem dX2_isImmediate_55 : decode cX2_isImmediate 55 = .ok (.iconst 0, 1) := by decide +kernel
theorem dX2_isImmediate_56 : decode cX2_isImmediate 56 = .ok (.ireturn, 1) := by decide +kernel
theorem dX2_find_0 : decode cX2_find 0 = .ok (.aload_n 0, 1) := by decide +kernel
theorem dX2_find_1 : decode cX2_find 1 = .ok (.getfield 37, 3) := by decide +kernel
theorem dX2_find_4 : decode cX2_find 4 = .ok (.iconst 1, 1) := by decide +kernel
theorem dX2_find_5 : decode cX2_find 5 = .ok (.isub, 1) := by decide +kernel
theorem dX2_find_6 : decode cX2_find 6 = .ok (.istore_n 2, 1) := by decide +kernel
theorem dX2_find_7 : decode cX2_find 7 = .ok (.iload_n 2, 1) := by decide +kernel
theorem dX2_find_8 : decode cX2_find 8 = .ok (.ifCond .lt 34, 3) := by decide +kernel
theorem dX2_find_11 : decode cX2_find 11 = .ok (.aload_n 0, 1) := by decide +kernel
theorem dX2_find_12 : decode cX2_find 12 = .ok (.getfield 34, 3) := by decide +kernel
theorem dX2_find_15 : decode cX2_find 15 = .ok (.iload_n 2, 1) := by decide +kernel
theorem dX2_find_16 : decode cX2_find 16 = .ok (.baload, 1) := by decide +kernel
theorem dX2_find_17 : decode cX2_find 17 = .ok (.ifCond .eq 19, 3) := by decide +kernel
theorem dX2_find_20 : decode cX2_find 20 = .ok (.aload_n 0, 1) := by decide +kernel
theorem dX2_find_21 : decode cX2_find 21 = .ok (.iload_n 2, 1) := by decide +kernel
theorem dX2_find_22 : decode cX2_find 22 = .ok (.aload_n 1, 1) := by decide +kernel
theorem dX2_find_23 : decode cX2_find 23 = .ok (.invokevirtual 68, 3) := by decide +kernel
theorem dX2_find_26 : decode cX2_find 26 = .ok (.ifCond .eq 10, 3) := by decide +kernel
theorem dX2_find_29 : decode cX2_find 29 = .ok (.getstatic 41, 3) := by decide +kernel
theorem dX2_find_32 : decode cX2_find 32 = .ok (.arraylength, 1) := by decide +kernel
theorem dX2_find_33 : decode cX2_find 33 = .ok (.iload_n 2, 1) := by decide +kernel
theorem dX2_find_34 : decode cX2_find 34 = .ok (.iadd, 1) := by decide +kernel
theorem dX2_find_35 : decode cX2_find 35 = .ok (.ireturn, 1) := by decide +kernel
theorem dX2_find_36 : decode cX2_find 36 = .ok (.iinc 2 (-1), 3) := by decide +kernel
theorem dX2_find_39 : decode cX2_find 39 = .ok (.goto (-32), 3) := by decide +kernel
theorem dX2_find_42 : decode cX2_find 42 = .ok (.iconst 0, 1) := by decide +kernel
theorem dX2_find_43 : decode cX2_find 43 = .ok (.istore_n 2, 1) := by decide +kernel
theorem dX2_find_44 : decode cX2_find 44 = .ok (.iload_n 2, 1) := by decide +kernel
theorem dX2_find_45 : decode cX2_find 45 = .ok (.getstatic 41, 3) := by decide +kernel
theorem dX2_find_48 : decode cX2_find 48 = .ok (.arraylength, 1) := by decide +kernel
theorem dX2_find_49 : decode cX2_find 49 = .ok (.if_icmp .ge 27, 3) := by decide +kernel
theorem dX2_find_52 : decode cX2_find 52 = .ok (.aload_n 0, 1) := by decide +kernel
theorem dX2_find_53 : decode cX2_find 53 = .ok (.getstatic 41, 3) := by decide +kernel
theorem dX2_find_56 : decode cX2_find 56 = .ok (.iload_n 2, 1) := by decide +kernel
theorem dX2_find_57 : decode cX2_find 57 = .ok (.aaload, 1) := by decide +kernel
theorem dX2_find_58 : decode cX2_find 58 = .ok (.getfield 72, 3) := by decide +kernel
theorem dX2_find_61 : decode cX2_find 61 = .ok (.aload_n 1, 1) := by decide +kernel
theorem dX2_find_62 : decode cX2_find 62 = .ok (.invokevirtual 76, 3) := by decide +kernel
theorem dX2_find_65 : decode cX2_find 65 = .ok (.ifCond .eq 5, 3) := by decide +kernel
theorem dX2_find_68 : decode cX2_find 68 = .ok (.iload_n 2, 1) := by decide +kernel
theorem dX2_find_69 : decode cX2_find 69 = .ok (.ireturn, 1) := by decide +kernel
theorem dX2_find_70 : decode cX2_find 70 = .ok (.iinc 2 1, 3) := by decide +kernel
theorem dX2_find_73 : decode cX2_find 73 = .ok (.goto (-29), 3) := by decide +kernel
theorem dX2_find_76 : decode cX2_find 76 = .ok (.iconst (-1), 1) := by decide +kernel
theorem dX2_find_77 : decode cX2_find 77 = .ok (.ireturn, 1) := by decide +kernel
theorem dX2_isNamed_0 : decode cX2_isNamed 0 = .ok (.aload_n 0, 1) := by decide +kernel
theorem dX2_isNamed_1 : decode cX2_isNamed 1 = .ok (.getfield 17, 3) := by decide +kernel
theorem dX2_isNamed_4 : decode cX2_isNamed 4 = .ok (.iload_n 1, 1) := by decide +kernel
theorem dX2_isNamed_5 : decode cX2_isNamed 5 = .ok (.iaload, 1) := by decide +kernel
theorem dX2_isNamed_6 : decode cX2_isNamed 6 = .ok (.aload_n 2, 1) := by decide +kernel
theorem dX2_isNamed_7 : decode cX2_isNamed 7 = .ok (.getfield 54, 3) := by decide +kernel
theorem dX2_isNamed_10 : decode cX2_isNamed 10 = .ok (.if_icmp .eq 5, 3) := by decide +kernel
theorem dX2_isNamed_13 : decode cX2_isNamed 13 = .ok (.iconst 0, 1) := by decide +kernel
theorem dX2_isNamed_14 : decode cX2_isNamed 14 = .ok (.ireturn, 1) := by decide +kernel
theorem dX2_isNamed_15 : decode cX2_isNamed 15 = .ok (.iconst 0, 1) := by decide +kernel
theorem dX2_isNamed_16 : decode cX2_isNamed 16 = .ok (.istore_n 3, 1) := by decide +kernel
theorem dX2_isNamed_17 : decode cX2_isNamed 17 = .ok (.iload_n 3, 1) := by decide +kernel
theorem dX2_isNamed_18 : decode cX2_isNamed 18 = .ok (.aload_n 0, 1) := by decide +kernel
theorem dX2_isNamed_19 : decode cX2_isNamed 19 = .ok (.getfield 17, 3) := by decide +kernel
theorem dX2_isNamed_22 : decode cX2_isNamed 22 = .ok (.iload_n 1, 1) := by decide +kernel
theorem dX2_isNamed_23 : decode cX2_isNamed 23 = .ok (.iaload, 1) := by decide +kernel
theorem dX2_isNamed_24 : decode cX2_isNamed 24 = .ok (.if_icmp .ge 30, 3) := by decide +kernel
theorem dX2_isNamed_27 : decode cX2_isNamed 27 = .ok (.aload_n 0, 1) := by decide +kernel
theorem dX2_isNamed_28 : decode cX2_isNamed 28 = .ok (.getfield 13, 3) := by decide +kernel
theorem dX2_isNamed_31 : decode cX2_isNamed 31 = .ok (.iload_n 1, 1) := by decide +kernel
theorem dX2_isNamed_32 : decode cX2_isNamed 32 = .ok (.bipush 9, 2) := by decide +kernel
theorem dX2_isNamed_34 : decode cX2_isNamed 34 = .ok (.imul, 1) := by decide +kernel
theorem dX2_isNamed_35 : decode cX2_isNamed 35 = .ok (.iload_n 3, 1) := by decide +kernel
theorem dX2_isNamed_36 : decode cX2_isNamed 36 = .ok (.iadd, 1) := by decide +kernel
theorem dX2_isNamed_37 : decode cX2_isNamed 37 = .ok (.caload, 1) := by decide +kernel
theorem dX2_isNamed_38 : decode cX2_isNamed 38 = .ok (.aload_n 2, 1) := by decide +kernel
theorem dX2_isNamed_39 : decode cX2_isNamed 39 = .ok (.iload_n 3, 1) := by decide +kernel
theorem dX2_isNamed_40 : decode cX2_isNamed 40 = .ok (.invokevirtual 57, 3) := by decide +kernel
theorem dX2_isNamed_43 : decode cX2_isNamed 43 = .ok (.if_icmp .eq 5, 3) := by decide +kernel
theorem dX2_isNamed_46 : decode cX2_isNamed 46 = .ok (.iconst 0, 1) := by decide +kernel
theorem dX2_isNamed_47 : decode cX2_isNamed 47 = .ok (.ireturn, 1) := by decide +kernel
theorem dX2_isNamed_48 : decode cX2_isNamed 48 = .ok (.iinc 3 1, 3) := by decide +kernel
theorem dX2_isNamed_51 : decode cX2_isNamed 51 = .ok (.goto (-34), 3) := by decide +kernel
theorem dX2_isNamed_54 : decode cX2_isNamed 54 = .ok (.iconst 1, 1) := by decide +kernel
theorem dX2_isNamed_55 : decode cX2_isNamed 55 = .ok (.ireturn, 1) := by decide +kernel
theorem dX2_isSpelled_0 : decode cX2_isSpelled 0 = .ok (.aload_n 1, 1) := by decide +kernel
theorem dX2_isSpelled_1 : decode cX2_isSpelled 1 = .ok (.invokevirtual 80, 3) := by decide +kernel
theorem dX2_isSpelled_4 : decode cX2_isSpelled 4 = .ok (.aload_n 2, 1) := by decide +kernel
theorem dX2_isSpelled_5 : decode cX2_isSpelled 5 = .ok (.getfield 54, 3) := by decide +kernel
theorem dX2_isSpelled_8 : decode cX2_isSpelled 8 = .ok (.if_icmp .eq 5, 3) := by decide +kernel
theorem dX2_isSpelled_11 : decode cX2_isSpelled 11 = .ok (.iconst 0, 1) := by decide +kernel
theorem dX2_isSpelled_12 : decode cX2_isSpelled 12 = .ok (.ireturn, 1) := by decide +kernel
theorem dX2_isSpelled_13 : decode cX2_isSpelled 13 = .ok (.iconst 0, 1) := by decide +kernel
theorem dX2_isSpelled_14 : decode cX2_isSpelled 14 = .ok (.istore_n 3, 1) := by decide +kernel
theorem dX2_isSpelled_15 : decode cX2_isSpelled 15 = .ok (.iload_n 3, 1) := by decide +kernel
theorem dX2_isSpelled_16 : decode cX2_isSpelled 16 = .ok (.aload_n 1, 1) := by decide +kernel
theorem dX2_isSpelled_17 : decode cX2_isSpelled 17 = .ok (.invokevirtual 80, 3) := by decide +kernel
theorem dX2_isSpelled_20 : decode cX2_isSpelled 20 = .ok (.if_icmp .ge 24, 3) := by decide +kernel
theorem dX2_isSpelled_23 : decode cX2_isSpelled 23 = .ok (.aload_n 1, 1) := by decide +kernel
theorem dX2_isSpelled_24 : decode cX2_isSpelled 24 = .ok (.iload_n 3, 1) := by decide +kernel
theorem dX2_isSpelled_25 : decode cX2_isSpelled 25 = .ok (.invokevirtual 86, 3) := by decide +kernel
theorem dX2_isSpelled_28 : decode cX2_isSpelled 28 = .ok (.aload_n 2, 1) := by decide +kernel
theorem dX2_isSpelled_29 : decode cX2_isSpelled 29 = .ok (.iload_n 3, 1) := by decide +kernel
theorem dX2_isSpelled_30 : decode cX2_isSpelled 30 = .ok (.invokevirtual 57, 3) := by decide +kernel
theorem dX2_isSpelled_33 : decode cX2_isSpelled 33 = .ok (.if_icmp .eq 5, 3) := by decide +kernel
theorem dX2_isSpelled_36 : decode cX2_isSpelled 36 = .ok (.iconst 0, 1) := by decide +kernel
theorem dX2_isSpelled_37 : decode cX2_isSpelled 37 = .ok (.ireturn, 1) := by decide +kernel
theorem dX2_isSpelled_38 : decode cX2_isSpelled 38 = .ok (.iinc 3 1, 3) := by decide +kernel
theorem dX2_isSpelled_41 : decode cX2_isSpelled 41 = .ok (.goto (-26), 3) := by decide +kernel
theorem dX2_isSpelled_44 : decode cX2_isSpelled 44 = .ok (.iconst 1, 1) := by decide +kernel
theorem dX2_isSpelled_45 : decode cX2_isSpelled 45 = .ok (.ireturn, 1) := by decide +kernel
theorem dX3_init_0 : decode cX3_init 0 = .ok (.aload_n 0, 1) := by decide +kernel
theorem dX3_init_1 : decode cX3_init 1 = .ok (.invokespecial 3, 3) := by decide +kernel
theorem dX3_init_4 : decode cX3_init 4 = .ok (.aload_n 0, 1) := by decide +kernel
theorem dX3_init_5 : decode cX3_init 5 = .ok (.new 9, 3) := by decide +kernel
theorem dX3_init_8 : decode cX3_init 8 = .ok (.dup, 1) := by decide +kernel
theorem dX3_init_9 : decode cX3_init 9 = .ok (.invokespecial 11, 3) := by decide +kernel
theorem dX3_init_12 : decode cX3_init 12 = .ok (.putfield 12, 3) := by decide +kernel
theorem dX3_init_15 : decode cX3_init 15 = .ok (.aload_n 0, 1) := by decide +kernel
theorem dX3_init_16 : decode cX3_init 16 = .ok (.new 18, 3) := by decide +kernel
theorem dX3_init_19 : decode cX3_init 19 = .ok (.dup, 1) := by decide +kernel
theorem dX3_init_20 : decode cX3_init 20 = .ok (.bipush (-3), 2) := by decide +kernel
theorem dX3_init_22 : decode cX3_init 22 = .ok (.invokespecial 20, 3) := by decide +kernel
theorem dX3_init_25 : decode cX3_init 25 = .ok (.putfield 23, 3) := by decide +kernel
theorem dX3_init_28 : decode cX3_init 28 = .ok (.aload_n 0, 1) := by decide +kernel
theorem dX3_init_29 : decode cX3_init 29 = .ok (.new 18, 3) := by decide +kernel
theorem dX3_init_32 : decode cX3_init 32 = .ok (.dup, 1) := by decide +kernel
theorem dX3_init_33 : decode cX3_init 33 = .ok (.bipush (-5), 2) := by decide +kernel
theorem dX3_init_35 : decode cX3_init 35 = .ok (.invokespecial 20, 3) := by decide +kernel
theorem dX3_init_38 : decode cX3_init 38 = .ok (.putfield 27, 3) := by decide +kernel
theorem dX3_init_41 : decode cX3_init 41 = .ok (.aload_n 0, 1) := by decide +kernel
theorem dX3_init_42 : decode cX3_init 42 = .ok (.new 30, 3) := by decide +kernel
theorem dX3_init_45 : decode cX3_init 45 = .ok (.dup, 1) := by decide +kernel
theorem dX3_init_46 : decode cX3_init 46 = .ok (.invokespecial 32, 3) := by decide +kernel
theorem dX3_init_49 : decode cX3_init 49 = .ok (.putfield 33, 3) := by decide +kernel
theorem dX3_init_52 : decode cX3_init 52 = .ok (.aload_n 0, 1) := by decide +kernel
theorem dX3_init_53 : decode cX3_init 53 = .ok (.new 37, 3) := by decide +kernel
theorem dX3_init_56 : decode cX3_init 56 = .ok (.dup, 1) := by decide +kernel
theorem dX3_init_57 : decode cX3_init 57 = .ok (.invokespecial 39, 3) := by decide +kernel
theorem dX3_init_60 : decode cX3_init 60 = .ok (.putfield 40, 3) := by decide +kernel
theorem dX3_init_63 : decode cX3_init 63 = .ok (.aload_n 0, 1) := by decide +kernel
theorem dX3_init_64 : decode cX3_init 64 = .ok (.new 44, 3) := by decide +kernel
theorem dX3_init_67 : decode cX3_init 67 = .ok (.dup, 1) := by decide +kernel
theorem dX3_init_68 : decode cX3_init 68 = .ok (.invokespecial 46, 3) := by decide +kernel
theorem dX3_init_71 : decode cX3_init 71 = .ok (.putfield 47, 3) := by decide +kernel
theorem dX3_init_74 : decode cX3_init 74 = .ok (.aload_n 0, 1) := by decide +kernel
theorem dX3_init_75 : decode cX3_init 75 = .ok (.new 51, 3) := by decide +kernel
theorem dX3_init_78 : decode cX3_init 78 = .ok (.dup, 1) := by decide +kernel
theorem dX3_init_79 : decode cX3_init 79 = .ok (.invokespecial 53, 3) := by decide +kernel
theorem dX3_init_82 : decode cX3_init 82 = .ok (.putfield 54, 3) := by decide +kernel
theorem dX3_init_85 : decode cX3_init 85 = .ok (.aload_n 0, 1) := by decide +kernel
theorem dX3_init_86 : decode cX3_init 86 = .ok (.new 58, 3) := by decide +kernel
theorem dX3_init_89 : decode cX3_init 89 = .ok (.dup, 1) := by decide +kernel
theorem dX3_init_90 : decode cX3_init 90 = .ok (.aload_n 0, 1) := by decide +kernel
theorem dX3_init_91 : decode cX3_init 91 = .ok (.getfield 12, 3) := by decide +kernel
theorem dX3_init_94 : decode cX3_init 94 = .ok (.aload_n 0, 1) := by decide +kernel
theorem dX3_init_95 : decode cX3_init 95 = .ok (.getfield 23, 3) := by decide +kernel
theorem dX3_init_98 : decode cX3_init 98 = .ok (.aload_n 0, 1) := by decide +kernel
theorem dX3_init_99 : decode cX3_init 99 = .ok (.getfield 33, 3) := by decide +kernel
theorem dX3_init_102 : decode cX3_init 102 = .ok (.aload_n 0, 1) := by decide +kernel
theorem dX3_init_103 : decode cX3_init 103 = .ok (.getfield 40, 3) := by decide +kernel
theorem dX3_init_106 : decode cX3_init 106 = .ok (.invokespecial 60, 3) := by decide +kernel
theorem dX3_init_109 : decode cX3_init 109 = .ok (.putfield 63, 3) := by decide +kernel
theorem dX3_init_112 : decode cX3_init 112 = .ok (.aload_n 0, 1) := by decide +kernel
theorem dX3_init_113 : decode cX3_init 113 = .ok (.iconst (-1), 1) := by decide +kernel
theorem dX3_init_114 : decode cX3_init 114 = .ok (.putfield 67, 3) := by decide +kernel
theorem dX3_init_117 : decode cX3_init 117 = .ok (.return_, 1) := by decide +kernel
theorem dX3_interpret_0 : decode cX3_interpret 0 = .ok (.aload_n 0, 1) := by decide +kernel
theorem dX3_interpret_1 : decode cX3_interpret 1 = .ok (.iload_n 1, 1) := by decide +kernel
theorem dX3_interpret_2 : decode cX3_interpret 2 = .ok (.putfield 71, 3) := by decide +kernel
theorem dX3_interpret_5 : decode cX3_interpret 5 = .ok (.aload_n 0, 1) := by decide +kernel
theorem dX3_interpret_6 : decode cX3_interpret 6 = .ok (.iconst 0, 1) := by decide +kernel
theorem dX3_interpret_7 : decode cX3_interpret 7 = .ok (.putfield 74, 3) := by decide +kernel
theorem dX3_interpret_10 : decode cX3_interpret 10 = .ok (.aload_n 0, 1) := by decide +kernel
theorem dX3_interpret_11 : decode cX3_interpret 11 = .ok (.iconst 0, 1) := by decide +kernel
theorem dX3_interpret_12 : decode cX3_interpret 12 = .ok (.putfield 77, 3) := by decide +kernel
theorem dX3_interpret_15 : decode cX3_interpret 15 = .ok (.aload_n 0, 1) := by decide +kernel
theorem dX3_interpret_16 : decode cX3_interpret 16 = .ok (.getfield 54, 3) := by decide +kernel
theorem dX3_interpret_19 : decode cX3_interpret 19 = .ok (.iconst 0, 1) := by decide +kernel
theorem dX3_interpret_20 : decode cX3_interpret 20 = .ok (.putfield 80, 3) := by decide +kernel
theorem dX3_interpret_23 : decode cX3_interpret 23 = .ok (.aload_n 0, 1) := by decide +kernel
theorem dX3_interpret_24 : decode cX3_interpret 24 = .ok (.iconst 0, 1) := by decide +kernel
theorem dX3_interpret_25 : decode cX3_interpret 25 = .ok (.putfield 83, 3) := by decide +kernel
theorem dX3_interpret_28 : decode cX3_interpret 28 = .ok (.aload_n 0, 1) := by decide +kernel
theorem dX3_interpret_29 : decode cX3_interpret 29 = .ok (.iconst 0, 1) := by decide +kernel
theorem dX3_interpret_30 : decode cX3_interpret 30 = .ok (.putfield 87, 3) := by decide +kernel
theorem dX3_interpret_33 : decode cX3_interpret 33 = .ok (.iconst 0, 1) := by decide +kernel
theorem dX3_interpret_34 : decode cX3_interpret 34 = .ok (.istore_n 2, 1) := by decide +kernel
theorem dX3_interpret_35 : decode cX3_interpret 35 = .ok (.iload_n 2, 1) := by decide +kernel
theorem dX3_interpret_36 : decode cX3_interpret 36 = .ok (.ldc 90, 2) := by decide +kernel
theorem dX3_interpret_38 : decode cX3_interpret 38 = .ok (.if_icmp .ge 67, 3) := by decide +kernel
theorem dX3_interpret_41 : decode cX3_interpret 41 = .ok (.aload_n 0, 1) := by decide +kernel
theorem dX3_interpret_42 : decode cX3_interpret 42 = .ok (.getfield 83, 3) := by decide +kernel
theorem dX3_interpret_45 : decode cX3_interpret 45 = .ok (.ifCond .ne 60, 3) := by decide +kernel
theorem dX3_interpret_48 : decode cX3_interpret 48 = .ok (.aload_n 0, 1) := by decide +kernel
theorem dX3_interpret_49 : decode cX3_interpret 49 = .ok (.getfield 67, 3) := by decide +kernel
theorem dX3_interpret_52 : decode cX3_interpret 52 = .ok (.iconst (-1), 1) := by decide +kernel
theorem dX3_interpret_53 : decode cX3_interpret 53 = .ok (.if_icmp .eq 23, 3) := by decide +kernel
theorem dX3_interpret_56 : decode cX3_interpret 56 = .ok (.aload_n 0, 1) := by decide +kernel
theorem dX3_interpret_57 : decode cX3_interpret 57 = .ok (.getfield 74, 3) := by decide +kernel
theorem dX3_interpret_60 : decode cX3_interpret 60 = .ok (.aload_n 0, 1) := by decide +kernel
theorem dX3_interpret_61 : decode cX3_interpret 61 = .ok (.getfield 71, 3) := by decide +kernel
theorem dX3_interpret_64 : decode cX3_interpret 64 = .ok (.if_icmp .ne 12, 3) := by decide +kernel
theorem dX3_interpret_67 : decode cX3_interpret 67 = .ok (.aload_n 0, 1) := by decide +kernel
theorem dX3_interpret_68 : decode cX3_interpret 68 = .ok (.bipush (-28), 2) := by decide +kernel
theorem dX3_interpret_70 : decode cX3_interpret 70 = .ok (.invokevirtual 91, 3) := by decide +kernel
theorem dX3_interpret_73 : decode cX3_interpret 73 = .ok (.goto 26, 3) := by decide +kernel
theorem dX3_interpret_76 : decode cX3_interpret 76 = .ok (.aload_n 0, 1) := by decide +kernel
theorem dX3_interpret_77 : decode cX3_interpret 77 = .ok (.aload_n 0, 1) := by decide +kernel
theorem dX3_interpret_78 : decode cX3_interpret 78 = .ok (.getfield 67, 3) := by decide +kernel
theorem dX3_interpret_81 : decode cX3_interpret 81 = .ok (.iconst (-1), 1) := by decide +kernel
theorem dX3_interpret_82 : decode cX3_interpret 82 = .ok (.if_icmp .ne 10, 3) := by decide +kernel
theorem dX3_interpret_85 : decode cX3_interpret 85 = .ok (.aload_n 0, 1) := by decide +kernel
theorem dX3_interpret_86 : decode cX3_interpret 86 = .ok (.invokevirtual 94, 3) := by decide +kernel
theorem dX3_interpret_89 : decode cX3_interpret 89 = .ok (.goto 7, 3) := by decide +kernel
theorem dX3_interpret_92 : decode cX3_interpret 92 = .ok (.aload_n 0, 1) := by decide +kernel
theorem dX3_interpret_93 : decode cX3_interpret 93 = .ok (.invokevirtual 98, 3) := by decide +kernel
theorem dX3_interpret_96 : decode cX3_interpret 96 = .ok (.invokevirtual 101, 3) := by decide +kernel
theorem dX3_interpret_99 : decode cX3_interpret 99 = .ok (.iinc 2 1, 3) := by decide +kernel
theorem dX3_interpret_102 : decode cX3_interpret 102 = .ok (.goto (-67), 3) := by decide +kernel
theorem dX3_interpret_105 : decode cX3_interpret 105 = .ok (.aload_n 0, 1) := by decide +kernel
theorem dX3_interpret_106 : decode cX3_interpret 106 = .ok (.getfield 12, 3) := by decide +kernel
theorem dX3_interpret_109 : decode cX3_interpret 109 = .ok (.invokevirtual 104, 3) := by decide +kernel
theorem dX3_interpret_112 : decode cX3_interpret 112 = .ok (.aload_n 0, 1) := by decide +kernel
theorem dX3_interpret_113 : decode cX3_interpret 113 = .ok (.getfield 87, 3) := by decide +kernel
theorem dX3_interpret_116 : decode cX3_interpret 116 = .ok (.ireturn, 1) := by decide +kernel
theorem dX3_goOn_0 : decode cX3_goOn 0 = .ok (.aload_n 0, 1) := by decide +kernel
theorem dX3_goOn_1 : decode cX3_goOn 1 = .ok (.getfield 47, 3) := by decide +kernel
theorem dX3_goOn_4 : decode cX3_goOn 4 = .ok (.invokevirtual 107, 3) := by decide +kernel
theorem dX3_goOn_7 : decode cX3_goOn 7 = .ok (.ifCond .eq 8, 3) := by decide +kernel
theorem dX3_goOn_10 : decode cX3_goOn 10 = .ok (.aload_n 0, 1) := by decide +kernel
theorem dX3_goOn_11 : decode cX3_goOn 11 = .ok (.invokevirtual 111, 3) := by decide +kernel
theorem dX3_goOn_14 : decode cX3_goOn 14 = .ok (.ireturn, 1) := by decide +kernel
theorem dX3_goOn_15 : decode cX3_goOn 15 = .ok (.aload_n 0, 1) := by decide +kernel
theorem dX3_goOn_16 : decode cX3_goOn 16 = .ok (.getfield 47, 3) := by decide +kernel
theorem dX3_goOn_19 : decode cX3_goOn 19 = .ok (.invokevirtual 114, 3) := by decide +kernel
theorem dX3_goOn_22 : decode cX3_goOn 22 = .ok (.ifCond .eq 19, 3) := by decide +kernel
theorem dX3_goOn_25 : decode cX3_goOn 25 = .ok (.aload_n 0, 1) := by decide +kernel
theorem dX3_goOn_26 : decode cX3_goOn 26 = .ok (.getfield 47, 3) := by decide +kernel
theorem dX3_goOn_29 : decode cX3_goOn 29 = .ok (.invokevirtual 117, 3) := by decide +kernel
theorem dX3_goOn_32 : decode cX3_goOn 32 = .ok (.aload_n 0, 1) := by decide +kernel
theorem dX3_goOn_33 : decode cX3_goOn 33 = .ok (.getfield 23, 3) := by decide +kernel
theorem dX3_goOn_36 : decode cX3_goOn 36 = .ok (.iconst 0, 1) := by decide +kernel
theorem dX3_goOn_37 : decode cX3_goOn 37 = .ok (.invokevirtual 120, 3) := by decide +kernel
theorem dX3_goOn_40 : decode cX3_goOn 40 = .ok (.ireturn, 1) := by decide +kernel
theorem dX3_goOn_41 : decode cX3_goOn 41 = .ok (.aload_n 0, 1) := by decide +kernel
theorem dX3_goOn_42 : decode cX3_goOn 42 = .ok (.getfield 12, 3) := by decide +kernel
theorem dX3_goOn_45 : decode cX3_goOn 45 = .ok (.invokevirtual 124, 3) := by decide +kernel
theorem dX3_goOn_48 : decode cX3_goOn 48 = .ok (.ifCond .eq 8, 3) := by decide +kernel
theorem dX3_goOn_51 : decode cX3_goOn 51 = .ok (.aload_n 0, 1) := by decide +kernel
theorem dX3_goOn_52 : decode cX3_goOn 52 = .ok (.invokevirtual 127, 3) := by decide +kernel
theorem dX3_goOn_55 : decode cX3_goOn 55 = .ok (.ireturn, 1) := by decide +kernel
theorem dX3_goOn_56 : decode cX3_goOn 56 = .ok (.aload_n 0, 1) := by decide +kernel
theorem dX3_goOn_57 : decode cX3_goOn 57 = .ok (.iconst 1, 1) := by decide +kernel
theorem dX3_goOn_58 : decode cX3_goOn 58 = .ok (.putfield 83, 3) := by decide +kernel
theorem dX3_goOn_61 : decode cX3_goOn 61 = .ok (.iconst 0, 1) := by decide +kernel
theorem dX3_goOn_62 : decode cX3_goOn 62 = .ok (.ireturn, 1) := by decide +kernel
theorem dX3_meet_0 : decode cX3_meet 0 = .ok (.iload_n 1, 1) := by decide +kernel
theorem dX3_meet_1 : decode cX3_meet 1 = .ok (.ifCond .ne 4, 3) := by decide +kernel
theorem dX3_meet_4 : decode cX3_meet 4 = .ok (.return_, 1) := by decide +kernel
theorem dX3_meet_5 : decode cX3_meet 5 = .ok (.aload_n 0, 1) := by decide +kernel
theorem dX3_meet_6 : decode cX3_meet 6 = .ok (.getfield 47, 3) := by decide +kernel
theorem dX3_meet_9 : decode cX3_meet 9 = .ok (.invokevirtual 130, 3) := by decide +kernel
theorem dX3_meet_12 : decode cX3_meet 12 = .ok (.istore_n 2, 1) := by decide +kernel
theorem dX3_meet_13 : decode cX3_meet 13 = .ok (.iload_n 2, 1) := by decide +kernel
theorem dX3_meet_14 : decode cX3_meet 14 = .ok (.iconst (-1), 1) := by decide +kernel
theorem dX3_meet_15 : decode cX3_meet 15 = .ok (.if_icmp .ne 9, 3) := by decide +kernel
theorem dX3_meet_18 : decode cX3_meet 18 = .ok (.aload_n 0, 1) := by decide +kernel
theorem dX3_meet_19 : decode cX3_meet 19 = .ok (.iload_n 1, 1) := by decide +kernel
theorem dX3_meet_20 : decode cX3_meet 20 = .ok (.invokevirtual 91, 3) := by decide +kernel
theorem dX3_meet_23 : decode cX3_meet 23 = .ok (.return_, 1) := by decide +kernel
theorem dX3_meet_24 : decode cX3_meet 24 = .ok (.aload_n 0, 1) := by decide +kernel
theorem dX3_meet_25 : decode cX3_meet 25 = .ok (.getfield 23, 3) := by decide +kernel
theorem dX3_meet_28 : decode cX3_meet 28 = .ok (.aload_n 0, 1) := by decide +kernel
theorem dX3_meet_29 : decode cX3_meet 29 = .ok (.getfield 47, 3) := by decide +kernel
theorem dX3_meet_32 : decode cX3_meet 32 = .ok (.getfield 133, 3) := by decide +kernel
theorem dX3_meet_35 : decode cX3_meet 35 = .ok (.iload_n 2, 1) := by decide +kernel
theorem dX3_meet_36 : decode cX3_meet 36 = .ok (.iaload, 1) := by decide +kernel
theorem dX3_meet_37 : decode cX3_meet 37 = .ok (.invokevirtual 137, 3) := by decide +kernel
theorem dX3_meet_40 : decode cX3_meet 40 = .ok (.aload_n 0, 1) := by decide +kernel
theorem dX3_meet_41 : decode cX3_meet 41 = .ok (.getfield 27, 3) := by decide +kernel
theorem dX3_meet_44 : decode cX3_meet 44 = .ok (.aload_n 0, 1) := by decide +kernel
theorem dX3_meet_45 : decode cX3_meet 45 = .ok (.getfield 47, 3) := by decide +kernel
theorem dX3_meet_48 : decode cX3_meet 48 = .ok (.getfield 140, 3) := by decide +kernel
theorem dX3_meet_51 : decode cX3_meet 51 = .ok (.iload_n 2, 1) := by decide +kernel
theorem dX3_meet_52 : decode cX3_meet 52 = .ok (.iaload, 1) := by decide +kernel
theorem dX3_meet_53 : decode cX3_meet 53 = .ok (.invokevirtual 137, 3) := by decide +kernel
theorem dX3_meet_56 : decode cX3_meet 56 = .ok (.aload_n 0, 1) := by decide +kernel
theorem dX3_meet_57 : decode cX3_meet 57 = .ok (.getfield 47, 3) := by decide +kernel
theorem dX3_meet_60 : decode cX3_meet 60 = .ok (.iload_n 2, 1) := by decide +kernel
theorem dX3_meet_61 : decode cX3_meet 61 = .ok (.putfield 143, 3) := by decide +kernel
theorem dX3_meet_64 : decode cX3_meet 64 = .ok (.aload_n 0, 1) := by decide +kernel
theorem dX3_meet_65 : decode cX3_meet 65 = .ok (.getfield 23, 3) := by decide +kernel
theorem dX3_meet_68 : decode cX3_meet 68 = .ok (.iload_n 1, 1) := by decide +kernel
theorem dX3_meet_69 : decode cX3_meet 69 = .ok (.invokevirtual 120, 3) := by decide +kernel
theorem dX3_meet_72 : decode cX3_meet 72 = .ok (.pop, 1) := by decide +kernel
theorem dX3_meet_73 : decode cX3_meet 73 = .ok (.aload_n 0, 1) := by decide +kernel
theorem dX3_meet_74 : decode cX3_meet 74 = .ok (.dup, 1) := by decide +kernel
theorem dX3_meet_75 : decode cX3_meet 75 = .ok (.getfield 77, 3) := by decide +kernel
theorem dX3_meet_78 : decode cX3_meet 78 = .ok (.iconst 1, 1) := by decide +kernel
theorem dX3_meet_79 : decode cX3_meet 79 = .ok (.iadd, 1) := by decide +kernel
theorem dX3_meet_80 : decode cX3_meet 80 = .ok (.putfield 77, 3) := by decide +kernel
theorem dX3_meet_83 : decode cX3_meet 83 = .ok (.return_, 1) := by decide +kernel
theorem dX3_endWith_0 : decode cX3_endWith 0 = .ok (.aload_n 0, 1) := by decide +kernel
theorem dX3_endWith_1 : decode cX3_endWith 1 = .ok (.getfield 23, 3) := by decide +kernel
theorem dX3_endWith_4 : decode cX3_endWith 4 = .ok (.iconst 0, 1) := by decide +kernel
theorem dX3_endWith_5 : decode cX3_endWith 5 = .ok (.putfield 144, 3) := by decide +kernel
theorem dX3_endWith_8 : decode cX3_endWith 8 = .ok (.aload_n 0, 1) := by decide +kernel
theorem dX3_endWith_9 : decode cX3_endWith 9 = .ok (.getfield 27, 3) := by decide +kernel
theorem dX3_endWith_12 : decode cX3_endWith 12 = .ok (.iconst 0, 1) := by decide +kernel
theorem dX3_endWith_13 : decode cX3_endWith 13 = .ok (.putfield 144, 3) := by decide +kernel
theorem dX3_endWith_16 : decode cX3_endWith 16 = .ok (.aload_n 0, 1) := by decide +kernel
theorem dX3_endWith_17 : decode cX3_endWith 17 = .ok (.getfield 47, 3) := by decide +kernel
theorem dX3_endWith_20 : decode cX3_endWith 20 = .ok (.iconst 0, 1) := by decide +kernel
theorem dX3_endWith_21 : decode cX3_endWith 21 = .ok (.putfield 143, 3) := by decide +kernel
theorem dX3_endWith_24 : decode cX3_endWith 24 = .ok (.aload_n 0, 1) := by decide +kernel
theorem dX3_endWith_25 : decode cX3_endWith 25 = .ok (.getfield 63, 3) := by decide +kernel
theorem dX3_endWith_28 : decode cX3_endWith 28 = .ok (.invokevirtual 145, 3) := by decide +kernel
theorem dX3_endWith_31 : decode cX3_endWith 31 = .ok (.aload_n 0, 1) := by decide +kernel
theorem dX3_endWith_32 : decode cX3_endWith 32 = .ok (.iconst (-1), 1) := by decide +kernel
theorem dX3_endWith_33 : decode cX3_endWith 33 = .ok (.putfield 67, 3) := by decide +kernel
theorem dX3_endWith_36 : decode cX3_endWith 36 = .ok (.aload_n 0, 1) := by decide +kernel
theorem dX3_endWith_37 : decode cX3_endWith 37 = .ok (.iconst 1, 1) := by decide +kernel
theorem dX3_endWith_38 : decode cX3_endWith 38 = .ok (.putfield 83, 3) := by decide +kernel
theorem dX3_endWith_41 : decode cX3_endWith 41 = .ok (.aload_n 0, 1) := by decide +kernel
theorem dX3_endWith_42 : decode cX3_endWith 42 = .ok (.iload_n 1, 1) := by decide +kernel
theorem dX3_endWith_43 : decode cX3_endWith 43 = .ok (.putfield 87, 3) := by decide +kernel
theorem dX3_endWith_46 : decode cX3_endWith 46 = .ok (.return_, 1) := by decide +kernel
theorem dX3_readName_0 : decode cX3_readName 0 = .ok (.aload_n 0, 1) := by decide +kernel
theorem dX3_readName_1 : decode cX3_readName 1 = .ok (.getfield 40, 3) := by decide +kernel
theorem dX3_readName_4 : decode cX3_readName 4 = .ok (.aload_n 0, 1) := by decide +kernel
theorem dX3_readName_5 : decode cX3_readName 5 = .ok (.getfield 12, 3) := by decide +kernel
theorem dX3_readName_8 : decode cX3_readName 8 = .ok (.invokevirtual 148, 3) := by decide +kernel
theorem dX3_readName_11 : decode cX3_readName 11 = .ok (.istore_n 1, 1) := by decide +kernel
theorem dX3_readName_12 : decode cX3_readName 12 = .ok (.iload_n 1, 1) := by decide +kernel
theorem dX3_readName_13 : decode cX3_readName 13 = .ok (.iconst (-1), 1) := by decide +kernel
theorem dX3_readName_14 : decode cX3_readName 14 = .ok (.if_icmp .eq 40, 3) := by decide +kernel
theorem dX3_readName_17 : decode cX3_readName 17 = .ok (.aload_n 0, 1) := by decide +kernel
theorem dX3_readName_18 : decode cX3_readName 18 = .ok (.getfield 63, 3) := by decide +kernel
theorem dX3_readName_21 : decode cX3_readName 21 = .ok (.getfield 152, 3) := by decide +kernel
theorem dX3_readName_24 : decode cX3_readName 24 = .ok (.ifCond .eq 23, 3) := by decide +kernel
theorem dX3_readName_27 : decode cX3_readName 27 = .ok (.aload_n 0, 1) := by decide +kernel
theorem dX3_readName_28 : decode cX3_readName 28 = .ok (.getfield 40, 3) := by decide +kernel
theorem dX3_readName_31 : decode cX3_readName 31 = .ok (.iload_n 1, 1) := by decide +kernel
theorem dX3_readName_32 : decode cX3_readName 32 = .ok (.invokevirtual 155, 3) := by decide +kernel
theorem dX3_readName_35 : decode cX3_readName 35 = .ok (.ifCond .ne 12, 3) := by decide +kernel
theorem dX3_readName_38 : decode cX3_readName 38 = .ok (.aload_n 0, 1) := by decide +kernel
theorem dX3_readName_39 : decode cX3_readName 39 = .ok (.getfield 33, 3) := by decide +kernel
theorem dX3_readName_42 : decode cX3_readName 42 = .ok (.iload_n 1, 1) := by decide +kernel
theorem dX3_readName_43 : decode cX3_readName 43 = .ok (.invokevirtual 159, 3) := by decide +kernel
theorem dX3_readName_46 : decode cX3_readName 46 = .ok (.ireturn, 1) := by decide +kernel
theorem dX3_readName_47 : decode cX3_readName 47 = .ok (.aload_n 0, 1) := by decide +kernel
theorem dX3_readName_48 : decode cX3_readName 48 = .ok (.iload_n 1, 1) := by decide +kernel
theorem dX3_readName_49 : decode cX3_readName 49 = .ok (.putfield 67, 3) := by decide +kernel
theorem dX3_readName_52 : decode cX3_readName 52 = .ok (.iconst 0, 1) := by decide +kernel
theorem dX3_readName_53 : decode cX3_readName 53 = .ok (.ireturn, 1) := by decide +kernel
theorem dX3_readName_54 : decode cX3_readName 54 = .ok (.aload_n 0, 1) := by decide +kernel
theorem dX3_readName_55 : decode cX3_readName 55 = .ok (.getfield 12, 3) := by decide +kernel
theorem dX3_readName_58 : decode cX3_readName 58 = .ok (.invokevirtual 162, 3) := by decide +kernel
theorem dX3_readName_61 : decode cX3_readName 61 = .ok (.lstore_n 2, 1) := by decide +kernel
theorem dX3_readName_62 : decode cX3_readName 62 = .ok (.lload_n 2, 1) := by decide +kernel
theorem dX3_readName_63 : decode cX3_readName 63 = .ok (.ldc2_w 166, 3) := by decide +kernel
theorem dX3_readName_66 : decode cX3_readName 66 = .ok (.lcmp, 1) := by decide +kernel
theorem dX3_readName_67 : decode cX3_readName 67 = .ok (.ifCond .ne 21, 3) := by decide +kernel
theorem dX3_readName_70 : decode cX3_readName 70 = .ok (.aload_n 0, 1) := by decide +kernel
theorem dX3_readName_71 : decode cX3_readName 71 = .ok (.getfield 12, 3) := by decide +kernel
theorem dX3_readName_74 : decode cX3_readName 74 = .ok (.invokevirtual 168, 3) := by decide +kernel
theorem dX3_readName_77 : decode cX3_readName 77 = .ok (.ifCond .eq 8, 3) := by decide +kernel
theorem dX3_readName_80 : decode cX3_readName 80 = .ok (.bipush (-19), 2) := by decide +kernel
theorem dX3_readName_82 : decode cX3_readName 82 = .ok (.goto 5, 3) := by decide +kernel
theorem dX3_readName_85 : decode cX3_readName 85 = .ok (.bipush (-13), 2) := by decide +kernel
theorem dX3_readName_87 : decode cX3_readName 87 = .ok (.ireturn, 1) := by decide +kernel
theorem dX3_readName_88 : decode cX3_readName 88 = .ok (.aload_n 0, 1) := by decide +kernel
theorem dX3_readName_89 : decode cX3_readName 89 = .ok (.getfield 63, 3) := by decide +kernel
theorem dX3_readName_92 : decode cX3_readName 92 = .ok (.getfield 152, 3) := by decide +kernel
theorem dX3_readName_95 : decode cX3_readName 95 = .ok (.ifCond .eq 14, 3) := by decide +kernel
theorem dX3_readName_98 : decode cX3_readName 98 = .ok (.aload_n 0, 1) := by decide +kernel
theorem dX3_readName_99 : decode cX3_readName 99 = .ok (.getfield 33, 3) := by decide +kernel
theorem dX3_readName_102 : decode cX3_readName 102 = .ok (.iconst 1, 1) := by decide +kernel
theorem dX3_readName_103 : decode cX3_readName 103 = .ok (.lload_n 2, 1) := by decide +kernel
theorem dX3_readName_104 : decode cX3_readName 104 = .ok (.l2i, 1) := by decide +kernel
theorem dX3_readName_105 : decode cX3_readName 105 = .ok (.invokevirtual 171, 3) := by decide +kernel
theorem dX3_readName_108 : decode cX3_readName 108 = .ok (.ireturn, 1) := by decide +kernel
theorem dX3_readName_109 : decode cX3_readName 109 = .ok (.aload_n 0, 1) := by decide +kernel
theorem dX3_readName_110 : decode cX3_readName 110 = .ok (.getfield 23, 3) := by decide +kernel
theorem dX3_readName_113 : decode cX3_readName 113 = .ok (.lload_n 2, 1) := by decide +kernel
theorem dX3_readName_114 : decode cX3_readName 114 = .ok (.l2i, 1) := by decide +kernel
theorem dX3_readName_115 : decode cX3_readName 115 = .ok (.invokevirtual 120, 3) := by decide +kernel
theorem dX3_readName_118 : decode cX3_readName 118 = .ok (.ireturn, 1) := by decide +kernel
theorem dX3_goOnWithCall_0 : decode cX3_goOnWithCall 0 = .ok (.aload_n 0, 1) := by decide +kernel
theorem dX3_goOnWithCall_1 : decode cX3_goOnWithCall 1 = .ok (.getfield 47, 3) := by decide +kernel
theorem dX3_goOnWithCall_4 : decode cX3_goOnWithCall 4 = .ok (.invokevirtual 175, 3) := by decide +kernel
theorem dX3_goOnWithCall_7 : decode cX3_goOnWithCall 7 = .ok (.istore_n 1, 1) := by decide +kernel
theorem dX3_goOnWithCall_8 : decode cX3_goOnWithCall 8 = .ok (.aload_n 0, 1) := by decide +kernel
theorem dX3_goOnWithCall_9 : decode cX3_goOnWithCall 9 = .ok (.getfield 33, 3) := by decide +kernel
theorem dX3_goOnWithCall_12 : decode cX3_goOnWithCall 12 = .ok (.iload_n 1, 1) := by decide +kernel
theorem dX3_goOnWithCall_13 : decode cX3_goOnWithCall 13 = .ok (.invokevirtual 178, 3) := by decide +kernel
theorem dX3_goOnWithCall_16 : decode cX3_goOnWithCall 16 = .ok (.ifCond .eq 21, 3) := by decide +kernel
theorem dX3_goOnWithCall_19 : decode cX3_goOnWithCall 19 = .ok (.aload_n 0, 1) := by decide +kernel
theorem dX3_goOnWithCall_20 : decode cX3_goOnWithCall 20 = .ok (.getfield 40, 3) := by decide +kernel
theorem dX3_goOnWithCall_23 : decode cX3_goOnWithCall 23 = .ok (.aload_n 0, 1) := by decide +kernel
theorem dX3_goOnWithCall_24 : decode cX3_goOnWithCall 24 = .ok (.getfield 33, 3) := by decide +kernel
theorem dX3_goOnWithCall_27 : decode cX3_goOnWithCall 27 = .ok (.iload_n 1, 1) := by decide +kernel
theorem dX3_goOnWithCall_28 : decode cX3_goOnWithCall 28 = .ok (.invokevirtual 181, 3) := by decide +kernel
theorem dX3_goOnWithCall_31 : decode cX3_goOnWithCall 31 = .ok (.invokevirtual 184, 3) := by decide +kernel
theorem dX3_goOnWithCall_34 : decode cX3_goOnWithCall 34 = .ok (.ifCond .ne 6, 3) := by decide +kernel
theorem dX3_goOnWithCall_37 : decode cX3_goOnWithCall 37 = .ok (.bipush (-9), 2) := by decide +kernel
theorem dX3_goOnWithCall_39 : decode cX3_goOnWithCall 39 = .ok (.ireturn, 1) := by decide +kernel
theorem dX3_goOnWithCall_40 : decode cX3_goOnWithCall 40 = .ok (.aload_n 0, 1) := by decide +kernel
theorem dX3_goOnWithCall_41 : decode cX3_goOnWithCall 41 = .ok (.getfield 47, 3) := by decide +kernel
theorem dX3_goOnWithCall_44 : decode cX3_goOnWithCall 44 = .ok (.iload_n 1, 1) := by decide +kernel
theorem dX3_goOnWithCall_45 : decode cX3_goOnWithCall 45 = .ok (.iconst 1, 1) := by decide +kernel
theorem dX3_goOnWithCall_46 : decode cX3_goOnWithCall 46 = .ok (.iadd, 1) := by decide +kernel
theorem dX3_goOnWithCall_47 : decode cX3_goOnWithCall 47 = .ok (.invokevirtual 187, 3) := by decide +kernel
theorem dX3_goOnWithCall_50 : decode cX3_goOnWithCall 50 = .ok (.aload_n 0, 1) := by decide +kernel
theorem dX3_goOnWithCall_51 : decode cX3_goOnWithCall 51 = .ok (.aload_n 0, 1) := by decide +kernel
theorem dX3_goOnWithCall_52 : decode cX3_goOnWithCall 52 = .ok (.getfield 33, 3) := by decide +kernel
theorem dX3_goOnWithCall_55 : decode cX3_goOnWithCall 55 = .ok (.iload_n 1, 1) := by decide +kernel
theorem dX3_goOnWithCall_56 : decode cX3_goOnWithCall 56 = .ok (.invokevirtual 181, 3) := by decide +kernel
theorem dX3_goOnWithCall_59 : decode cX3_goOnWithCall 59 = .ok (.putfield 67, 3) := by decide +kernel
theorem dX3_goOnWithCall_62 : decode cX3_goOnWithCall 62 = .ok (.iconst 0, 1) := by decide +kernel
theorem dX3_goOnWithCall_63 : decode cX3_goOnWithCall 63 = .ok (.ireturn, 1) := by decide +kernel
theorem dX3_carryOutNext_0 : decode cX3_carryOutNext 0 = .ok (.aload_n 0, 1) := by decide +kernel
theorem dX3_carryOutNext_1 : decode cX3_carryOutNext 1 = .ok (.getfield 67, 3) := by decide +kernel
theorem dX3_carryOutNext_4 : decode cX3_carryOutNext 4 = .ok (.istore_n 1, 1) := by decide +kernel
theorem dX3_carryOutNext_5 : decode cX3_carryOutNext 5 = .ok (.aload_n 0, 1) := by decide +kernel
theorem dX3_carryOutNext_6 : decode cX3_carryOutNext 6 = .ok (.iconst (-1), 1) := by decide +kernel
theorem dX3_carryOutNext_7 : decode cX3_carryOutNext 7 = .ok (.putfield 67, 3) := by decide +kernel
theorem dX3_carryOutNext_10 : decode cX3_carryOutNext 10 = .ok (.aload_n 0, 1) := by decide +kernel
theorem dX3_carryOutNext_11 : decode cX3_carryOutNext 11 = .ok (.dup, 1) := by decide +kernel
theorem dX3_carryOutNext_12 : decode cX3_carryOutNext 12 = .ok (.getfield 74, 3) := by decide +kernel
theorem dX3_carryOutNext_15 : decode cX3_carryOutNext 15 = .ok (.iconst 1, 1) := by decide +kernel
theorem dX3_carryOutNext_16 : decode cX3_carryOutNext 16 = .ok (.iadd, 1) := by decide +kernel
theorem dX3_carryOutNext_17 : decode cX3_carryOutNext 17 = .ok (.putfield 74, 3) := by decide +kernel
theorem dX3_carryOutNext_20 : decode cX3_carryOutNext 20 = .ok (.iload_n 1, 1) := by decide +kernel
theorem dX3_carryOutNext_21 : decode cX3_carryOutNext 21 = .ok (.getstatic 190, 3) := by decide +kernel
theorem dX3_carryOutNext_24 : decode cX3_carryOutNext 24 = .ok (.arraylength, 1) := by decide +kernel
theorem dX3_carryOutNext_25 : decode cX3_carryOutNext 25 = .ok (.if_icmp .lt 14, 3) := by decide +kernel
theorem dX3_carryOutNext_28 : decode cX3_carryOutNext 28 = .ok (.aload_n 0, 1) := by decide +kernel
theorem dX3_carryOutNext_29 : decode cX3_carryOutNext 29 = .ok (.iload_n 1, 1) := by decide +kernel
theorem dX3_carryOutNext_30 : decode cX3_carryOutNext 30 = .ok (.getstatic 190, 3) := by decide +kernel
theorem dX3_carryOutNext_33 : decode cX3_carryOutNext 33 = .ok (.arraylength, 1) := by decide +kernel
theorem dX3_carryOutNext_34 : decode cX3_carryOutNext 34 = .ok (.isub, 1) := by decide +kernel
theorem dX3_carryOutNext_35 : decode cX3_carryOutNext 35 = .ok (.invokevirtual 196, 3) := by decide +kernel
theorem dX3_carryOutNext_38 : decode cX3_carryOutNext 38 = .ok (.ireturn, 1) := by decide +kernel
theorem dX3_carryOutNext_39 : decode cX3_carryOutNext 39 = .ok (.getstatic 190, 3) := by decide +kernel
theorem dX3_carryOutNext_42 : decode cX3_carryOutNext 42 = .ok (.iload_n 1, 1) := by decide +kernel
theorem dX3_carryOutNext_43 : decode cX3_carryOutNext 43 = .ok (.aaload, 1) := by decide +kernel
theorem dX3_carryOutNext_44 : decode cX3_carryOutNext 44 = .ok (.astore_n 2, 1) := by decide +kernel
theorem dX3_carryOutNext_45 : decode cX3_carryOutNext 45 = .ok (.aload_n 0, 1) := by decide +kernel
theorem dX3_carryOutNext_46 : decode cX3_carryOutNext 46 = .ok (.aload_n 2, 1) := by decide +kernel
theorem dX3_carryOutNext_47 : decode cX3_carryOutNext 47 = .ok (.invokevirtual 199, 3) := by decide +kernel
theorem dX3_carryOutNext_50 : decode cX3_carryOutNext 50 = .ok (.istore_n 3, 1) := by decide +kernel
theorem dX3_carryOutNext_51 : decode cX3_carryOutNext 51 = .ok (.iload_n 3, 1) := by decide +kernel
theorem dX3_carryOutNext_52 : decode cX3_carryOutNext 52 = .ok (.ifCond .eq 5, 3) := by decide +kernel
theorem dX3_carryOutNext_55 : decode cX3_carryOutNext 55 = .ok (.iload_n 3, 1) := by decide +kernel
theorem dX3_carryOutNext_56 : decode cX3_carryOutNext 56 = .ok (.ireturn, 1) := by decide +kernel
theorem dX3_carryOutNext_57 : decode cX3_carryOutNext 57 = .ok (.aload_n 2, 1) := by decide +kernel
theorem dX3_carryOutNext_58 : decode cX3_carryOutNext 58 = .ok (.getfield 203, 3) := by decide +kernel
theorem dX3_carryOutNext_61 : decode cX3_carryOutNext 61 = .ok (.tableswitch 170 0 12 #[67, 73, 79, 101, 107, 113, 119, 125, 134, 143, 152, 161, 143], 67) := by decide +kernel
theorem dX3_carryOutNext_128 : decode cX3_carryOutNext 128 = .ok (.aload_n 0, 1) := by decide +kernel
theorem dX3_carryOutNext_129 : decode cX3_carryOutNext 129 = .ok (.aload_n 2, 1) := by decide +kernel
theorem dX3_carryOutNext_130 : decode cX3_carryOutNext 130 = .ok (.invokevirtual 206, 3) := by decide +kernel
theorem dX3_carryOutNext_133 : decode cX3_carryOutNext 133 = .ok (.ireturn, 1) := by decide +kernel
theorem dX3_carryOutNext_134 : decode cX3_carryOutNext 134 = .ok (.aload_n 0, 1) := by decide +kernel
theorem dX3_carryOutNext_135 : decode cX3_carryOutNext 135 = .ok (.aload_n 2, 1) := by decide +kernel
theorem dX3_carryOutNext_136 : decode cX3_carryOutNext 136 = .ok (.invokevirtual 209, 3) := by decide +kernel
theorem dX3_carryOutNext_139 : decode cX3_carryOutNext 139 = .ok (.ireturn, 1) := by decide +kernel
theorem dX3_carryOutNext_140 : decode cX3_carryOutNext 140 = .ok (.aload_n 0, 1) := by decide +kernel
theorem dX3_carryOutNext_141 : decode cX3_carryOutNext 141 = .ok (.getfield 23, 3) := by decide +kernel
theorem dX3_carryOutNext_144 : decode cX3_carryOutNext 144 = .ok (.aload_n 0, 1) := by decide +kernel
theorem dX3_carryOutNext_145 : decode cX3_carryOutNext 145 = .ok (.aload_n 2, 1) := by decide +kernel
theorem dX3_carryOutNext_146 : decode cX3_carryOutNext 146 = .ok (.aload_n 0, 1) := by decide +kernel
theorem dX3_carryOutNext_147 : decode cX3_carryOutNext 147 = .ok (.getfield 23, 3) := by decide +kernel
theorem dX3_carryOutNext_150 : decode cX3_carryOutNext 150 = .ok (.iconst 0, 1) := by decide +kernel
theorem dX3_carryOutNext_151 : decode cX3_carryOutNext 151 = .ok (.invokevirtual 212, 3) := by decide +kernel
theorem dX3_carryOutNext_154 : decode cX3_carryOutNext 154 = .ok (.invokevirtual 215, 3) := by decide +kernel
theorem dX3_carryOutNext_157 : decode cX3_carryOutNext 157 = .ok (.invokevirtual 219, 3) := by decide +kernel
theorem dX3_carryOutNext_160 : decode cX3_carryOutNext 160 = .ok (.iconst 0, 1) := by decide +kernel
theorem dX3_carryOutNext_161 : decode cX3_carryOutNext 161 = .ok (.ireturn, 1) := by decide +kernel
theorem dX3_carryOutNext_162 : decode cX3_carryOutNext 162 = .ok (.aload_n 0, 1) := by decide +kernel
theorem dX3_carryOutNext_163 : decode cX3_carryOutNext 163 = .ok (.aload_n 2, 1) := by decide +kernel
theorem dX3_carryOutNext_164 : decode cX3_carryOutNext 164 = .ok (.invokevirtual 222, 3) := by decide +kernel
theorem dX3_carryOutNext_167 : decode cX3_carryOutNext 167 = .ok (.ireturn, 1) := by decide +kernel
theorem dX3_carryOutNext_168 : decode cX3_carryOutNext 168 = .ok (.aload_n 0, 1) := by decide +kernel
theorem dX3_carryOutNext_169 : decode cX3_carryOutNext 169 = .ok (.aload_n 2, 1) := by decide +kernel
theorem dX3_carryOutNext_170 : decode cX3_carryOutNext 170 = .ok (.invokevirtual 225, 3) := by decide +kernel
theorem dX3_carryOutNext_173 : decode cX3_carryOutNext 173 = .ok (.ireturn, 1) := by decide +kernel
theorem dX3_carryOutNext_174 : decode cX3_carryOutNext 174 = .ok (.aload_n 0, 1) := by decide +kernel
theorem dX3_carryOutNext_175 : decode cX3_carryOutNext 175 = .ok (.aload_n 2, 1) := by decide +kernel
theorem dX3_carryOutNext_176 : decode cX3_carryOutNext 176 = .ok (.invokevirtual 228, 3) := by decide +kernel
theorem dX3_carryOutNext_179 : decode cX3_carryOutNext 179 = .ok (.ireturn, 1) := by decide +kernel
theorem dX3_carryOutNext_180 : decode cX3_carryOutNext 180 = .ok (.aload_n 0, 1) := by decide +kernel
theorem dX3_carryOutNext_181 : decode cX3_carryOutNext 181 = .ok (.aload_n 2, 1) := by decide +kernel
theorem dX3_carryOutNext_182 : decode cX3_carryOutNext 182 = .ok (.invokevirtual 231, 3) := by decide +kernel
theorem dX3_carryOutNext_185 : decode cX3_carryOutNext 185 = .ok (.ireturn, 1) := by decide +kernel
theorem dX3_carryOutNext_186 : decode cX3_carryOutNext 186 = .ok (.aload_n 0, 1) := by decide +kernel
theorem dX3_carryOutNext_187 : decode cX3_carryOutNext 187 = .ok (.getfield 63, 3) := by decide +kernel
theorem dX3_carryOutNext_190 : decode cX3_carryOutNext 190 = .ok (.aload_n 2, 1) := by decide +kernel
theorem dX3_carryOutNext_191 : decode cX3_carryOutNext 191 = .ok (.invokevirtual 234, 3) := by decide +kernel
theorem dX3_carryOutNext_194 : decode cX3_carryOutNext 194 = .ok (.ireturn, 1) := by decide +kernel
theorem dX3_carryOutNext_195 : decode cX3_carryOutNext 195 = .ok (.aload_n 0, 1) := by decide +kernel
theorem dX3_carryOutNext_196 : decode cX3_carryOutNext 196 = .ok (.getfield 63, 3) := by decide +kernel
theorem dX3_carryOutNext_199 : decode cX3_carryOutNext 199 = .ok (.aload_n 2, 1) := by decide +kernel
theorem dX3_carryOutNext_200 : decode cX3_carryOutNext 200 = .ok (.invokevirtual 237, 3) := by decide +kernel
theorem dX3_carryOutNext_203 : decode cX3_carryOutNext 203 = .ok (.ireturn, 1) := by decide +kernel
theorem dX3_carryOutNext_204 : decode cX3_carryOutNext 204 = .ok (.aload_n 0, 1) := by decide +kernel
theorem dX3_carryOutNext_205 : decode cX3_carryOutNext 205 = .ok (.getfield 63, 3) := by decide +kernel
theorem dX3_carryOutNext_208 : decode cX3_carryOutNext 208 = .ok (.aload_n 2, 1) := by decide +kernel
theorem dX3_carryOutNext_209 : decode cX3_carryOutNext 209 = .ok (.invokevirtual 240, 3) := by decide +kernel
theorem dX3_carryOutNext_212 : decode cX3_carryOutNext 212 = .ok (.ireturn, 1) := by decide +kernel
theorem dX3_carryOutNext_213 : decode cX3_carryOutNext 213 = .ok (.aload_n 0, 1) := by decide +kernel
theorem dX3_carryOutNext_214 : decode cX3_carryOutNext 214 = .ok (.getfield 63, 3) := by decide +kernel
theorem dX3_carryOutNext_217 : decode cX3_carryOutNext 217 = .ok (.aload_n 2, 1) := by decide +kernel
theorem dX3_carryOutNext_218 : decode cX3_carryOutNext 218 = .ok (.invokevirtual 243, 3) := by decide +kernel
theorem dX3_carryOutNext_221 : decode cX3_carryOutNext 221 = .ok (.ireturn, 1) := by decide +kernel
theorem dX3_carryOutNext_222 : decode cX3_carryOutNext 222 = .ok (.aload_n 0, 1) := by decide +kernel
theorem dX3_carryOutNext_223 : decode cX3_carryOutNext 223 = .ok (.getfield 63, 3) := by decide +kernel
theorem dX3_carryOutNext_226 : decode cX3_carryOutNext 226 = .ok (.aload_n 2, 1) := by decide +kernel
theorem dX3_carryOutNext_227 : decode cX3_carryOutNext 227 = .ok (.invokevirtual 246, 3) := by decide +kernel
theorem dX3_carryOutNext_230 : decode cX3_carryOutNext 230 = .ok (.ireturn, 1) := by decide +kernel
theorem dX3_carryOutNext_231 : decode cX3_carryOutNext 231 = .ok (.aload_n 0, 1) := by decide +kernel
theorem dX3_carryOutNext_232 : decode cX3_carryOutNext 232 = .ok (.getfield 63, 3) := by decide +kernel
theorem dX3_carryOutNext_235 : decode cX3_carryOutNext 235 = .ok (.aload_n 2, 1) := by decide +kernel
theorem dX3_carryOutNext_236 : decode cX3_carryOutNext 236 = .ok (.invokevirtual 249, 3) := by decide +kernel
theorem dX3_carryOutNext_239 : decode cX3_carryOutNext 239 = .ok (.ireturn, 1) := by decide +kernel
theorem dX3_carryOutMade_0 : decode cX3_carryOutMade 0 = .ok (.aload_n 0, 1) := by decide +kernel
theorem dX3_carryOutMade_1 : decode cX3_carryOutMade 1 = .ok (.getfield 40, 3) := by decide +kernel
theorem dX3_carryOutMade_4 : decode cX3_carryOutMade 4 = .ok (.getfield 252, 3) := by decide +kernel
theorem dX3_carryOutMade_7 : decode cX3_carryOutMade 7 = .ok (.iload_n 1, 1) := by decide +kernel
theorem dX3_carryOutMade_8 : decode cX3_carryOutMade 8 = .ok (.iaload, 1) := by decide +kernel
theorem dX3_carryOutMade_9 : decode cX3_carryOutMade 9 = .ok (.iconst 1, 1) := by decide +kernel
theorem dX3_carryOutMade_10 : decode cX3_carryOutMade 10 = .ok (.if_icmp .ne 20, 3) := by decide +kernel
theorem dX3_carryOutMade_13 : decode cX3_carryOutMade 13 = .ok (.aload_n 0, 1) := by decide +kernel
theorem dX3_carryOutMade_14 : decode cX3_carryOutMade 14 = .ok (.getfield 47, 3) := by decide +kernel
theorem dX3_carryOutMade_17 : decode cX3_carryOutMade 17 = .ok (.aload_n 0, 1) := by decide +kernel
theorem dX3_carryOutMade_18 : decode cX3_carryOutMade 18 = .ok (.getfield 40, 3) := by decide +kernel
theorem dX3_carryOutMade_21 : decode cX3_carryOutMade 21 = .ok (.getfield 255, 3) := by decide +kernel
theorem dX3_carryOutMade_24 : decode cX3_carryOutMade 24 = .ok (.iload_n 1, 1) := by decide +kernel
theorem dX3_carryOutMade_25 : decode cX3_carryOutMade 25 = .ok (.iaload, 1) := by decide +kernel
theorem dX3_carryOutMade_26 : decode cX3_carryOutMade 26 = .ok (.invokevirtual 258, 3) := by decide +kernel
theorem dX3_carryOutMade_29 : decode cX3_carryOutMade 29 = .ok (.ireturn, 1) := by decide +kernel
theorem dX3_carryOutMade_30 : decode cX3_carryOutMade 30 = .ok (.aload_n 0, 1) := by decide +kernel
theorem dX3_carryOutMade_31 : decode cX3_carryOutMade 31 = .ok (.getfield 40, 3) := by decide +kernel
theorem dX3_carryOutMade_34 : decode cX3_carryOutMade 34 = .ok (.getfield 252, 3) := by decide +kernel
theorem dX3_carryOutMade_37 : decode cX3_carryOutMade 37 = .ok (.iload_n 1, 1) := by decide +kernel
theorem dX3_carryOutMade_38 : decode cX3_carryOutMade 38 = .ok (.iaload, 1) := by decide +kernel
theorem dX3_carryOutMade_39 : decode cX3_carryOutMade 39 = .ok (.iconst 3, 1) := by decide +kernel
theorem dX3_carryOutMade_40 : decode cX3_carryOutMade 40 = .ok (.if_icmp .ne 27, 3) := by decide +kernel
theorem dX3_carryOutMade_43 : decode cX3_carryOutMade 43 = .ok (.aload_n 0, 1) := by decide +kernel
theorem dX3_carryOutMade_44 : decode cX3_carryOutMade 44 = .ok (.getfield 23, 3) := by decide +kernel
theorem dX3_carryOutMade_47 : decode cX3_carryOutMade 47 = .ok (.aload_n 0, 1) := by decide +kernel
theorem dX3_carryOutMade_48 : decode cX3_carryOutMade 48 = .ok (.getfield 33, 3) := by decide +kernel
theorem dX3_carryOutMade_51 : decode cX3_carryOutMade 51 = .ok (.aload_n 0, 1) := by decide +kernel
theorem dX3_carryOutMade_52 : decode cX3_carryOutMade 52 = .ok (.getfield 40, 3) := by decide +kernel
theorem dX3_carryOutMade_55 : decode cX3_carryOutMade 55 = .ok (.getfield 255, 3) := by decide +kernel
theorem dX3_carryOutMade_58 : decode cX3_carryOutMade 58 = .ok (.iload_n 1, 1) := by decide +kernel
theorem dX3_carryOutMade_59 : decode cX3_carryOutMade 59 = .ok (.iaload, 1) := by decide +kernel
theorem dX3_carryOutMade_60 : decode cX3_carryOutMade 60 = .ok (.invokevirtual 181, 3) := by decide +kernel
theorem dX3_carryOutMade_63 : decode cX3_carryOutMade 63 = .ok (.invokevirtual 120, 3) := by decide +kernel
theorem dX3_carryOutMade_66 : decode cX3_carryOutMade 66 = .ok (.ireturn, 1) := by decide +kernel
theorem dX3_carryOutMade_67 : decode cX3_carryOutMade 67 = .ok (.aload_n 0, 1) := by decide +kernel
theorem dX3_carryOutMade_68 : decode cX3_carryOutMade 68 = .ok (.getfield 23, 3) := by decide +kernel
theorem dX3_carryOutMade_71 : decode cX3_carryOutMade 71 = .ok (.iconst 1, 1) := by decide +kernel
theorem dX3_carryOutMade_72 : decode cX3_carryOutMade 72 = .ok (.invokevirtual 261, 3) := by decide +kernel
theorem dX3_carryOutMade_75 : decode cX3_carryOutMade 75 = .ok (.ifCond .ne 6, 3) := by decide +kernel
theorem dX3_carryOutMade_78 : decode cX3_carryOutMade 78 = .ok (.bipush (-3), 2) := by decide +kernel
theorem dX3_carryOutMade_80 : decode cX3_carryOutMade 80 = .ok (.ireturn, 1) := by decide +kernel
theorem dX3_carryOutMade_81 : decode cX3_carryOutMade 81 = .ok (.aload_n 0, 1) := by decide +kernel
theorem dX3_carryOutMade_82 : decode cX3_carryOutMade 82 = .ok (.getfield 40, 3) := by decide +kernel
theorem dX3_carryOutMade_85 : decode cX3_carryOutMade 85 = .ok (.getfield 264, 3) := by decide +kernel
theorem dX3_carryOutMade_88 : decode cX3_carryOutMade 88 = .ok (.iload_n 1, 1) := by decide +kernel
theorem dX3_carryOutMade_89 : decode cX3_carryOutMade 89 = .ok (.iaload, 1) := by decide +kernel
theorem dX3_carryOutMade_90 : decode cX3_carryOutMade 90 = .ok (.iconst (-1), 1) := by decide +kernel
theorem dX3_carryOutMade_91 : decode cX3_carryOutMade 91 = .ok (.if_icmp .eq 16, 3) := by decide +kernel
theorem dX3_carryOutMade_94 : decode cX3_carryOutMade 94 = .ok (.aload_n 0, 1) := by decide +kernel
theorem dX3_carryOutMade_95 : decode cX3_carryOutMade 95 = .ok (.getfield 47, 3) := by decide +kernel
theorem dX3_carryOutMade_98 : decode cX3_carryOutMade 98 = .ok (.invokevirtual 267, 3) := by decide +kernel
theorem dX3_carryOutMade_101 : decode cX3_carryOutMade 101 = .ok (.ifCond .eq 6, 3) := by decide +kernel
theorem dX3_carryOutMade_104 : decode cX3_carryOutMade 104 = .ok (.bipush (-5), 2) := by decide +kernel
theorem dX3_carryOutMade_106 : decode cX3_carryOutMade 106 = .ok (.ireturn, 1) := by decide +kernel
theorem dX3_carryOutMade_107 : decode cX3_carryOutMade 107 = .ok (.aload_n 0, 1) := by decide +kernel
theorem dX3_carryOutMade_108 : decode cX3_carryOutMade 108 = .ok (.getfield 23, 3) := by decide +kernel
theorem dX3_carryOutMade_111 : decode cX3_carryOutMade 111 = .ok (.aload_n 0, 1) := by decide +kernel
theorem dX3_carryOutMade_112 : decode cX3_carryOutMade 112 = .ok (.getfield 40, 3) := by decide +kernel
theorem dX3_carryOutMade_115 : decode cX3_carryOutMade 115 = .ok (.getfield 255, 3) := by decide +kernel
theorem dX3_carryOutMade_118 : decode cX3_carryOutMade 118 = .ok (.iload_n 1, 1) := by decide +kernel
theorem dX3_carryOutMade_119 : decode cX3_carryOutMade 119 = .ok (.iaload, 1) := by decide +kernel
theorem dX3_carryOutMade_120 : decode cX3_carryOutMade 120 = .ok (.invokevirtual 120, 3) := by decide +kernel
theorem dX3_carryOutMade_123 : decode cX3_carryOutMade 123 = .ok (.pop, 1) := by decide +kernel
theorem dX3_carryOutMade_124 : decode cX3_carryOutMade 124 = .ok (.aload_n 0, 1) := by decide +kernel
theorem dX3_carryOutMade_125 : decode cX3_carryOutMade 125 = .ok (.getfield 40, 3) := by decide +kernel
theorem dX3_carryOutMade_128 : decode cX3_carryOutMade 128 = .ok (.getfield 264, 3) := by decide +kernel
theorem dX3_carryOutMade_131 : decode cX3_carryOutMade 131 = .ok (.iload_n 1, 1) := by decide +kernel
theorem dX3_carryOutMade_132 : decode cX3_carryOutMade 132 = .ok (.iaload, 1) := by decide +kernel
theorem dX3_carryOutMade_133 : decode cX3_carryOutMade 133 = .ok (.iconst (-1), 1) := by decide +kernel
theorem dX3_carryOutMade_134 : decode cX3_carryOutMade 134 = .ok (.if_icmp .ne 7, 3) := by decide +kernel
theorem dX3_carryOutMade_137 : decode cX3_carryOutMade 137 = .ok (.iconst 0, 1) := by decide +kernel
theorem dX3_carryOutMade_138 : decode cX3_carryOutMade 138 = .ok (.goto 19, 3) := by decide +kernel
theorem dX3_carryOutMade_141 : decode cX3_carryOutMade 141 = .ok (.aload_n 0, 1) := by decide +kernel
theorem dX3_carryOutMade_142 : decode cX3_carryOutMade 142 = .ok (.getfield 47, 3) := by decide +kernel
theorem dX3_carryOutMade_145 : decode cX3_carryOutMade 145 = .ok (.aload_n 0, 1) := by decide +kernel
theorem dX3_carryOutMade_146 : decode cX3_carryOutMade 146 = .ok (.getfield 40, 3) := by decide +kernel
theorem dX3_carryOutMade_149 : decode cX3_carryOutMade 149 = .ok (.getfield 264, 3) := by decide +kernel
theorem dX3_carryOutMade_152 : decode cX3_carryOutMade 152 = .ok (.iload_n 1, 1) := by decide +kernel
theorem dX3_carryOutMade_153 : decode cX3_carryOutMade 153 = .ok (.iaload, 1) := by decide +kernel
theorem dX3_carryOutMade_154 : decode cX3_carryOutMade 154 = .ok (.invokevirtual 258, 3) := by decide +kernel
theorem dX3_carryOutMade_157 : decode cX3_carryOutMade 157 = .ok (.ireturn, 1) := by decide +kernel
theorem dX3_askFirst_0 : decode cX3_askFirst 0 = .ok (.aload_n 1, 1) := by decide +kernel
theorem dX3_askFirst_1 : decode cX3_askFirst 1 = .ok (.getfield 203, 3) := by decide +kernel
theorem dX3_askFirst_4 : decode cX3_askFirst 4 = .ok (.ifCond .ne 16, 3) := by decide +kernel
theorem dX3_askFirst_7 : decode cX3_askFirst 7 = .ok (.aload_n 0, 1) := by decide +kernel
theorem dX3_askFirst_8 : decode cX3_askFirst 8 = .ok (.getfield 47, 3) := by decide +kernel
theorem dX3_askFirst_11 : decode cX3_askFirst 11 = .ok (.invokevirtual 107, 3) := by decide +kernel
theorem dX3_askFirst_14 : decode cX3_askFirst 14 = .ok (.ifCond .ne 6, 3) := by decide +kernel
theorem dX3_askFirst_17 : decode cX3_askFirst 17 = .ok (.bipush (-14), 2) := by decide +kernel
theorem dX3_askFirst_19 : decode cX3_askFirst 19 = .ok (.ireturn, 1) := by decide +kernel
theorem dX3_askFirst_20 : decode cX3_askFirst 20 = .ok (.aload_n 1, 1) := by decide +kernel
theorem dX3_askFirst_21 : decode cX3_askFirst 21 = .ok (.getfield 270, 3) := by decide +kernel
theorem dX3_askFirst_24 : decode cX3_askFirst 24 = .ok (.ifCond .eq 16, 3) := by decide +kernel
theorem dX3_askFirst_27 : decode cX3_askFirst 27 = .ok (.aload_n 0, 1) := by decide +kernel
theorem dX3_askFirst_28 : decode cX3_askFirst 28 = .ok (.getfield 63, 3) := by decide +kernel
theorem dX3_askFirst_31 : decode cX3_askFirst 31 = .ok (.getfield 152, 3) := by decide +kernel
theorem dX3_askFirst_34 : decode cX3_askFirst 34 = .ok (.ifCond .ne 6, 3) := by decide +kernel
theorem dX3_askFirst_37 : decode cX3_askFirst 37 = .ok (.bipush (-14), 2) := by decide +kernel
theorem dX3_askFirst_39 : decode cX3_askFirst 39 = .ok (.ireturn, 1) := by decide +kernel
theorem dX3_askFirst_40 : decode cX3_askFirst 40 = .ok (.aload_n 0, 1) := by decide +kernel
theorem dX3_askFirst_41 : decode cX3_askFirst 41 = .ok (.getfield 23, 3) := by decide +kernel
theorem dX3_askFirst_44 : decode cX3_askFirst 44 = .ok (.getfield 144, 3) := by decide +kernel
theorem dX3_askFirst_47 : decode cX3_askFirst 47 = .ok (.aload_n 1, 1) := by decide +kernel
theorem dX3_askFirst_48 : decode cX3_askFirst 48 = .ok (.getfield 273, 3) := by decide +kernel
theorem dX3_askFirst_51 : decode cX3_askFirst 51 = .ok (.if_icmp .ge 6, 3) := by decide +kernel
theorem dX3_askFirst_54 : decode cX3_askFirst 54 = .ok (.bipush (-4), 2) := by decide +kernel
theorem dX3_askFirst_56 : decode cX3_askFirst 56 = .ok (.ireturn, 1) := by decide +kernel
theorem dX3_askFirst_57 : decode cX3_askFirst 57 = .ok (.aload_n 0, 1) := by decide +kernel
theorem dX3_askFirst_58 : decode cX3_askFirst 58 = .ok (.getfield 27, 3) := by decide +kernel
theorem dX3_askFirst_61 : decode cX3_askFirst 61 = .ok (.getfield 144, 3) := by decide +kernel
theorem dX3_askFirst_64 : decode cX3_askFirst 64 = .ok (.aload_n 1, 1) := by decide +kernel
theorem dX3_askFirst_65 : decode cX3_askFirst 65 = .ok (.getfield 276, 3) := by decide +kernel
theorem dX3_askFirst_68 : decode cX3_askFirst 68 = .ok (.if_icmp .ge 8, 3) := by decide +kernel
theorem dX3_askFirst_71 : decode cX3_askFirst 71 = .ok (.bipush (-6), 2) := by decide +kernel
theorem dX3_askFirst_73 : decode cX3_askFirst 73 = .ok (.goto 4, 3) := by decide +kernel
theorem dX3_askFirst_76 : decode cX3_askFirst 76 = .ok (.iconst 0, 1) := by decide +kernel
theorem dX3_askFirst_77 : decode cX3_askFirst 77 = .ok (.ireturn, 1) := by decide +kernel
theorem dX3_carryOutInner_0 : decode cX3_carryOutInner 0 = .ok (.getstatic 279, 3) := by decide +kernel
theorem dX3_carryOutInner_3 : decode cX3_carryOutInner 3 = .ok (.aload_n 1, 1) := by decide +kernel
theorem dX3_carryOutInner_4 : decode cX3_carryOutInner 4 = .ok (.invokevirtual 284, 3) := by decide +kernel
theorem dX3_carryOutInner_7 : decode cX3_carryOutInner 7 = .ok (.iaload, 1) := by decide +kernel
theorem dX3_carryOutInner_8 : decode cX3_carryOutInner 8 = .ok (.tableswitch 47 21 23 #[28, 37, 42], 28) := by decide +kernel
theorem dX3_carryOutInner_36 : decode cX3_carryOutInner 36 = .ok (.aload_n 0, 1) := by decide +kernel
theorem dX3_carryOutInner_37 : decode cX3_carryOutInner 37 = .ok (.getfield 47, 3) := by decide +kernel
theorem dX3_carryOutInner_40 : decode cX3_carryOutInner 40 = .ok (.invokevirtual 117, 3) := by decide +kernel
theorem dX3_carryOutInner_43 : decode cX3_carryOutInner 43 = .ok (.iconst 0, 1) := by decide +kernel
theorem dX3_carryOutInner_44 : decode cX3_carryOutInner 44 = .ok (.ireturn, 1) := by decide +kernel
theorem dX3_carryOutInner_45 : decode cX3_carryOutInner 45 = .ok (.aload_n 0, 1) := by decide +kernel
theorem dX3_carryOutInner_46 : decode cX3_carryOutInner 46 = .ok (.invokevirtual 287, 3) := by decide +kernel
theorem dX3_carryOutInner_49 : decode cX3_carryOutInner 49 = .ok (.ireturn, 1) := by decide +kernel
theorem dX3_carryOutInner_50 : decode cX3_carryOutInner 50 = .ok (.aload_n 0, 1) := by decide +kernel
theorem dX3_carryOutInner_51 : decode cX3_carryOutInner 51 = .ok (.invokevirtual 290, 3) := by decide +kernel
theorem dX3_carryOutInner_54 : decode cX3_carryOutInner 54 = .ok (.ireturn, 1) := by decide +kernel
theorem dX3_carryOutInner_55 : decode cX3_carryOutInner 55 = .ok (.aload_n 0, 1) := by decide +kernel
theorem dX3_carryOutInner_56 : decode cX3_carryOutInner 56 = .ok (.aload_n 1, 1) := by decide +kernel
theorem dX3_carryOutInner_57 : decode cX3_carryOutInner 57 = .ok (.aload_n 0, 1) := by decide +kernel
theorem dX3_carryOutInner_58 : decode cX3_carryOutInner 58 = .ok (.getfield 47, 3) := by decide +kernel
theorem dX3_carryOutInner_61 : decode cX3_carryOutInner 61 = .ok (.invokevirtual 175, 3) := by decide +kernel
theorem dX3_carryOutInner_64 : decode cX3_carryOutInner 64 = .ok (.invokevirtual 293, 3) := by decide +kernel
theorem dX3_carryOutInner_67 : decode cX3_carryOutInner 67 = .ok (.ireturn, 1) := by decide +kernel
theorem dX3_enterLoop_0 : decode cX3_enterLoop 0 = .ok (.aload_n 0, 1) := by decide +kernel
theorem dX3_enterLoop_1 : decode cX3_enterLoop 1 = .ok (.getfield 27, 3) := by decide +kernel
theorem dX3_enterLoop_4 : decode cX3_enterLoop 4 = .ok (.iconst 2, 1) := by decide +kernel
theorem dX3_enterLoop_5 : decode cX3_enterLoop 5 = .ok (.invokevirtual 261, 3) := by decide +kernel
theorem dX3_enterLoop_8 : decode cX3_enterLoop 8 = .ok (.ifCond .ne 6, 3) := by decide +kernel
theorem dX3_enterLoop_11 : decode cX3_enterLoop 11 = .ok (.bipush (-5), 2) := by decide +kernel
theorem dX3_enterLoop_13 : decode cX3_enterLoop 13 = .ok (.ireturn, 1) := by decide +kernel
theorem dX3_enterLoop_14 : decode cX3_enterLoop 14 = .ok (.aload_n 0, 1) := by decide +kernel
theorem dX3_enterLoop_15 : decode cX3_enterLoop 15 = .ok (.getfield 27, 3) := by decide +kernel
theorem dX3_enterLoop_18 : decode cX3_enterLoop 18 = .ok (.aload_n 0, 1) := by decide +kernel
theorem dX3_enterLoop_19 : decode cX3_enterLoop 19 = .ok (.getfield 23, 3) := by decide +kernel
theorem dX3_enterLoop_22 : decode cX3_enterLoop 22 = .ok (.iconst 1, 1) := by decide +kernel
theorem dX3_enterLoop_23 : decode cX3_enterLoop 23 = .ok (.invokevirtual 212, 3) := by decide +kernel
theorem dX3_enterLoop_26 : decode cX3_enterLoop 26 = .ok (.invokevirtual 120, 3) := by decide +kernel
theorem dX3_enterLoop_29 : decode cX3_enterLoop 29 = .ok (.pop, 1) := by decide +kernel
theorem dX3_enterLoop_30 : decode cX3_enterLoop 30 = .ok (.aload_n 0, 1) := by decide +kernel
theorem dX3_enterLoop_31 : decode cX3_enterLoop 31 = .ok (.getfield 27, 3) := by decide +kernel
theorem dX3_enterLoop_34 : decode cX3_enterLoop 34 = .ok (.aload_n 0, 1) := by decide +kernel
theorem dX3_enterLoop_35 : decode cX3_enterLoop 35 = .ok (.getfield 23, 3) := by decide +kernel
theorem dX3_enterLoop_38 : decode cX3_enterLoop 38 = .ok (.iconst 0, 1) := by decide +kernel
theorem dX3_enterLoop_39 : decode cX3_enterLoop 39 = .ok (.invokevirtual 212, 3) := by decide +kernel
theorem dX3_enterLoop_42 : decode cX3_enterLoop 42 = .ok (.invokevirtual 120, 3) := by decide +kernel
theorem dX3_enterLoop_45 : decode cX3_enterLoop 45 = .ok (.pop, 1) := by decide +kernel
theorem dX3_enterLoop_46 : decode cX3_enterLoop 46 = .ok (.aload_n 0, 1) := by decide +kernel
theorem dX3_enterLoop_47 : decode cX3_enterLoop 47 = .ok (.getfield 23, 3) := by decide +kernel
theorem dX3_enterLoop_50 : decode cX3_enterLoop 50 = .ok (.iconst 2, 1) := by decide +kernel
theorem dX3_enterLoop_51 : decode cX3_enterLoop 51 = .ok (.invokevirtual 296, 3) := by decide +kernel
theorem dX3_enterLoop_54 : decode cX3_enterLoop 54 = .ok (.iconst 0, 1) := by decide +kernel
theorem dX3_enterLoop_55 : decode cX3_enterLoop 55 = .ok (.ireturn, 1) := by decide +kernel
theorem dX3_giveBehaviour_0 : decode cX3_giveBehaviour 0 = .ok (.aload_n 0, 1) := by decide +kernel
theorem dX3_giveBehaviour_1 : decode cX3_giveBehaviour 1 = .ok (.getfield 40, 3) := by decide +kernel
theorem dX3_giveBehaviour_4 : decode cX3_giveBehaviour 4 = .ok (.aload_n 0, 1) := by decide +kernel
theorem dX3_giveBehaviour_5 : decode cX3_giveBehaviour 5 = .ok (.getfield 47, 3) := by decide +kernel
theorem dX3_giveBehaviour_8 : decode cX3_giveBehaviour 8 = .ok (.invokevirtual 175, 3) := by decide +kernel
theorem dX3_giveBehaviour_11 : decode cX3_giveBehaviour 11 = .ok (.invokevirtual 299, 3) := by decide +kernel
theorem dX3_giveBehaviour_14 : decode cX3_giveBehaviour 14 = .ok (.istore_n 1, 1) := by decide +kernel
theorem dX3_giveBehaviour_15 : decode cX3_giveBehaviour 15 = .ok (.iload_n 1, 1) := by decide +kernel
theorem dX3_giveBehaviour_16 : decode cX3_giveBehaviour 16 = .ok (.ifCond .ne 10, 3) := by decide +kernel
theorem dX3_giveBehaviour_19 : decode cX3_giveBehaviour 19 = .ok (.aload_n 0, 1) := by decide +kernel
theorem dX3_giveBehaviour_20 : decode cX3_giveBehaviour 20 = .ok (.getfield 47, 3) := by decide +kernel
theorem dX3_giveBehaviour_23 : decode cX3_giveBehaviour 23 = .ok (.invokevirtual 117, 3) := by decide +kernel
theorem dX3_giveBehaviour_26 : decode cX3_giveBehaviour 26 = .ok (.iload_n 1, 1) := by decide +kernel
theorem dX3_giveBehaviour_27 : decode cX3_giveBehaviour 27 = .ok (.ireturn, 1) := by decide +kernel
theorem dX3_useNumberBehind_0 : decode cX3_useNumberBehind 0 = .ok (.aload_n 0, 1) := by decide +kernel
theorem dX3_useNumberBehind_1 : decode cX3_useNumberBehind 1 = .ok (.getfield 33, 3) := by decide +kernel
theorem dX3_useNumberBehind_4 : decode cX3_useNumberBehind 4 = .ok (.iload_n 2, 1) := by decide +kernel
theorem dX3_useNumberBehind_5 : decode cX3_useNumberBehind 5 = .ok (.invokevirtual 178, 3) := by decide +kernel
theorem dX3_useNumberBehind_8 : decode cX3_useNumberBehind 8 = .ok (.ifCond .ne 6, 3) := by decide +kernel
theorem dX3_useNumberBehind_11 : decode cX3_useNumberBehind 11 = .ok (.bipush (-9), 2) := by decide +kernel
theorem dX3_useNumberBehind_13 : decode cX3_useNumberBehind 13 = .ok (.ireturn, 1) := by decide +kernel
theorem dX3_useNumberBehind_14 : decode cX3_useNumberBehind 14 = .ok (.aload_n 0, 1) := by decide +kernel
theorem dX3_useNumberBehind_15 : decode cX3_useNumberBehind 15 = .ok (.getfield 33, 3) := by decide +kernel
theorem dX3_useNumberBehind_18 : decode cX3_useNumberBehind 18 = .ok (.iload_n 2, 1) := by decide +kernel
theorem dX3_useNumberBehind_19 : decode cX3_useNumberBehind 19 = .ok (.invokevirtual 181, 3) := by decide +kernel
theorem dX3_useNumberBehind_22 : decode cX3_useNumberBehind 22 = .ok (.istore_n 3, 1) := by decide +kernel
theorem dX3_useNumberBehind_23 : decode cX3_useNumberBehind 23 = .ok (.getstatic 279, 3) := by decide +kernel
theorem dX3_useNumberBehind_26 : decode cX3_useNumberBehind 26 = .ok (.aload_n 1, 1) := by decide +kernel
theorem dX3_useNumberBehind_27 : decode cX3_useNumberBehind 27 = .ok (.invokevirtual 284, 3) := by decide +kernel
theorem dX3_useNumberBehind_30 : decode cX3_useNumberBehind 30 = .ok (.iaload, 1) := by decide +kernel
theorem dX3_useNumberBehind_31 : decode cX3_useNumberBehind 31 = .ok (.tableswitch 96 24 27 #[29, 36, 46, 72], 29) := by decide +kernel
theorem dX3_useNumberBehind_60 : decode cX3_useNumberBehind 60 = .ok (.aload_n 0, 1) := by decide +kernel
theorem dX3_useNumberBehind_61 : decode cX3_useNumberBehind 61 = .ok (.iload_n 3, 1) := by decide +kernel
theorem dX3_useNumberBehind_62 : decode cX3_useNumberBehind 62 = .ok (.iload_n 2, 1) := by decide +kernel
theorem dX3_useNumberBehind_63 : decode cX3_useNumberBehind 63 = .ok (.invokevirtual 302, 3) := by decide +kernel
theorem dX3_useNumberBehind_66 : decode cX3_useNumberBehind 66 = .ok (.ireturn, 1) := by decide +kernel
theorem dX3_useNumberBehind_67 : decode cX3_useNumberBehind 67 = .ok (.aload_n 0, 1) := by decide +kernel
theorem dX3_useNumberBehind_68 : decode cX3_useNumberBehind 68 = .ok (.getfield 47, 3) := by decide +kernel
theorem dX3_useNumberBehind_71 : decode cX3_useNumberBehind 71 = .ok (.iload_n 3, 1) := by decide +kernel
theorem dX3_useNumberBehind_72 : decode cX3_useNumberBehind 72 = .ok (.invokevirtual 187, 3) := by decide +kernel
theorem dX3_useNumberBehind_75 : decode cX3_useNumberBehind 75 = .ok (.iconst 0, 1) := by decide +kernel
theorem dX3_useNumberBehind_76 : decode cX3_useNumberBehind 76 = .ok (.ireturn, 1) := by decide +kernel
theorem dX3_useNumberBehind_77 : decode cX3_useNumberBehind 77 = .ok (.aload_n 0, 1) := by decide +kernel
theorem dX3_useNumberBehind_78 : decode cX3_useNumberBehind 78 = .ok (.getfield 47, 3) := by decide +kernel
theorem dX3_useNumberBehind_81 : decode cX3_useNumberBehind 81 = .ok (.aload_n 0, 1) := by decide +kernel
theorem dX3_useNumberBehind_82 : decode cX3_useNumberBehind 82 = .ok (.getfield 23, 3) := by decide +kernel
theorem dX3_useNumberBehind_85 : decode cX3_useNumberBehind 85 = .ok (.invokevirtual 305, 3) := by decide +kernel
theorem dX3_useNumberBehind_88 : decode cX3_useNumberBehind 88 = .ok (.ifCond .ne 7, 3) := by decide +kernel
theorem dX3_useNumberBehind_91 : decode cX3_useNumberBehind 91 = .ok (.iload_n 3, 1) := by decide +kernel
theorem dX3_useNumberBehind_92 : decode cX3_useNumberBehind 92 = .ok (.goto 6, 3) := by decide +kernel
theorem dX3_useNumberBehind_95 : decode cX3_useNumberBehind 95 = .ok (.iload_n 2, 1) := by decide +kernel
theorem dX3_useNumberBehind_96 : decode cX3_useNumberBehind 96 = .ok (.iconst 1, 1) := by decide +kernel
theorem dX3_useNumberBehind_97 : decode cX3_useNumberBehind 97 = .ok (.iadd, 1) := by decide +kernel
theorem dX3_useNumberBehind_98 : decode cX3_useNumberBehind 98 = .ok (.invokevirtual 187, 3) := by decide +kernel
theorem dX3_useNumberBehind_101 : decode cX3_useNumberBehind 101 = .ok (.iconst 0, 1) := by decide +kernel
theorem dX3_useNumberBehind_102 : decode cX3_useNumberBehind 102 = .ok (.ireturn, 1) := by decide +kernel
theorem dX3_useNumberBehind_103 : decode cX3_useNumberBehind 103 = .ok (.aload_n 0, 1) := by decide +kernel
theorem dX3_useNumberBehind_104 : decode cX3_useNumberBehind 104 = .ok (.getfield 47, 3) := by decide +kernel
theorem dX3_useNumberBehind_107 : decode cX3_useNumberBehind 107 = .ok (.aload_n 0, 1) := by decide +kernel
theorem dX3_useNumberBehind_108 : decode cX3_useNumberBehind 108 = .ok (.iconst 1, 1) := by decide +kernel
theorem dX3_useNumberBehind_109 : decode cX3_useNumberBehind 109 = .ok (.invokevirtual 308, 3) := by decide +kernel
theorem dX3_useNumberBehind_112 : decode cX3_useNumberBehind 112 = .ok (.ifCond .eq 9, 3) := by decide +kernel
theorem dX3_useNumberBehind_115 : decode cX3_useNumberBehind 115 = .ok (.iload_n 2, 1) := by decide +kernel
theorem dX3_useNumberBehind_116 : decode cX3_useNumberBehind 116 = .ok (.iconst 1, 1) := by decide +kernel
theorem dX3_useNumberBehind_117 : decode cX3_useNumberBehind 117 = .ok (.iadd, 1) := by decide +kernel
theorem dX3_useNumberBehind_118 : decode cX3_useNumberBehind 118 = .ok (.goto 4, 3) := by decide +kernel
theorem dX3_useNumberBehind_121 : decode cX3_useNumberBehind 121 = .ok (.iload_n 3, 1) := by decide +kernel
theorem dX3_useNumberBehind_122 : decode cX3_useNumberBehind 122 = .ok (.invokevirtual 187, 3) := by decide +kernel
theorem dX3_useNumberBehind_125 : decode cX3_useNumberBehind 125 = .ok (.iconst 0, 1) := by decide +kernel
theorem dX3_useNumberBehind_126 : decode cX3_useNumberBehind 126 = .ok (.ireturn, 1) := by decide +kernel
theorem dX3_useNumberBehind_127 : decode cX3_useNumberBehind 127 = .ok (.aload_n 0, 1) := by decide +kernel
theorem dX3_useNumberBehind_128 : decode cX3_useNumberBehind 128 = .ok (.getfield 47, 3) := by decide +kernel
theorem dX3_useNumberBehind_131 : decode cX3_useNumberBehind 131 = .ok (.aload_n 0, 1) := by decide +kernel
theorem dX3_useNumberBehind_132 : decode cX3_useNumberBehind 132 = .ok (.aload_n 0, 1) := by decide +kernel
theorem dX3_useNumberBehind_133 : decode cX3_useNumberBehind 133 = .ok (.getfield 23, 3) := by decide +kernel
theorem dX3_useNumberBehind_136 : decode cX3_useNumberBehind 136 = .ok (.invokevirtual 305, 3) := by decide +kernel
theorem dX3_useNumberBehind_139 : decode cX3_useNumberBehind 139 = .ok (.invokevirtual 308, 3) := by decide +kernel
theorem dX3_useNumberBehind_142 : decode cX3_useNumberBehind 142 = .ok (.ifCond .eq 9, 3) := by decide +kernel
theorem dX3_useNumberBehind_145 : decode cX3_useNumberBehind 145 = .ok (.iload_n 2, 1) := by decide +kernel
theorem dX3_useNumberBehind_146 : decode cX3_useNumberBehind 146 = .ok (.iconst 1, 1) := by decide +kernel
theorem dX3_useNumberBehind_147 : decode cX3_useNumberBehind 147 = .ok (.iadd, 1) := by decide +kernel
theorem dX3_useNumberBehind_148 : decode cX3_useNumberBehind 148 = .ok (.goto 4, 3) := by decide +kernel
theorem dX3_useNumberBehind_151 : decode cX3_useNumberBehind 151 = .ok (.iload_n 3, 1) := by decide +kernel
theorem dX3_useNumberBehind_152 : decode cX3_useNumberBehind 152 = .ok (.invokevirtual 187, 3) := by decide +kernel
theorem dX3_useNumberBehind_155 : decode cX3_useNumberBehind 155 = .ok (.iconst 0, 1) := by decide +kernel
theorem dX3_useNumberBehind_156 : decode cX3_useNumberBehind 156 = .ok (.ireturn, 1) := by decide +kernel
theorem dX3_putAndPass_0 : decode cX3_putAndPass 0 = .ok (.aload_n 0, 1) := by decide +kernel
theorem dX3_putAndPass_1 : decode cX3_putAndPass 1 = .ok (.getfield 23, 3) := by decide +kernel
theorem dX3_putAndPass_4 : decode cX3_putAndPass 4 = .ok (.iload_n 1, 1) := by decide +kernel
theorem dX3_putAndPass_5 : decode cX3_putAndPass 5 = .ok (.invokevirtual 120, 3) := by decide +kernel
theorem dX3_putAndPass_8 : decode cX3_putAndPass 8 = .ok (.istore_n 3, 1) := by decide +kernel
theorem dX3_putAndPass_9 : decode cX3_putAndPass 9 = .ok (.iload_n 3, 1) := by decide +kernel
theorem dX3_putAndPass_10 : decode cX3_putAndPass 10 = .ok (.ifCond .ne 13, 3) := by decide +kernel
theorem dX3_putAndPass_13 : decode cX3_putAndPass 13 = .ok (.aload_n 0, 1) := by decide +kernel
theorem dX3_putAndPass_14 : decode cX3_putAndPass 14 = .ok (.getfield 47, 3) := by decide +kernel
theorem dX3_putAndPass_17 : decode cX3_putAndPass 17 = .ok (.iload_n 2, 1) := by decide +kernel
theorem dX3_putAndPass_18 : decode cX3_putAndPass 18 = .ok (.iconst 1, 1) := by decide +kernel
theorem dX3_putAndPass_19 : decode cX3_putAndPass 19 = .ok (.iadd, 1) := by decide +kernel
theorem dX3_putAndPass_20 : decode cX3_putAndPass 20 = .ok (.invokevirtual 187, 3) := by decide +kernel
theorem dX3_putAndPass_23 : decode cX3_putAndPass 23 = .ok (.iload_n 3, 1) := by decide +kernel
theorem dX3_putAndPass_24 : decode cX3_putAndPass 24 = .ok (.ireturn, 1) := by decide +kernel
theorem dX3_loopEnds_0 : decode cX3_loopEnds 0 = .ok (.aload_n 0, 1) := by decide +kernel
theorem dX3_loopEnds_1 : decode cX3_loopEnds 1 = .ok (.getfield 27, 3) := by decide +kernel
theorem dX3_loopEnds_4 : decode cX3_loopEnds 4 = .ok (.iconst 0, 1) := by decide +kernel
theorem dX3_loopEnds_5 : decode cX3_loopEnds 5 = .ok (.invokevirtual 212, 3) := by decide +kernel
theorem dX3_loopEnds_8 : decode cX3_loopEnds 8 = .ok (.aload_n 0, 1) := by decide +kernel
theorem dX3_loopEnds_9 : decode cX3_loopEnds 9 = .ok (.getfield 27, 3) := by decide +kernel
theorem dX3_loopEnds_12 : decode cX3_loopEnds 12 = .ok (.iconst 1, 1) := by decide +kernel
theorem dX3_loopEnds_13 : decode cX3_loopEnds 13 = .ok (.invokevirtual 212, 3) := by decide +kernel
theorem dX3_loopEnds_16 : decode cX3_loopEnds 16 = .ok (.isub, 1) := by decide +kernel
theorem dX3_loopEnds_17 : decode cX3_loopEnds 17 = .ok (.istore_n 2, 1) := by decide +kernel
theorem dX3_loopEnds_18 : decode cX3_loopEnds 18 = .ok (.iload_n 2, 1) := by decide +kernel
theorem dX3_loopEnds_19 : decode cX3_loopEnds 19 = .ok (.iload_n 1, 1) := by decide +kernel
theorem dX3_loopEnds_20 : decode cX3_loopEnds 20 = .ok (.iadd, 1) := by decide +kernel
theorem dX3_loopEnds_21 : decode cX3_loopEnds 21 = .ok (.istore_n 3, 1) := by decide +kernel
theorem dX3_loopEnds_22 : decode cX3_loopEnds 22 = .ok (.iload_n 2, 1) := by decide +kernel
theorem dX3_loopEnds_23 : decode cX3_loopEnds 23 = .ok (.ifCond .ge 7, 3) := by decide +kernel
theorem dX3_loopEnds_26 : decode cX3_loopEnds 26 = .ok (.iconst 1, 1) := by decide +kernel
theorem dX3_loopEnds_27 : decode cX3_loopEnds 27 = .ok (.goto 4, 3) := by decide +kernel
theorem dX3_loopEnds_30 : decode cX3_loopEnds 30 = .ok (.iconst 0, 1) := by decide +kernel
theorem dX3_loopEnds_31 : decode cX3_loopEnds 31 = .ok (.iload_n 3, 1) := by decide +kernel
theorem dX3_loopEnds_32 : decode cX3_loopEnds 32 = .ok (.ifCond .ge 7, 3) := by decide +kernel
theorem dX3_loopEnds_35 : decode cX3_loopEnds 35 = .ok (.iconst 1, 1) := by decide +kernel
theorem dX3_loopEnds_36 : decode cX3_loopEnds 36 = .ok (.goto 4, 3) := by decide +kernel
theorem dX3_loopEnds_39 : decode cX3_loopEnds 39 = .ok (.iconst 0, 1) := by decide +kernel
theorem dX3_loopEnds_40 : decode cX3_loopEnds 40 = .ok (.if_icmp .eq 13, 3) := by decide +kernel
theorem dX3_loopEnds_43 : decode cX3_loopEnds 43 = .ok (.aload_n 0, 1) := by decide +kernel
theorem dX3_loopEnds_44 : decode cX3_loopEnds 44 = .ok (.getfield 27, 3) := by decide +kernel
theorem dX3_loopEnds_47 : decode cX3_loopEnds 47 = .ok (.iconst 2, 1) := by decide +kernel
theorem dX3_loopEnds_48 : decode cX3_loopEnds 48 = .ok (.invokevirtual 296, 3) := by decide +kernel
theorem dX3_loopEnds_51 : decode cX3_loopEnds 51 = .ok (.iconst 1, 1) := by decide +kernel
theorem dX3_loopEnds_52 : decode cX3_loopEnds 52 = .ok (.ireturn, 1) := by decide +kernel
theorem dX3_loopEnds_53 : decode cX3_loopEnds 53 = .ok (.aload_n 0, 1) := by decide +kernel
theorem dX3_loopEnds_54 : decode cX3_loopEnds 54 = .ok (.getfield 27, 3) := by decide +kernel
theorem dX3_loopEnds_57 : decode cX3_loopEnds 57 = .ok (.aload_n 0, 1) := by decide +kernel
theorem dX3_loopEnds_58 : decode cX3_loopEnds 58 = .ok (.getfield 27, 3) := by decide +kernel
theorem dX3_loopEnds_61 : decode cX3_loopEnds 61 = .ok (.iconst 0, 1) := by decide +kernel
theorem dX3_loopEnds_62 : decode cX3_loopEnds 62 = .ok (.invokevirtual 212, 3) := by decide +kernel
theorem dX3_loopEnds_65 : decode cX3_loopEnds 65 = .ok (.iload_n 1, 1) := by decide +kernel
theorem dX3_loopEnds_66 : decode cX3_loopEnds 66 = .ok (.iadd, 1) := by decide +kernel
theorem dX3_loopEnds_67 : decode cX3_loopEnds 67 = .ok (.invokevirtual 219, 3) := by decide +kernel
theorem dX3_loopEnds_70 : decode cX3_loopEnds 70 = .ok (.iconst 0, 1) := by decide +kernel
theorem dX3_loopEnds_71 : decode cX3_loopEnds 71 = .ok (.ireturn, 1) := by decide +kernel
theorem dX3_moveNumbers_0 : decode cX3_moveNumbers 0 = .ok (.getstatic 279, 3) := by decide +kernel
theorem dX3_moveNumbers_3 : decode cX3_moveNumbers 3 = .ok (.aload_n 1, 1) := by decide +kernel
theorem dX3_moveNumbers_4 : decode cX3_moveNumbers 4 = .ok (.invokevirtual 284, 3) := by decide +kernel
theorem dX3_moveNumbers_7 : decode cX3_moveNumbers 7 = .ok (.iaload, 1) := by decide +kernel
theorem dX3_moveNumbers_8 : decode cX3_moveNumbers 8 = .ok (.tableswitch 183 28 36 #[52, 68, 78, 88, 104, 114, 132, 163, 178], 52) := by decide +kernel
theorem dX3_moveNumbers_60 : decode cX3_moveNumbers 60 = .ok (.aload_n 0, 1) := by decide +kernel
theorem dX3_moveNumbers_61 : decode cX3_moveNumbers 61 = .ok (.getfield 23, 3) := by decide +kernel
theorem dX3_moveNumbers_64 : decode cX3_moveNumbers 64 = .ok (.aload_n 0, 1) := by decide +kernel
theorem dX3_moveNumbers_65 : decode cX3_moveNumbers 65 = .ok (.getfield 23, 3) := by decide +kernel
theorem dX3_moveNumbers_68 : decode cX3_moveNumbers 68 = .ok (.iconst 0, 1) := by decide +kernel
theorem dX3_moveNumbers_69 : decode cX3_moveNumbers 69 = .ok (.invokevirtual 212, 3) := by decide +kernel
theorem dX3_moveNumbers_72 : decode cX3_moveNumbers 72 = .ok (.invokevirtual 120, 3) := by decide +kernel
theorem dX3_moveNumbers_75 : decode cX3_moveNumbers 75 = .ok (.ireturn, 1) := by decide +kernel
theorem dX3_moveNumbers_76 : decode cX3_moveNumbers 76 = .ok (.aload_n 0, 1) := by decide +kernel
theorem dX3_moveNumbers_77 : decode cX3_moveNumbers 77 = .ok (.getfield 23, 3) := by decide +kernel
theorem dX3_moveNumbers_80 : decode cX3_moveNumbers 80 = .ok (.iconst 1, 1) := by decide +kernel
theorem dX3_moveNumbers_81 : decode cX3_moveNumbers 81 = .ok (.invokevirtual 296, 3) := by decide +kernel
theorem dX3_moveNumbers_84 : decode cX3_moveNumbers 84 = .ok (.iconst 0, 1) := by decide +kernel
theorem dX3_moveNumbers_85 : decode cX3_moveNumbers 85 = .ok (.ireturn, 1) := by decide +kernel
theorem dX3_moveNumbers_86 : decode cX3_moveNumbers 86 = .ok (.aload_n 0, 1) := by decide +kernel
theorem dX3_moveNumbers_87 : decode cX3_moveNumbers 87 = .ok (.getfield 23, 3) := by decide +kernel
theorem dX3_moveNumbers_90 : decode cX3_moveNumbers 90 = .ok (.iconst 1, 1) := by decide +kernel
theorem dX3_moveNumbers_91 : decode cX3_moveNumbers 91 = .ok (.invokevirtual 311, 3) := by decide +kernel
theorem dX3_moveNumbers_94 : decode cX3_moveNumbers 94 = .ok (.iconst 0, 1) := by decide +kernel
theorem dX3_moveNumbers_95 : decode cX3_moveNumbers 95 = .ok (.ireturn, 1) := by decide +kernel
theorem dX3_moveNumbers_96 : decode cX3_moveNumbers 96 = .ok (.aload_n 0, 1) := by decide +kernel
theorem dX3_moveNumbers_97 : decode cX3_moveNumbers 97 = .ok (.getfield 23, 3) := by decide +kernel
theorem dX3_moveNumbers_100 : decode cX3_moveNumbers 100 = .ok (.aload_n 0, 1) := by decide +kernel
theorem dX3_moveNumbers_101 : decode cX3_moveNumbers 101 = .ok (.getfield 23, 3) := by decide +kernel
theorem dX3_moveNumbers_104 : decode cX3_moveNumbers 104 = .ok (.iconst 1, 1) := by decide +kernel
theorem dX3_moveNumbers_105 : decode cX3_moveNumbers 105 = .ok (.invokevirtual 212, 3) := by decide +kernel
theorem dX3_moveNumbers_108 : decode cX3_moveNumbers 108 = .ok (.invokevirtual 120, 3) := by decide +kernel
theorem dX3_moveNumbers_111 : decode cX3_moveNumbers 111 = .ok (.ireturn, 1) := by decide +kernel
theorem dX3_moveNumbers_112 : decode cX3_moveNumbers 112 = .ok (.aload_n 0, 1) := by decide +kernel
theorem dX3_moveNumbers_113 : decode cX3_moveNumbers 113 = .ok (.getfield 23, 3) := by decide +kernel
theorem dX3_moveNumbers_116 : decode cX3_moveNumbers 116 = .ok (.iconst 2, 1) := by decide +kernel
theorem dX3_moveNumbers_117 : decode cX3_moveNumbers 117 = .ok (.invokevirtual 311, 3) := by decide +kernel
theorem dX3_moveNumbers_120 : decode cX3_moveNumbers 120 = .ok (.iconst 0, 1) := by decide +kernel
theorem dX3_moveNumbers_121 : decode cX3_moveNumbers 121 = .ok (.ireturn, 1) := by decide +kernel
theorem dX3_moveNumbers_122 : decode cX3_moveNumbers 122 = .ok (.aload_n 0, 1) := by decide +kernel
theorem dX3_moveNumbers_123 : decode cX3_moveNumbers 123 = .ok (.getfield 23, 3) := by decide +kernel
theorem dX3_moveNumbers_126 : decode cX3_moveNumbers 126 = .ok (.iconst 1, 1) := by decide +kernel
theorem dX3_moveNumbers_127 : decode cX3_moveNumbers 127 = .ok (.invokevirtual 311, 3) := by decide +kernel
theorem dX3_moveNumbers_130 : decode cX3_moveNumbers 130 = .ok (.aload_n 0, 1) := by decide +kernel
theorem dX3_moveNumbers_131 : decode cX3_moveNumbers 131 = .ok (.getfield 23, 3) := by decide +kernel
theorem dX3_moveNumbers_134 : decode cX3_moveNumbers 134 = .ok (.iconst 1, 1) := by decide +kernel
theorem dX3_moveNumbers_135 : decode cX3_moveNumbers 135 = .ok (.invokevirtual 296, 3) := by decide +kernel
theorem dX3_moveNumbers_138 : decode cX3_moveNumbers 138 = .ok (.iconst 0, 1) := by decide +kernel
theorem dX3_moveNumbers_139 : decode cX3_moveNumbers 139 = .ok (.ireturn, 1) := by decide +kernel
theorem dX3_moveNumbers_140 : decode cX3_moveNumbers 140 = .ok (.aload_n 0, 1) := by decide +kernel
theorem dX3_moveNumbers_141 : decode cX3_moveNumbers 141 = .ok (.getfield 23, 3) := by decide +kernel
theorem dX3_moveNumbers_144 : decode cX3_moveNumbers 144 = .ok (.iconst 0, 1) := by decide +kernel
theorem dX3_moveNumbers_145 : decode cX3_moveNumbers 145 = .ok (.invokevirtual 212, 3) := by decide +kernel
theorem dX3_moveNumbers_148 : decode cX3_moveNumbers 148 = .ok (.ifCond .ne 7, 3) := by decide +kernel
theorem dX3_moveNumbers_151 : decode cX3_moveNumbers 151 = .ok (.iconst 0, 1) := by decide +kernel
theorem dX3_moveNumbers_152 : decode cX3_moveNumbers 152 = .ok (.goto 18, 3) := by decide +kernel
theorem dX3_moveNumbers_155 : decode cX3_moveNumbers 155 = .ok (.aload_n 0, 1) := by decide +kernel
theorem dX3_moveNumbers_156 : decode cX3_moveNumbers 156 = .ok (.getfield 23, 3) := by decide +kernel
theorem dX3_moveNumbers_159 : decode cX3_moveNumbers 159 = .ok (.aload_n 0, 1) := by decide +kernel
theorem dX3_moveNumbers_160 : decode cX3_moveNumbers 160 = .ok (.getfield 23, 3) := by decide +kernel
theorem dX3_moveNumbers_163 : decode cX3_moveNumbers 163 = .ok (.iconst 0, 1) := by decide +kernel
theorem dX3_moveNumbers_164 : decode cX3_moveNumbers 164 = .ok (.invokevirtual 212, 3) := by decide +kernel
theorem dX3_moveNumbers_167 : decode cX3_moveNumbers 167 = .ok (.invokevirtual 120, 3) := by decide +kernel
theorem dX3_moveNumbers_170 : decode cX3_moveNumbers 170 = .ok (.ireturn, 1) := by decide +kernel
theorem dX3_moveNumbers_171 : decode cX3_moveNumbers 171 = .ok (.aload_n 0, 1) := by decide +kernel
theorem dX3_moveNumbers_172 : decode cX3_moveNumbers 172 = .ok (.getfield 23, 3) := by decide +kernel
theorem dX3_moveNumbers_175 : decode cX3_moveNumbers 175 = .ok (.aload_n 0, 1) := by decide +kernel
theorem dX3_moveNumbers_176 : decode cX3_moveNumbers 176 = .ok (.getfield 23, 3) := by decide +kernel
theorem dX3_moveNumbers_179 : decode cX3_moveNumbers 179 = .ok (.getfield 144, 3) := by decide +kernel
theorem dX3_moveNumbers_182 : decode cX3_moveNumbers 182 = .ok (.invokevirtual 120, 3) := by decide +kernel
theorem dX3_moveNumbers_185 : decode cX3_moveNumbers 185 = .ok (.ireturn, 1) := by decide +kernel
theorem dX3_moveNumbers_186 : decode cX3_moveNumbers 186 = .ok (.aload_n 0, 1) := by decide +kernel
theorem dX3_moveNumbers_187 : decode cX3_moveNumbers 187 = .ok (.invokevirtual 314, 3) := by decide +kernel
theorem dX3_moveNumbers_190 : decode cX3_moveNumbers 190 = .ok (.ireturn, 1) := by decide +kernel
theorem dX3_moveNumbers_191 : decode cX3_moveNumbers 191 = .ok (.aload_n 0, 1) := by decide +kernel
theorem dX3_moveNumbers_192 : decode cX3_moveNumbers 192 = .ok (.aload_n 1, 1) := by decide +kernel
theorem dX3_moveNumbers_193 : decode cX3_moveNumbers 193 = .ok (.invokevirtual 317, 3) := by decide +kernel
theorem dX3_moveNumbers_196 : decode cX3_moveNumbers 196 = .ok (.ireturn, 1) := by decide +kernel
theorem dX3_pick_0 : decode cX3_pick 0 = .ok (.aload_n 0, 1) := by decide +kernel
theorem dX3_pick_1 : decode cX3_pick 1 = .ok (.getfield 23, 3) := by decide +kernel
theorem dX3_pick_4 : decode cX3_pick 4 = .ok (.iconst 0, 1) := by decide +kernel
theorem dX3_pick_5 : decode cX3_pick 5 = .ok (.invokevirtual 212, 3) := by decide +kernel
theorem dX3_pick_8 : decode cX3_pick 8 = .ok (.istore_n 1, 1) := by decide +kernel
theorem dX3_pick_9 : decode cX3_pick 9 = .ok (.iload_n 1, 1) := by decide +kernel
theorem dX3_pick_10 : decode cX3_pick 10 = .ok (.ifCond .lt 16, 3) := by decide +kernel
theorem dX3_pick_13 : decode cX3_pick 13 = .ok (.iload_n 1, 1) := by decide +kernel
theorem dX3_pick_14 : decode cX3_pick 14 = .ok (.aload_n 0, 1) := by decide +kernel
theorem dX3_pick_15 : decode cX3_pick 15 = .ok (.getfield 23, 3) := by decide +kernel
theorem dX3_pick_18 : decode cX3_pick 18 = .ok (.getfield 144, 3) := by decide +kernel
theorem dX3_pick_21 : decode cX3_pick 21 = .ok (.iconst 1, 1) := by decide +kernel
theorem dX3_pick_22 : decode cX3_pick 22 = .ok (.isub, 1) := by decide +kernel
theorem dX3_pick_23 : decode cX3_pick 23 = .ok (.if_icmp .lt 6, 3) := by decide +kernel
theorem dX3_pick_26 : decode cX3_pick 26 = .ok (.bipush (-4), 2) := by decide +kernel
theorem dX3_pick_28 : decode cX3_pick 28 = .ok (.ireturn, 1) := by decide +kernel
theorem dX3_pick_29 : decode cX3_pick 29 = .ok (.aload_n 0, 1) := by decide +kernel
theorem dX3_pick_30 : decode cX3_pick 30 = .ok (.getfield 23, 3) := by decide +kernel
theorem dX3_pick_33 : decode cX3_pick 33 = .ok (.aload_n 0, 1) := by decide +kernel
theorem dX3_pick_34 : decode cX3_pick 34 = .ok (.getfield 23, 3) := by decide +kernel
theorem dX3_pick_37 : decode cX3_pick 37 = .ok (.iload_n 1, 1) := by decide +kernel
theorem dX3_pick_38 : decode cX3_pick 38 = .ok (.iconst 1, 1) := by decide +kernel
theorem dX3_pick_39 : decode cX3_pick 39 = .ok (.iadd, 1) := by decide +kernel
theorem dX3_pick_40 : decode cX3_pick 40 = .ok (.invokevirtual 212, 3) := by decide +kernel
theorem dX3_pick_43 : decode cX3_pick 43 = .ok (.invokevirtual 219, 3) := by decide +kernel
theorem dX3_pick_46 : decode cX3_pick 46 = .ok (.iconst 0, 1) := by decide +kernel
theorem dX3_pick_47 : decode cX3_pick 47 = .ok (.ireturn, 1) := by decide +kernel
theorem dX3_useStore_0 : decode cX3_useStore 0 = .ok (.getstatic 279, 3) := by decide +kernel
theorem dX3_useStore_3 : decode cX3_useStore 3 = .ok (.aload_n 1, 1) := by decide +kernel
theorem dX3_useStore_4 : decode cX3_useStore 4 = .ok (.invokevirtual 284, 3) := by decide +kernel
theorem dX3_useStore_7 : decode cX3_useStore 7 = .ok (.iaload, 1) := by decide +kernel
theorem dX3_useStore_8 : decode cX3_useStore 8 = .ok (.tableswitch 120 37 40 #[32, 63, 94, 110], 32) := by decide +kernel
theorem dX3_useStore_40 : decode cX3_useStore 40 = .ok (.aload_n 0, 1) := by decide +kernel
theorem dX3_useStore_41 : decode cX3_useStore 41 = .ok (.getfield 27, 3) := by decide +kernel
theorem dX3_useStore_44 : decode cX3_useStore 44 = .ok (.iconst 1, 1) := by decide +kernel
theorem dX3_useStore_45 : decode cX3_useStore 45 = .ok (.invokevirtual 261, 3) := by decide +kernel
theorem dX3_useStore_48 : decode cX3_useStore 48 = .ok (.ifCond .eq 20, 3) := by decide +kernel
theorem dX3_useStore_51 : decode cX3_useStore 51 = .ok (.aload_n 0, 1) := by decide +kernel
theorem dX3_useStore_52 : decode cX3_useStore 52 = .ok (.getfield 27, 3) := by decide +kernel
theorem dX3_useStore_55 : decode cX3_useStore 55 = .ok (.aload_n 0, 1) := by decide +kernel
theorem dX3_useStore_56 : decode cX3_useStore 56 = .ok (.getfield 23, 3) := by decide +kernel
theorem dX3_useStore_59 : decode cX3_useStore 59 = .ok (.invokevirtual 305, 3) := by decide +kernel
theorem dX3_useStore_62 : decode cX3_useStore 62 = .ok (.invokevirtual 120, 3) := by decide +kernel
theorem dX3_useStore_65 : decode cX3_useStore 65 = .ok (.goto 5, 3) := by decide +kernel
theorem dX3_useStore_68 : decode cX3_useStore 68 = .ok (.bipush (-5), 2) := by decide +kernel
theorem dX3_useStore_70 : decode cX3_useStore 70 = .ok (.ireturn, 1) := by decide +kernel
theorem dX3_useStore_71 : decode cX3_useStore 71 = .ok (.aload_n 0, 1) := by decide +kernel
theorem dX3_useStore_72 : decode cX3_useStore 72 = .ok (.getfield 23, 3) := by decide +kernel
theorem dX3_useStore_75 : decode cX3_useStore 75 = .ok (.iconst 1, 1) := by decide +kernel
theorem dX3_useStore_76 : decode cX3_useStore 76 = .ok (.invokevirtual 261, 3) := by decide +kernel
theorem dX3_useStore_79 : decode cX3_useStore 79 = .ok (.ifCond .eq 20, 3) := by decide +kernel
theorem dX3_useStore_82 : decode cX3_useStore 82 = .ok (.aload_n 0, 1) := by decide +kernel
theorem dX3_useStore_83 : decode cX3_useStore 83 = .ok (.getfield 23, 3) := by decide +kernel
theorem dX3_useStore_86 : decode cX3_useStore 86 = .ok (.aload_n 0, 1) := by decide +kernel
theorem dX3_useStore_87 : decode cX3_useStore 87 = .ok (.getfield 27, 3) := by decide +kernel
theorem dX3_useStore_90 : decode cX3_useStore 90 = .ok (.invokevirtual 305, 3) := by decide +kernel
theorem dX3_useStore_93 : decode cX3_useStore 93 = .ok (.invokevirtual 120, 3) := by decide +kernel
theorem dX3_useStore_96 : decode cX3_useStore 96 = .ok (.goto 5, 3) := by decide +kernel
theorem dX3_useStore_99 : decode cX3_useStore 99 = .ok (.bipush (-3), 2) := by decide +kernel
theorem dX3_useStore_101 : decode cX3_useStore 101 = .ok (.ireturn, 1) := by decide +kernel
theorem dX3_useStore_102 : decode cX3_useStore 102 = .ok (.aload_n 0, 1) := by decide +kernel
theorem dX3_useStore_103 : decode cX3_useStore 103 = .ok (.getfield 23, 3) := by decide +kernel
theorem dX3_useStore_106 : decode cX3_useStore 106 = .ok (.aload_n 0, 1) := by decide +kernel
theorem dX3_useStore_107 : decode cX3_useStore 107 = .ok (.getfield 27, 3) := by decide +kernel
theorem dX3_useStore_110 : decode cX3_useStore 110 = .ok (.iconst 2, 1) := by decide +kernel
theorem dX3_useStore_111 : decode cX3_useStore 111 = .ok (.invokevirtual 212, 3) := by decide +kernel
theorem dX3_useStore_114 : decode cX3_useStore 114 = .ok (.invokevirtual 120, 3) := by decide +kernel
theorem dX3_useStore_117 : decode cX3_useStore 117 = .ok (.ireturn, 1) := by decide +kernel
theorem dX3_useStore_118 : decode cX3_useStore 118 = .ok (.aload_n 0, 1) := by decide +kernel
theorem dX3_useStore_119 : decode cX3_useStore 119 = .ok (.getfield 27, 3) := by decide +kernel
theorem dX3_useStore_122 : decode cX3_useStore 122 = .ok (.iconst 2, 1) := by decide +kernel
theorem dX3_useStore_123 : decode cX3_useStore 123 = .ok (.invokevirtual 296, 3) := by decide +kernel
theorem dX3_useStore_126 : decode cX3_useStore 126 = .ok (.iconst 0, 1) := by decide +kernel
theorem dX3_useStore_127 : decode cX3_useStore 127 = .ok (.ireturn, 1) := by decide +kernel
theorem dX3_useStore_128 : decode cX3_useStore 128 = .ok (.aload_n 0, 1) := by decide +kernel
theorem dX3_useStore_129 : decode cX3_useStore 129 = .ok (.getfield 23, 3) := by decide +kernel
theorem dX3_useStore_132 : decode cX3_useStore 132 = .ok (.aload_n 0, 1) := by decide +kernel
theorem dX3_useStore_133 : decode cX3_useStore 133 = .ok (.getfield 27, 3) := by decide +kernel
theorem dX3_useStore_136 : decode cX3_useStore 136 = .ok (.iconst 0, 1) := by decide +kernel
theorem dX3_useStore_137 : decode cX3_useStore 137 = .ok (.invokevirtual 212, 3) := by decide +kernel
theorem dX3_useStore_140 : decode cX3_useStore 140 = .ok (.invokevirtual 120, 3) := by decide +kernel
theorem dX3_useStore_143 : decode cX3_useStore 143 = .ok (.ireturn, 1) := by decide +kernel
theorem dX3_ofOne_0 : decode cX3_ofOne 0 = .ok (.getstatic 279, 3) := by decide +kernel
theorem dX3_ofOne_3 : decode cX3_ofOne 3 = .ok (.aload_n 1, 1) := by decide +kernel
theorem dX3_ofOne_4 : decode cX3_ofOne 4 = .ok (.invokevirtual 284, 3) := by decide +kernel
theorem dX3_ofOne_7 : decode cX3_ofOne 7 = .ok (.iaload, 1) := by decide +kernel
theorem dX3_ofOne_8 : decode cX3_ofOne 8 = .ok (.tableswitch 98 41 47 #[44, 47, 58, 62, 76, 90, 94], 44) := by decide +kernel
theorem dX3_ofOne_52 : decode cX3_ofOne 52 = .ok (.iload_n 2, 1) := by decide +kernel
theorem dX3_ofOne_53 : decode cX3_ofOne 53 = .ok (.ineg, 1) := by decide +kernel
theorem dX3_ofOne_54 : decode cX3_ofOne 54 = .ok (.ireturn, 1) := by decide +kernel
theorem dX3_ofOne_55 : decode cX3_ofOne 55 = .ok (.iload_n 2, 1) := by decide +kernel
theorem dX3_ofOne_56 : decode cX3_ofOne 56 = .ok (.ifCond .ge 8, 3) := by decide +kernel
theorem dX3_ofOne_59 : decode cX3_ofOne 59 = .ok (.iload_n 2, 1) := by decide +kernel
theorem dX3_ofOne_60 : decode cX3_ofOne 60 = .ok (.ineg, 1) := by decide +kernel
theorem dX3_ofOne_61 : decode cX3_ofOne 61 = .ok (.goto 4, 3) := by decide +kernel
theorem dX3_ofOne_64 : decode cX3_ofOne 64 = .ok (.iload_n 2, 1) := by decide +kernel
theorem dX3_ofOne_65 : decode cX3_ofOne 65 = .ok (.ireturn, 1) := by decide +kernel
theorem dX3_ofOne_66 : decode cX3_ofOne 66 = .ok (.iload_n 2, 1) := by decide +kernel
theorem dX3_ofOne_67 : decode cX3_ofOne 67 = .ok (.iconst (-1), 1) := by decide +kernel
theorem dX3_ofOne_68 : decode cX3_ofOne 68 = .ok (.ixor, 1) := by decide +kernel
theorem dX3_ofOne_69 : decode cX3_ofOne 69 = .ok (.ireturn, 1) := by decide +kernel
theorem dX3_ofOne_70 : decode cX3_ofOne 70 = .ok (.aload_n 0, 1) := by decide +kernel
theorem dX3_ofOne_71 : decode cX3_ofOne 71 = .ok (.iload_n 2, 1) := by decide +kernel
theorem dX3_ofOne_72 : decode cX3_ofOne 72 = .ok (.ifCond .ne 7, 3) := by decide +kernel
theorem dX3_ofOne_75 : decode cX3_ofOne 75 = .ok (.iconst 1, 1) := by decide +kernel
theorem dX3_ofOne_76 : decode cX3_ofOne 76 = .ok (.goto 4, 3) := by decide +kernel
theorem dX3_ofOne_79 : decode cX3_ofOne 79 = .ok (.iconst 0, 1) := by decide +kernel
theorem dX3_ofOne_80 : decode cX3_ofOne 80 = .ok (.invokevirtual 320, 3) := by decide +kernel
theorem dX3_ofOne_83 : decode cX3_ofOne 83 = .ok (.ireturn, 1) := by decide +kernel
theorem dX3_ofOne_84 : decode cX3_ofOne 84 = .ok (.aload_n 0, 1) := by decide +kernel
theorem dX3_ofOne_85 : decode cX3_ofOne 85 = .ok (.iload_n 2, 1) := by decide +kernel
theorem dX3_ofOne_86 : decode cX3_ofOne 86 = .ok (.ifCond .ge 7, 3) := by decide +kernel
theorem dX3_ofOne_89 : decode cX3_ofOne 89 = .ok (.iconst 1, 1) := by decide +kernel
theorem dX3_ofOne_90 : decode cX3_ofOne 90 = .ok (.goto 4, 3) := by decide +kernel
theorem dX3_ofOne_93 : decode cX3_ofOne 93 = .ok (.iconst 0, 1) := by decide +kernel
theorem dX3_ofOne_94 : decode cX3_ofOne 94 = .ok (.invokevirtual 320, 3) := by decide +kernel
theorem dX3_ofOne_97 : decode cX3_ofOne 97 = .ok (.ireturn, 1) := by decide +kernel
theorem dX3_ofOne_98 : decode cX3_ofOne 98 = .ok (.iload_n 2, 1) := by decide +kernel
theorem dX3_ofOne_99 : decode cX3_ofOne 99 = .ok (.iconst 1, 1) := by decide +kernel
theorem dX3_ofOne_100 : decode cX3_ofOne 100 = .ok (.iadd, 1) := by decide +kernel
theorem dX3_ofOne_101 : decode cX3_ofOne 101 = .ok (.ireturn, 1) := by decide +kernel
theorem dX3_ofOne_102 : decode cX3_ofOne 102 = .ok (.iload_n 2, 1) := by decide +kernel
theorem dX3_ofOne_103 : decode cX3_ofOne 103 = .ok (.iconst 1, 1) := by decide +kernel
theorem dX3_ofOne_104 : decode cX3_ofOne 104 = .ok (.isub, 1) := by decide +kernel
theorem dX3_ofOne_105 : decode cX3_ofOne 105 = .ok (.ireturn, 1) := by decide +kernel
theorem dX3_ofOne_106 : decode cX3_ofOne 106 = .ok (.iload_n 2, 1) := by decide +kernel
theorem dX3_ofOne_107 : decode cX3_ofOne 107 = .ok (.iconst 1, 1) := by decide +kernel
theorem dX3_ofOne_108 : decode cX3_ofOne 108 = .ok (.ishl, 1) := by decide +kernel
theorem dX3_ofOne_109 : decode cX3_ofOne 109 = .ok (.ireturn, 1) := by decide +kernel
theorem dX3_truth_0 : decode cX3_truth 0 = .ok (.iload_n 1, 1) := by decide +kernel
theorem dX3_truth_1 : decode cX3_truth 1 = .ok (.ifCond .eq 7, 3) := by decide +kernel
theorem dX3_truth_4 : decode cX3_truth 4 = .ok (.iconst (-1), 1) := by decide +kernel
theorem dX3_truth_5 : decode cX3_truth 5 = .ok (.goto 4, 3) := by decide +kernel
theorem dX3_truth_8 : decode cX3_truth 8 = .ok (.iconst 0, 1) := by decide +kernel
theorem dX3_truth_9 : decode cX3_truth 9 = .ok (.ireturn, 1) := by decide +kernel
theorem dX3_reckonWithTwo_0 : decode cX3_reckonWithTwo 0 = .ok (.aload_n 1, 1) := by decide +kernel
theorem dX3_reckonWithTwo_1 : decode cX3_reckonWithTwo 1 = .ok (.getstatic 324, 3) := by decide +kernel
theorem dX3_reckonWithTwo_4 : decode cX3_reckonWithTwo 4 = .ok (.if_acmp .eq 10, 3) := by decide +kernel
theorem dX3_reckonWithTwo_7 : decode cX3_reckonWithTwo 7 = .ok (.aload_n 1, 1) := by decide +kernel
theorem dX3_reckonWithTwo_8 : decode cX3_reckonWithTwo 8 = .ok (.getstatic 328, 3) := by decide +kernel
theorem dX3_reckonWithTwo_11 : decode cX3_reckonWithTwo 11 = .ok (.if_acmp .ne 7, 3) := by decide +kernel
theorem dX3_reckonWithTwo_14 : decode cX3_reckonWithTwo 14 = .ok (.iconst 1, 1) := by decide +kernel
theorem dX3_reckonWithTwo_15 : decode cX3_reckonWithTwo 15 = .ok (.goto 4, 3) := by decide +kernel
theorem dX3_reckonWithTwo_18 : decode cX3_reckonWithTwo 18 = .ok (.iconst 0, 1) := by decide +kernel
theorem dX3_reckonWithTwo_19 : decode cX3_reckonWithTwo 19 = .ok (.istore_n 2, 1) := by decide +kernel
theorem dX3_reckonWithTwo_20 : decode cX3_reckonWithTwo 20 = .ok (.iload_n 2, 1) := by decide +kernel
theorem dX3_reckonWithTwo_21 : decode cX3_reckonWithTwo 21 = .ok (.ifCond .eq 17, 3) := by decide +kernel
theorem dX3_reckonWithTwo_24 : decode cX3_reckonWithTwo 24 = .ok (.aload_n 0, 1) := by decide +kernel
theorem dX3_reckonWithTwo_25 : decode cX3_reckonWithTwo 25 = .ok (.getfield 23, 3) := by decide +kernel
theorem dX3_reckonWithTwo_28 : decode cX3_reckonWithTwo 28 = .ok (.iconst 0, 1) := by decide +kernel
theorem dX3_reckonWithTwo_29 : decode cX3_reckonWithTwo 29 = .ok (.invokevirtual 212, 3) := by decide +kernel
theorem dX3_reckonWithTwo_32 : decode cX3_reckonWithTwo 32 = .ok (.ifCond .ne 6, 3) := by decide +kernel
theorem dX3_reckonWithTwo_35 : decode cX3_reckonWithTwo 35 = .ok (.bipush (-10), 2) := by decide +kernel
theorem dX3_reckonWithTwo_37 : decode cX3_reckonWithTwo 37 = .ok (.ireturn, 1) := by decide +kernel
theorem dX3_reckonWithTwo_38 : decode cX3_reckonWithTwo 38 = .ok (.aload_n 0, 1) := by decide +kernel
theorem dX3_reckonWithTwo_39 : decode cX3_reckonWithTwo 39 = .ok (.getfield 23, 3) := by decide +kernel
theorem dX3_reckonWithTwo_42 : decode cX3_reckonWithTwo 42 = .ok (.invokevirtual 305, 3) := by decide +kernel
theorem dX3_reckonWithTwo_45 : decode cX3_reckonWithTwo 45 = .ok (.istore_n 3, 1) := by decide +kernel
theorem dX3_reckonWithTwo_46 : decode cX3_reckonWithTwo 46 = .ok (.aload_n 0, 1) := by decide +kernel
theorem dX3_reckonWithTwo_47 : decode cX3_reckonWithTwo 47 = .ok (.getfield 23, 3) := by decide +kernel
theorem dX3_reckonWithTwo_50 : decode cX3_reckonWithTwo 50 = .ok (.invokevirtual 305, 3) := by decide +kernel
theorem dX3_reckonWithTwo_53 : decode cX3_reckonWithTwo 53 = .ok (.istore 4, 2) := by decide +kernel
theorem dX3_reckonWithTwo_55 : decode cX3_reckonWithTwo 55 = .ok (.aload_n 0, 1) := by decide +kernel
theorem dX3_reckonWithTwo_56 : decode cX3_reckonWithTwo 56 = .ok (.getfield 23, 3) := by decide +kernel
theorem dX3_reckonWithTwo_59 : decode cX3_reckonWithTwo 59 = .ok (.iload_n 2, 1) := by decide +kernel
theorem dX3_reckonWithTwo_60 : decode cX3_reckonWithTwo 60 = .ok (.ifCond .eq 14, 3) := by decide +kernel
theorem dX3_reckonWithTwo_63 : decode cX3_reckonWithTwo 63 = .ok (.aload_n 0, 1) := by decide +kernel
theorem dX3_reckonWithTwo_64 : decode cX3_reckonWithTwo 64 = .ok (.aload_n 1, 1) := by decide +kernel
theorem dX3_reckonWithTwo_65 : decode cX3_reckonWithTwo 65 = .ok (.iload 4, 2) := by decide +kernel
theorem dX3_reckonWithTwo_67 : decode cX3_reckonWithTwo 67 = .ok (.iload_n 3, 1) := by decide +kernel
theorem dX3_reckonWithTwo_68 : decode cX3_reckonWithTwo 68 = .ok (.invokevirtual 331, 3) := by decide +kernel
theorem dX3_reckonWithTwo_71 : decode cX3_reckonWithTwo 71 = .ok (.goto 11, 3) := by decide +kernel
theorem dX3_reckonWithTwo_74 : decode cX3_reckonWithTwo 74 = .ok (.aload_n 0, 1) := by decide +kernel
theorem dX3_reckonWithTwo_75 : decode cX3_reckonWithTwo 75 = .ok (.aload_n 1, 1) := by decide +kernel
theorem dX3_reckonWithTwo_76 : decode cX3_reckonWithTwo 76 = .ok (.iload 4, 2) := by decide +kernel
theorem dX3_reckonWithTwo_78 : decode cX3_reckonWithTwo 78 = .ok (.iload_n 3, 1) := by decide +kernel
theorem dX3_reckonWithTwo_79 : decode cX3_reckonWithTwo 79 = .ok (.invokevirtual 335, 3) := by decide +kernel
theorem dX3_reckonWithTwo_82 : decode cX3_reckonWithTwo 82 = .ok (.invokevirtual 120, 3) := by decide +kernel
theorem dX3_reckonWithTwo_85 : decode cX3_reckonWithTwo 85 = .ok (.ireturn, 1) := by decide +kernel
theorem dX3_quotientOrRest_0 : decode cX3_quotientOrRest 0 = .ok (.iload_n 3, 1) := by decide +kernel
theorem dX3_quotientOrRest_1 : decode cX3_quotientOrRest 1 = .ok (.ifCond .ne 5, 3) := by decide +kernel
theorem dX3_quotientOrRest_4 : decode cX3_quotientOrRest 4 = .ok (.iconst 0, 1) := by decide +kernel
theorem dX3_quotientOrRest_5 : decode cX3_quotientOrRest 5 = .ok (.ireturn, 1) := by decide +kernel
theorem dX3_quotientOrRest_6 : decode cX3_quotientOrRest 6 = .ok (.aload_n 1, 1) := by decide +kernel
theorem dX3_quotientOrRest_7 : decode cX3_quotientOrRest 7 = .ok (.getstatic 324, 3) := by decide +kernel
theorem dX3_quotientOrRest_10 : decode cX3_quotientOrRest 10 = .ok (.if_acmp .ne 9, 3) := by decide +kernel
theorem dX3_quotientOrRest_13 : decode cX3_quotientOrRest 13 = .ok (.iload_n 2, 1) := by decide +kernel
theorem dX3_quotientOrRest_14 : decode cX3_quotientOrRest 14 = .ok (.iload_n 3, 1) := by decide +kernel
theorem dX3_quotientOrRest_15 : decode cX3_quotientOrRest 15 = .ok (.idiv, 1) := by decide +kernel
theorem dX3_quotientOrRest_16 : decode cX3_quotientOrRest 16 = .ok (.goto 6, 3) := by decide +kernel
theorem dX3_quotientOrRest_19 : decode cX3_quotientOrRest 19 = .ok (.iload_n 2, 1) := by decide +kernel
theorem dX3_quotientOrRest_20 : decode cX3_quotientOrRest 20 = .ok (.iload_n 3, 1) := by decide +kernel
theorem dX3_quotientOrRest_21 : decode cX3_quotientOrRest 21 = .ok (.irem, 1) := by decide +kernel
theorem dX3_quotientOrRest_22 : decode cX3_quotientOrRest 22 = .ok (.ireturn, 1) := by decide +kernel
theorem dX3_ofTwo_0 : decode cX3_ofTwo 0 = .ok (.getstatic 279, 3) := by decide +kernel
theorem dX3_ofTwo_3 : decode cX3_ofTwo 3 = .ok (.aload_n 1, 1) := by decide +kernel
theorem dX3_ofTwo_4 : decode cX3_ofTwo 4 = .ok (.invokevirtual 284, 3) := by decide +kernel
theorem dX3_ofTwo_7 : decode cX3_ofTwo 7 = .ok (.iaload, 1) := by decide +kernel
theorem dX3_ofTwo_8 : decode cX3_ofTwo 8 = .ok (.tableswitch 132 48 57 #[56, 60, 64, 68, 79, 90, 94, 98, 102, 117], 56) := by decide +kernel
theorem dX3_ofTwo_64 : decode cX3_ofTwo 64 = .ok (.iload_n 2, 1) := by decide +kernel
theorem dX3_ofTwo_65 : decode cX3_ofTwo 65 = .ok (.iload_n 3, 1) := by decide +kernel
theorem dX3_ofTwo_66 : decode cX3_ofTwo 66 = .ok (.iadd, 1) := by decide +kernel
theorem dX3_ofTwo_67 : decode cX3_ofTwo 67 = .ok (.ireturn, 1) := by decide +kernel
theorem dX3_ofTwo_68 : decode cX3_ofTwo 68 = .ok (.iload_n 2, 1) := by decide +kernel
theorem dX3_ofTwo_69 : decode cX3_ofTwo 69 = .ok (.iload_n 3, 1) := by decide +kernel
theorem dX3_ofTwo_70 : decode cX3_ofTwo 70 = .ok (.isub, 1) := by decide +kernel
theorem dX3_ofTwo_71 : decode cX3_ofTwo 71 = .ok (.ireturn, 1) := by decide +kernel
theorem dX3_ofTwo_72 : decode cX3_ofTwo 72 = .ok (.iload_n 2, 1) := by decide +kernel
theorem dX3_ofTwo_73 : decode cX3_ofTwo 73 = .ok (.iload_n 3, 1) := by decide +kernel
theorem dX3_ofTwo_74 : decode cX3_ofTwo 74 = .ok (.imul, 1) := by decide +kernel
theorem dX3_ofTwo_75 : decode cX3_ofTwo 75 = .ok (.ireturn, 1) := by decide +kernel
theorem dX3_ofTwo_76 : decode cX3_ofTwo 76 = .ok (.iload_n 2, 1) := by decide +kernel
theorem dX3_ofTwo_77 : decode cX3_ofTwo 77 = .ok (.iload_n 3, 1) := by decide +kernel
theorem dX3_ofTwo_78 : decode cX3_ofTwo 78 = .ok (.if_icmp .ge 7, 3) := by decide +kernel
theorem dX3_ofTwo_81 : decode cX3_ofTwo 81 = .ok (.iload_n 2, 1) := by decide +kernel
theorem dX3_ofTwo_82 : decode cX3_ofTwo 82 = .ok (.goto 4, 3) := by decide +kernel
theorem dX3_ofTwo_85 : decode cX3_ofTwo 85 = .ok (.iload_n 3, 1) := by decide +kernel
theorem dX3_ofTwo_86 : decode cX3_ofTwo 86 = .ok (.ireturn, 1) := by decide +kernel
theorem dX3_ofTwo_87 : decode cX3_ofTwo 87 = .ok (.iload_n 2, 1) := by decide +kernel
theorem dX3_ofTwo_88 : decode cX3_ofTwo 88 = .ok (.iload_n 3, 1) := by decide +kernel
theorem dX3_ofTwo_89 : decode cX3_ofTwo 89 = .ok (.if_icmp .le 7, 3) := by decide +kernel
theorem dX3_ofTwo_92 : decode cX3_ofTwo 92 = .ok (.iload_n 2, 1) := by decide +kernel
theorem dX3_ofTwo_93 : decode cX3_ofTwo 93 = .ok (.goto 4, 3) := by decide +kernel
theorem dX3_ofTwo_96 : decode cX3_ofTwo 96 = .ok (.iload_n 3, 1) := by decide +kernel
theorem dX3_ofTwo_97 : decode cX3_ofTwo 97 = .ok (.ireturn, 1) := by decide +kernel
theorem dX3_ofTwo_98 : decode cX3_ofTwo 98 = .ok (.iload_n 2, 1) := by decide +kernel
theorem dX3_ofTwo_99 : decode cX3_ofTwo 99 = .ok (.iload_n 3, 1) := by decide +kernel
theorem dX3_ofTwo_100 : decode cX3_ofTwo 100 = .ok (.iand, 1) := by decide +kernel
theorem dX3_ofTwo_101 : decode cX3_ofTwo 101 = .ok (.ireturn, 1) := by decide +kernel
theorem dX3_ofTwo_102 : decode cX3_ofTwo 102 = .ok (.iload_n 2, 1) := by decide +kernel
theorem dX3_ofTwo_103 : decode cX3_ofTwo 103 = .ok (.iload_n 3, 1) := by decide +kernel
theorem dX3_ofTwo_104 : decode cX3_ofTwo 104 = .ok (.ior, 1) := by decide +kernel
theorem dX3_ofTwo_105 : decode cX3_ofTwo 105 = .ok (.ireturn, 1) := by decide +kernel
theorem dX3_ofTwo_106 : decode cX3_ofTwo 106 = .ok (.iload_n 2, 1) := by decide +kernel
theorem dX3_ofTwo_107 : decode cX3_ofTwo 107 = .ok (.iload_n 3, 1) := by decide +kernel
theorem dX3_ofTwo_108 : decode cX3_ofTwo 108 = .ok (.ixor, 1) := by decide +kernel
theorem dX3_ofTwo_109 : decode cX3_ofTwo 109 = .ok (.ireturn, 1) := by decide +kernel
theorem dX3_ofTwo_110 : decode cX3_ofTwo 110 = .ok (.aload_n 0, 1) := by decide +kernel
theorem dX3_ofTwo_111 : decode cX3_ofTwo 111 = .ok (.iload_n 2, 1) := by decide +kernel
theorem dX3_ofTwo_112 : decode cX3_ofTwo 112 = .ok (.iload_n 3, 1) := by decide +kernel
theorem dX3_ofTwo_113 : decode cX3_ofTwo 113 = .ok (.if_icmp .ne 7, 3) := by decide +kernel
theorem dX3_ofTwo_116 : decode cX3_ofTwo 116 = .ok (.iconst 1, 1) := by decide +kernel
theorem dX3_ofTwo_117 : decode cX3_ofTwo 117 = .ok (.goto 4, 3) := by decide +kernel
theorem dX3_ofTwo_120 : decode cX3_ofTwo 120 = .ok (.iconst 0, 1) := by decide +kernel
theorem dX3_ofTwo_121 : decode cX3_ofTwo 121 = .ok (.invokevirtual 320, 3) := by decide +kernel
theorem dX3_ofTwo_124 : decode cX3_ofTwo 124 = .ok (.ireturn, 1) := by decide +kernel
theorem dX3_ofTwo_125 : decode cX3_ofTwo 125 = .ok (.aload_n 0, 1) := by decide +kernel
theorem dX3_ofTwo_126 : decode cX3_ofTwo 126 = .ok (.iload_n 2, 1) := by decide +kernel
theorem dX3_ofTwo_127 : decode cX3_ofTwo 127 = .ok (.iload_n 3, 1) := by decide +kernel
theorem dX3_ofTwo_128 : decode cX3_ofTwo 128 = .ok (.if_icmp .ge 7, 3) := by decide +kernel
theorem dX3_ofTwo_131 : decode cX3_ofTwo 131 = .ok (.iconst 1, 1) := by decide +kernel
theorem dX3_ofTwo_132 : decode cX3_ofTwo 132 = .ok (.goto 4, 3) := by decide +kernel
theorem dX3_ofTwo_135 : decode cX3_ofTwo 135 = .ok (.iconst 0, 1) := by decide +kernel
theorem dX3_ofTwo_136 : decode cX3_ofTwo 136 = .ok (.invokevirtual 320, 3) := by decide +kernel
theorem dX3_ofTwo_139 : decode cX3_ofTwo 139 = .ok (.ireturn, 1) := by decide +kernel
theorem dX3_ofTwo_140 : decode cX3_ofTwo 140 = .ok (.aload_n 0, 1) := by decide +kernel
theorem dX3_ofTwo_141 : decode cX3_ofTwo 141 = .ok (.iload_n 2, 1) := by decide +kernel
theorem dX3_ofTwo_142 : decode cX3_ofTwo 142 = .ok (.ldc_w 338, 3) := by decide +kernel
theorem dX3_ofTwo_145 : decode cX3_ofTwo 145 = .ok (.ixor, 1) := by decide +kernel
theorem dX3_ofTwo_146 : decode cX3_ofTwo 146 = .ok (.iload_n 3, 1) := by decide +kernel
theorem dX3_ofTwo_147 : decode cX3_ofTwo 147 = .ok (.ldc_w 338, 3) := by decide +kernel
theorem dX3_ofTwo_150 : decode cX3_ofTwo 150 = .ok (.ixor, 1) := by decide +kernel
theorem dX3_ofTwo_151 : decode cX3_ofTwo 151 = .ok (.if_icmp .ge 7, 3) := by decide +kernel
theorem dX3_ofTwo_154 : decode cX3_ofTwo 154 = .ok (.iconst 1, 1) := by decide +kernel
theorem dX3_ofTwo_155 : decode cX3_ofTwo 155 = .ok (.goto 4, 3) := by decide +kernel
theorem dX3_ofTwo_158 : decode cX3_ofTwo 158 = .ok (.iconst 0, 1) := by decide +kernel
theorem dX3_ofTwo_159 : decode cX3_ofTwo 159 = .ok (.invokevirtual 320, 3) := by decide +kernel
theorem dX3_ofTwo_162 : decode cX3_ofTwo 162 = .ok (.ireturn, 1) := by decide +kernel
theorem dX3_useMemory_0 : decode cX3_useMemory 0 = .ok (.getstatic 279, 3) := by decide +kernel
theorem dX3_useMemory_3 : decode cX3_useMemory 3 = .ok (.aload_n 1, 1) := by decide +kernel
theorem dX3_useMemory_4 : decode cX3_useMemory 4 = .ok (.invokevirtual 284, 3) := by decide +kernel
theorem dX3_useMemory_7 : decode cX3_useMemory 7 = .ok (.iaload, 1) := by decide +kernel
theorem dX3_useMemory_8 : decode cX3_useMemory 8 = .ok (.tableswitch 89 58 60 #[28, 43, 66], 28) := by decide +kernel
theorem dX3_useMemory_36 : decode cX3_useMemory 36 = .ok (.aload_n 0, 1) := by decide +kernel
theorem dX3_useMemory_37 : decode cX3_useMemory 37 = .ok (.getfield 23, 3) := by decide +kernel
theorem dX3_useMemory_40 : decode cX3_useMemory 40 = .ok (.aload_n 0, 1) := by decide +kernel
theorem dX3_useMemory_41 : decode cX3_useMemory 41 = .ok (.getfield 33, 3) := by decide +kernel
theorem dX3_useMemory_44 : decode cX3_useMemory 44 = .ok (.getfield 339, 3) := by decide +kernel
theorem dX3_useMemory_47 : decode cX3_useMemory 47 = .ok (.invokevirtual 120, 3) := by decide +kernel
theorem dX3_useMemory_50 : decode cX3_useMemory 50 = .ok (.ireturn, 1) := by decide +kernel
theorem dX3_useMemory_51 : decode cX3_useMemory 51 = .ok (.aload_n 0, 1) := by decide +kernel
theorem dX3_useMemory_52 : decode cX3_useMemory 52 = .ok (.getfield 23, 3) := by decide +kernel
theorem dX3_useMemory_55 : decode cX3_useMemory 55 = .ok (.aload_n 0, 1) := by decide +kernel
theorem dX3_useMemory_56 : decode cX3_useMemory 56 = .ok (.getfield 33, 3) := by decide +kernel
theorem dX3_useMemory_59 : decode cX3_useMemory 59 = .ok (.aload_n 0, 1) := by decide +kernel
theorem dX3_useMemory_60 : decode cX3_useMemory 60 = .ok (.getfield 23, 3) := by decide +kernel
theorem dX3_useMemory_63 : decode cX3_useMemory 63 = .ok (.iconst 0, 1) := by decide +kernel
theorem dX3_useMemory_64 : decode cX3_useMemory 64 = .ok (.invokevirtual 212, 3) := by decide +kernel
theorem dX3_useMemory_67 : decode cX3_useMemory 67 = .ok (.invokevirtual 159, 3) := by decide +kernel
theorem dX3_useMemory_70 : decode cX3_useMemory 70 = .ok (.invokevirtual 342, 3) := by decide +kernel
theorem dX3_useMemory_73 : decode cX3_useMemory 73 = .ok (.ireturn, 1) := by decide +kernel
theorem dX3_useMemory_74 : decode cX3_useMemory 74 = .ok (.aload_n 0, 1) := by decide +kernel
theorem dX3_useMemory_75 : decode cX3_useMemory 75 = .ok (.getfield 23, 3) := by decide +kernel
theorem dX3_useMemory_78 : decode cX3_useMemory 78 = .ok (.aload_n 0, 1) := by decide +kernel
theorem dX3_useMemory_79 : decode cX3_useMemory 79 = .ok (.getfield 33, 3) := by decide +kernel
theorem dX3_useMemory_82 : decode cX3_useMemory 82 = .ok (.aload_n 0, 1) := by decide +kernel
theorem dX3_useMemory_83 : decode cX3_useMemory 83 = .ok (.getfield 23, 3) := by decide +kernel
theorem dX3_useMemory_86 : decode cX3_useMemory 86 = .ok (.iconst 0, 1) := by decide +kernel
theorem dX3_useMemory_87 : decode cX3_useMemory 87 = .ok (.invokevirtual 212, 3) := by decide +kernel
theorem dX3_useMemory_90 : decode cX3_useMemory 90 = .ok (.invokevirtual 345, 3) := by decide +kernel
theorem dX3_useMemory_93 : decode cX3_useMemory 93 = .ok (.invokevirtual 342, 3) := by decide +kernel
theorem dX3_useMemory_96 : decode cX3_useMemory 96 = .ok (.ireturn, 1) := by decide +kernel
theorem dX3_useMemory_97 : decode cX3_useMemory 97 = .ok (.aload_n 0, 1) := by decide +kernel
theorem dX3_useMemory_98 : decode cX3_useMemory 98 = .ok (.aload_n 1, 1) := by decide +kernel
theorem dX3_useMemory_99 : decode cX3_useMemory 99 = .ok (.aload_n 0, 1) := by decide +kernel
theorem dX3_useMemory_100 : decode cX3_useMemory 100 = .ok (.getfield 23, 3) := by decide +kernel
theorem dX3_useMemory_103 : decode cX3_useMemory 103 = .ok (.iconst 0, 1) := by decide +kernel
theorem dX3_useMemory_104 : decode cX3_useMemory 104 = .ok (.invokevirtual 212, 3) := by decide +kernel
theorem dX3_useMemory_107 : decode cX3_useMemory 107 = .ok (.invokevirtual 348, 3) := by decide +kernel
theorem dX3_useMemory_110 : decode cX3_useMemory 110 = .ok (.ireturn, 1) := by decide +kernel
theorem dX3_useCell_0 : decode cX3_useCell 0 = .ok (.aload_n 0, 1) := by decide +kernel
theorem dX3_useCell_1 : decode cX3_useCell 1 = .ok (.getfield 33, 3) := by decide +kernel
theorem dX3_useCell_4 : decode cX3_useCell 4 = .ok (.iload_n 2, 1) := by decide +kernel
theorem dX3_useCell_5 : decode cX3_useCell 5 = .ok (.invokevirtual 178, 3) := by decide +kernel
theorem dX3_useCell_8 : decode cX3_useCell 8 = .ok (.ifCond .ne 6, 3) := by decide +kernel
theorem dX3_useCell_11 : decode cX3_useCell 11 = .ok (.bipush (-9), 2) := by decide +kernel
theorem dX3_useCell_13 : decode cX3_useCell 13 = .ok (.ireturn, 1) := by decide +kernel
theorem dX3_useCell_14 : decode cX3_useCell 14 = .ok (.aload_n 1, 1) := by decide +kernel
theorem dX3_useCell_15 : decode cX3_useCell 15 = .ok (.getstatic 351, 3) := by decide +kernel
theorem dX3_useCell_18 : decode cX3_useCell 18 = .ok (.if_acmp .ne 20, 3) := by decide +kernel
theorem dX3_useCell_21 : decode cX3_useCell 21 = .ok (.aload_n 0, 1) := by decide +kernel
theorem dX3_useCell_22 : decode cX3_useCell 22 = .ok (.getfield 23, 3) := by decide +kernel
theorem dX3_useCell_25 : decode cX3_useCell 25 = .ok (.aload_n 0, 1) := by decide +kernel
theorem dX3_useCell_26 : decode cX3_useCell 26 = .ok (.getfield 33, 3) := by decide +kernel
theorem dX3_useCell_29 : decode cX3_useCell 29 = .ok (.iload_n 2, 1) := by decide +kernel
theorem dX3_useCell_30 : decode cX3_useCell 30 = .ok (.invokevirtual 181, 3) := by decide +kernel
theorem dX3_useCell_33 : decode cX3_useCell 33 = .ok (.invokevirtual 219, 3) := by decide +kernel
theorem dX3_useCell_36 : decode cX3_useCell 36 = .ok (.iconst 0, 1) := by decide +kernel
theorem dX3_useCell_37 : decode cX3_useCell 37 = .ok (.ireturn, 1) := by decide +kernel
theorem dX3_useCell_38 : decode cX3_useCell 38 = .ok (.aload_n 1, 1) := by decide +kernel
theorem dX3_useCell_39 : decode cX3_useCell 39 = .ok (.getstatic 354, 3) := by decide +kernel
theorem dX3_useCell_42 : decode cX3_useCell 42 = .ok (.if_acmp .ne 14, 3) := by decide +kernel
theorem dX3_useCell_45 : decode cX3_useCell 45 = .ok (.aload_n 0, 1) := by decide +kernel
theorem dX3_useCell_46 : decode cX3_useCell 46 = .ok (.getfield 33, 3) := by decide +kernel
theorem dX3_useCell_49 : decode cX3_useCell 49 = .ok (.iload_n 2, 1) := by decide +kernel
theorem dX3_useCell_50 : decode cX3_useCell 50 = .ok (.invokevirtual 181, 3) := by decide +kernel
theorem dX3_useCell_53 : decode cX3_useCell 53 = .ok (.goto 4, 3) := by decide +kernel
theorem dX3_useCell_56 : decode cX3_useCell 56 = .ok (.iconst 0, 1) := by decide +kernel
theorem dX3_useCell_57 : decode cX3_useCell 57 = .ok (.istore_n 3, 1) := by decide +kernel
theorem dX3_useCell_58 : decode cX3_useCell 58 = .ok (.aload_n 0, 1) := by decide +kernel
theorem dX3_useCell_59 : decode cX3_useCell 59 = .ok (.getfield 33, 3) := by decide +kernel
theorem dX3_useCell_62 : decode cX3_useCell 62 = .ok (.iload_n 2, 1) := by decide +kernel
theorem dX3_useCell_63 : decode cX3_useCell 63 = .ok (.iload_n 3, 1) := by decide +kernel
theorem dX3_useCell_64 : decode cX3_useCell 64 = .ok (.aload_n 0, 1) := by decide +kernel
theorem dX3_useCell_65 : decode cX3_useCell 65 = .ok (.getfield 23, 3) := by decide +kernel
theorem dX3_useCell_68 : decode cX3_useCell 68 = .ok (.iconst 1, 1) := by decide +kernel
theorem dX3_useCell_69 : decode cX3_useCell 69 = .ok (.invokevirtual 212, 3) := by decide +kernel
theorem dX3_useCell_72 : decode cX3_useCell 72 = .ok (.iadd, 1) := by decide +kernel
theorem dX3_useCell_73 : decode cX3_useCell 73 = .ok (.invokevirtual 357, 3) := by decide +kernel
theorem dX3_useCell_76 : decode cX3_useCell 76 = .ok (.aload_n 0, 1) := by decide +kernel
theorem dX3_useCell_77 : decode cX3_useCell 77 = .ok (.getfield 23, 3) := by decide +kernel
theorem dX3_useCell_80 : decode cX3_useCell 80 = .ok (.iconst 2, 1) := by decide +kernel
theorem dX3_useCell_81 : decode cX3_useCell 81 = .ok (.invokevirtual 296, 3) := by decide +kernel
theorem dX3_useCell_84 : decode cX3_useCell 84 = .ok (.iconst 0, 1) := by decide +kernel
theorem dX3_useCell_85 : decode cX3_useCell 85 = .ok (.ireturn, 1) := by decide +kernel
theorem dX3_write_0 : decode cX3_write 0 = .ok (.getstatic 279, 3) := by decide +kernel
theorem dX3_write_3 : decode cX3_write 3 = .ok (.aload_n 1, 1) := by decide +kernel
theorem dX3_write_4 : decode cX3_write 4 = .ok (.invokevirtual 284, 3) := by decide +kernel
theorem dX3_write_7 : decode cX3_write 7 = .ok (.iaload, 1) := by decide +kernel
theorem dX3_write_8 : decode cX3_write 8 = .ok (.lookupswitch 73 #[(61, 28), (62, 53)], 28) := by decide +kernel
theorem dX3_write_36 : decode cX3_write 36 = .ok (.aload_n 0, 1) := by decide +kernel
theorem dX3_write_37 : decode cX3_write 37 = .ok (.getfield 54, 3) := by decide +kernel
theorem dX3_write_40 : decode cX3_write 40 = .ok (.aload_n 0, 1) := by decide +kernel
theorem dX3_write_41 : decode cX3_write 41 = .ok (.getfield 23, 3) := by decide +kernel
theorem dX3_write_44 : decode cX3_write 44 = .ok (.invokevirtual 305, 3) := by decide +kernel
theorem dX3_write_47 : decode cX3_write 47 = .ok (.invokevirtual 361, 3) := by decide +kernel
theorem dX3_write_50 : decode cX3_write 50 = .ok (.aload_n 0, 1) := by decide +kernel
theorem dX3_write_51 : decode cX3_write 51 = .ok (.getfield 54, 3) := by decide +kernel
theorem dX3_write_54 : decode cX3_write 54 = .ok (.bipush 32, 2) := by decide +kernel
theorem dX3_write_56 : decode cX3_write 56 = .ok (.invokevirtual 364, 3) := by decide +kernel
theorem dX3_write_59 : decode cX3_write 59 = .ok (.iconst 0, 1) := by decide +kernel
theorem dX3_write_60 : decode cX3_write 60 = .ok (.ireturn, 1) := by decide +kernel
theorem dX3_write_61 : decode cX3_write 61 = .ok (.aload_n 0, 1) := by decide +kernel
theorem dX3_write_62 : decode cX3_write 62 = .ok (.getfield 54, 3) := by decide +kernel
theorem dX3_write_65 : decode cX3_write 65 = .ok (.aload_n 0, 1) := by decide +kernel
theorem dX3_write_66 : decode cX3_write 66 = .ok (.getfield 23, 3) := by decide +kernel
theorem dX3_write_69 : decode cX3_write 69 = .ok (.invokevirtual 305, 3) := by decide +kernel
theorem dX3_write_72 : decode cX3_write 72 = .ok (.bipush 127, 2) := by decide +kernel
theorem dX3_write_74 : decode cX3_write 74 = .ok (.iand, 1) := by decide +kernel
theorem dX3_write_75 : decode cX3_write 75 = .ok (.i2c, 1) := by decide +kernel
theorem dX3_write_76 : decode cX3_write 76 = .ok (.invokevirtual 364, 3) := by decide +kernel
theorem dX3_write_79 : decode cX3_write 79 = .ok (.iconst 0, 1) := by decide +kernel
theorem dX3_write_80 : decode cX3_write 80 = .ok (.ireturn, 1) := by decide +kernel
theorem dX3_write_81 : decode cX3_write 81 = .ok (.aload_n 0, 1) := by decide +kernel
theorem dX3_write_82 : decode cX3_write 82 = .ok (.getfield 54, 3) := by decide +kernel
theorem dX3_write_85 : decode cX3_write 85 = .ok (.bipush 10, 2) := by decide +kernel
theorem dX3_write_87 : decode cX3_write 87 = .ok (.invokevirtual 364, 3) := by decide +kernel
theorem dX3_write_90 : decode cX3_write 90 = .ok (.iconst 0, 1) := by decide +kernel
theorem dX3_write_91 : decode cX3_write 91 = .ok (.ireturn, 1) := by decide +kernel
theorem dX3_control_0 : decode cX3_control 0 = .ok (.aload_n 1, 1) := by decide +kernel
theorem dX3_control_1 : decode cX3_control 1 = .ok (.getstatic 367, 3) := by decide +kernel
theorem dX3_control_4 : decode cX3_control 4 = .ok (.if_acmp .ne 11, 3) := by decide +kernel
